theorem mw_cl_2_18 : (Cond.classLink RX2 18 RX6 : Cond) ∈ cw := cw_of (List.mem_append_right _ (List.mem_append_right _ (List.mem_append_left _ (List.mem_of_getElem? (i := 29) (by decide +kernel))))) (by decide +kernel)
theorem mw_cl_2_25 : (Cond.classLink RX2 25 RX3 : Cond) ∈ cw := cw_of (List.mem_append_right _ (List.mem_append_right _ (List.mem_append_left _ (List.mem_of_getElem? (i := 31) (by decide +kernel))))) (by decide +kernel)
theorem mw_cl_2_9 : (Cond.classLink RX2 9 RX8 : Cond) ∈ cw := cw_of (List.mem_append_right _ (List.mem_append_right _ (List.mem_append_left _ (List.mem_of_getElem? (i := 27) (by decide +kernel))))) (by decide +kernel)
theorem mw_code_X3_init : (Cond.code yX3_init cX3_init 1 none : Cond) ∈ cw := cw_of (List.mem_append_right _ (List.mem_append_right _ (List.mem_append_left _ (List.mem_of_getElem? (i := 35) rfl)))) (by decide +kernel)
theorem mw_code_X8_init : (Cond.code yX8_init cX8_init 1 none : Cond) ∈ cw := cw_of (List.mem_append_right _ (List.mem_append_left _ (List.mem_of_getElem? (i := 78) rfl))) (by decide +kernel)
theorem mw_inst_X3_init : (Cond.instanceMethod yX3_init : Cond) ∈ cw := cw_of (List.mem_append_right _ (List.mem_append_right _ (List.mem_append_left _ (List.mem_of_getElem? (i := 34) (by decide +kernel))))) (by decide +kernel)
theorem mw_inst_X8_init : (Cond.instanceMethod yX8_init : Cond) ∈ cw := cw_of (List.mem_append_right _ (List.mem_append_left _ (List.mem_of_getElem? (i := 77) (by decide +kernel)))) (by decide +kernel)
theorem mw_insta_3 : (Cond.instantiable RX3 4 : Cond) ∈ cw := cw_of (List.mem_append_right _ (List.mem_append_right _ (List.mem_append_left _ (List.mem_of_getElem? (i := 32) (by decide +kernel))))) (by decide +kernel)
theorem mw_insta_8 : (Cond.instantiable RX8 10 : Cond) ∈ cw := cw_of (List.mem_append_right _ (List.mem_append_left _ (List.mem_of_getElem? (i := 75) (by decide +kernel)))) (by decide +kernel)
theorem mw_ml_2_3 : (Cond.methodLink RX2 3 Lib.objectInit : Cond) ∈ cw := cw_of (List.mem_append_right _ (List.mem_append_right _ (List.mem_append_left _ (List.mem_of_getElem? (i := 26) (by decide +kernel))))) (by decide +kernel)
theorem mw_mn_2_11 : (Cond.methodLinkNest RX2 11 yX8_init "LureTown" : Cond) ∈ cw := cw_of (List.mem_append_right _ (List.mem_append_right _ (List.mem_append_left _ (List.mem_of_getElem? (i := 28) (by decide +kernel))))) (by decide +kernel)
theorem mw_mn_2_20 : (Cond.methodLinkNest RX2 20 yX6_init "LureTown" : Cond) ∈ cw := cw_of (List.mem_append_right _ (List.mem_append_right _ (List.mem_append_left _ (List.mem_of_getElem? (i := 30) (by decide +kernel))))) (by decide +kernel)
theorem mw_mn_2_27 : (Cond.methodLinkNest RX2 27 yX3_init "LureTown" : Cond) ∈ cw := cw_of (List.mem_append_right _ (List.mem_append_right _ (List.mem_append_left _ (List.mem_of_getElem? (i := 33) (by decide +kernel))))) (by decide +kernel)
theorem dX2_init_0 : decode cX2_init 0 = .ok (.aload_n 0, 1) := by decide +kernel
theorem dX2_init_1 : decode cX2_init 1 = .ok (.invokespecial 3, 3) := by decide +kernel
theorem dX2_init_4 : decode cX2_init 4 = .ok (.aload_n 0, 1) := by decide +kernel
theorem dX2_init_5 : decode cX2_init 5 = .ok (.new 9, 3) := by decide +kernel
theorem dX2_init_8 : decode cX2_init 8 = .ok (.dup, 1) := by decide +kernel
theorem dX2_init_9 : decode cX2_init 9 = .ok (.invokespecial 11, 3) := by decide +kernel
theorem dX2_init_12 : decode cX2_init 12 = .ok (.putfield 12, 3) := by decide +kernel
theorem dX2_init_15 : decode cX2_init 15 = .ok (.aload_n 0, 1) := by decide +kernel
theorem dX2_init_16 : decode cX2_init 16 = .ok (.new 18, 3) := by decide +kernel
theorem dX2_init_19 : decode cX2_init 19 = .ok (.dup, 1) := by decide +kernel
theorem dX2_init_20 : decode cX2_init 20 = .ok (.invokespecial 20, 3) := by decide +kernel
theorem dX2_init_23 : decode cX2_init 23 = .ok (.putfield 21, 3) := by decide +kernel
theorem dX2_init_26 : decode cX2_init 26 = .ok (.aload_n 0, 1) := by decide +kernel
theorem dX2_init_27 : decode cX2_init 27 = .ok (.new 25, 3) := by decide +kernel
theorem dX2_init_30 : decode cX2_init 30 = .ok (.dup, 1) := by decide +kernel
theorem dX2_init_31 : decode cX2_init 31 = .ok (.invokespecial 27, 3) := by decide +kernel
theorem dX2_init_34 : decode cX2_init 34 = .ok (.putfield 28, 3) := by decide +kernel
theorem dX2_init_37 : decode cX2_init 37 = .ok (.aload_n 0, 1) := by decide +kernel
theorem dX2_init_38 : decode cX2_init 38 = .ok (.iconst (-1), 1) := by decide +kernel
theorem dX2_init_39 : decode cX2_init 39 = .ok (.putfield 32, 3) := by decide +kernel
theorem dX2_init_42 : decode cX2_init 42 = .ok (.aload_n 0, 1) := by decide +kernel
theorem dX2_init_43 : decode cX2_init 43 = .ok (.iconst 0, 1) := by decide +kernel
theorem dX2_init_44 : decode cX2_init 44 = .ok (.putfield 36, 3) := by decide +kernel
theorem dX2_init_47 : decode cX2_init 47 = .ok (.return_, 1) := by decide +kernel
theorem hd_X3_init : yX3_init.cls ≠ "java/lang/invoke/MethodHandle" ∧ yX3_init.cls ≠ "java/lang/invoke/VarHandle" ∧ (parseMethodDescriptor yX3_init.desc).map (fun d => d.parameters.length) = some 0 := ⟨by decide +kernel, by decide +kernel, by decide +kernel⟩
theorem hd_X8_init : yX8_init.cls ≠ "java/lang/invoke/MethodHandle" ∧ yX8_init.cls ≠ "java/lang/invoke/VarHandle" ∧ (parseMethodDescriptor yX8_init.desc).map (fun d => d.parameters.length) = some 0 := ⟨by decide +kernel, by decide +kernel, by decide +kernel⟩
set_option maxHeartbeats 4000000 in
set_option maxRecDepth 100000 in
theorem n_Moment (l : Launch) (D : va_G) (K : Nat → ClassId) (pp : Nat) (app : at_ 2 pp = true) (h0 : Nat) : mV (S := Nat → Nat) l yX2_init cX2_init 1 ({ frames := 3, cells := 24, slots := 213, locals := 60 }) D K [(h0, .inr (2, [.null, .null, .null, .int 0, .int 0]))] [.ref h0] (fun g => g pp = h0) (fun g => Bk K pp 25 g) := by
  refine m_enterV (by decide) (Nat.le_of_ble_eq_true rfl) ?_
  intro p e s m args below meth c A ls E hr hN G hl
  have E : mE p s m meth c cX2_init args 1 RX2 D K A := E
  have hl : lv_has ls 1 [(0, .ref h0)] := hl
  obtain ⟨H, hH⟩ : ∃ H, H = s.heap := ⟨_, rfl⟩
  obtain ⟨locs, hlo⟩ : ∃ L : List Loc, L = [] := ⟨_, rfl⟩
  rw [← hH, ← hlo] at G
  rw [← hH, ← hlo]
  clear hH hlo
  obtain ⟨ac0, hac0⟩ : ∃ w : va_W, w = [] := ⟨_, rfl⟩
  have G : mG D A s H locs ((h0, .inr (2, [.null, .null, .null, .int 0, .int 0])) :: ac0) := by rw [hac0]; exact G
  refine lv_aload_n E.1 E.2.1 dX2_init_0 rfl (lv_at hl 0 rfl) ?_
  refine m_objInit E hl mw_ml_2_3 dX2_init_1 (by decide) (Nat.le_of_ble_eq_true rfl) (by decide) ?_
  refine lv_aload_n E.1 E.2.1 dX2_init_4 rfl (lv_at hl 0 rfl) ?_
  refine m_new E G 8 (C := RX8) (T := TX8) (N := 10) rfl fr_X8 mw_cl_2_9 mw_insta_8 mw_ini_8 (by decide) (by decide) dX2_init_5 (fun q1 H G => ?_)
  have G : mG D A s H locs ((q1, .inr (8, [.int 0, .int 0, .int 0, .int 0, .null, .null, .null, .null, .null, .null])) :: (h0, .inr (2, [.null, .null, .null, .int 0, .int 0])) :: ac0) := G.pm (pm_f _ _)
  refine lv_dup E.1 E.2.1 dX2_init_8 rfl ?_
  refine n_in E G hl (n_Town l D K (pp + 1) (at_sub 8 1 app (by decide) (by decide)) q1) rfl mw_code_X8_init mw_ini_8 mw_mn_2_11 mw_inst_X8_init hd_X8_init ⟨by decide, by decide⟩ rfl (Nat.le_of_ble_eq_true rfl) ⟨by decide, by decide⟩ dX2_init_9 (fun g2 H locs hp3 G => ?_)
  obtain ⟨ac4, hac4⟩ : ∃ w : va_W, w = ac0 ++ (Bk K (pp + 1) 13 g2) := ⟨_, rfl⟩
  have G : mG D A s H locs ((h0, .inr (2, [.null, .null, .null, .int 0, .int 0])) :: ac4) := by rw [hac4]; exact G
  refine m_putF E G hN 0 (ci := 2) rfl 0 (C := RX2) (T := TX2) (N := 5) rfl (by decide) mw_fl_2_12 rfl rfl rfl rfl (Nat.le_of_ble_eq_true rfl) dX2_init_12 (fun H locs G => ?_)
  have G : mG D A s H locs ((h0, .inr (2, [.ref q1, .null, .null, .int 0, .int 0])) :: ac4) := G
  refine lv_aload_n E.1 E.2.1 dX2_init_15 rfl (lv_at hl 0 rfl) ?_
  refine m_new E G 6 (C := RX6) (T := TX6) (N := 8) rfl fr_X6 mw_cl_2_18 mw_insta_6 mw_ini_6 (by decide) (by decide) dX2_init_16 (fun q5 H G => ?_)
  have G : mG D A s H locs ((q5, .inr (6, [.null, .null, .null, .null, .null, .null, .int 0, .int 0])) :: (h0, .inr (2, [.ref q1, .null, .null, .int 0, .int 0])) :: ac4) := G.pm (pm_f _ _)
  refine lv_dup E.1 E.2.1 dX2_init_19 rfl ?_
  refine n_in E G hl (n_State l D K (pp + 14) (at_sub 6 14 app (by decide) (by decide)) q5) rfl mw_code_X6_init mw_ini_6 mw_mn_2_20 mw_inst_X6_init hd_X6_init ⟨by decide, by decide⟩ rfl (Nat.le_of_ble_eq_true rfl) ⟨by decide, by decide⟩ dX2_init_20 (fun g6 H locs hp7 G => ?_)
  obtain ⟨ac8, hac8⟩ : ∃ w : va_W, w = ac4 ++ (Bk K (pp + 14) 7 g6) := ⟨_, rfl⟩
  have G : mG D A s H locs ((h0, .inr (2, [.ref q1, .null, .null, .int 0, .int 0])) :: ac8) := by rw [hac8]; exact G
  refine m_putF E G hN 0 (ci := 2) rfl 1 (C := RX2) (T := TX2) (N := 5) rfl (by decide) mw_fl_2_21 rfl rfl rfl rfl (Nat.le_of_ble_eq_true rfl) dX2_init_23 (fun H locs G => ?_)
  have G : mG D A s H locs ((h0, .inr (2, [.ref q1, .ref q5, .null, .int 0, .int 0])) :: ac8) := G
  refine lv_aload_n E.1 E.2.1 dX2_init_26 rfl (lv_at hl 0 rfl) ?_
  refine m_new E G 3 (C := RX3) (T := TX3) (N := 4) rfl fr_X3 mw_cl_2_25 mw_insta_3 mw_ini_3 (by decide) (by decide) dX2_init_27 (fun q9 H G => ?_)
  have G : mG D A s H locs ((q9, .inr (3, [.int 0, .null, .null, .null])) :: (h0, .inr (2, [.ref q1, .ref q5, .null, .int 0, .int 0])) :: ac8) := G.pm (pm_f _ _)
  refine lv_dup E.1 E.2.1 dX2_init_30 rfl ?_
  refine n_in E G hl (n_Notes l D K (pp + 21) (at_sub 3 21 app (by decide) (by decide)) q9) rfl mw_code_X3_init mw_ini_3 mw_mn_2_27 mw_inst_X3_init hd_X3_init ⟨by decide, by decide⟩ rfl (Nat.le_of_ble_eq_true rfl) ⟨by decide, by decide⟩ dX2_init_31 (fun g10 H locs hp11 G => ?_)
  obtain ⟨ac12, hac12⟩ : ∃ w : va_W, w = ac8 ++ (Bk K (pp + 21) 4 g10) := ⟨_, rfl⟩
  have G : mG D A s H locs ((h0, .inr (2, [.ref q1, .ref q5, .null, .int 0, .int 0])) :: ac12) := by rw [hac12]; exact G
  refine m_putF E G hN 0 (ci := 2) rfl 2 (C := RX2) (T := TX2) (N := 5) rfl (by decide) mw_fl_2_28 rfl rfl rfl rfl (Nat.le_of_ble_eq_true rfl) dX2_init_34 (fun H locs G => ?_)
  have G : mG D A s H locs ((h0, .inr (2, [.ref q1, .ref q5, .ref q9, .int 0, .int 0])) :: ac12) := G
  refine lv_aload_n E.1 E.2.1 dX2_init_37 rfl (lv_at hl 0 rfl) ?_
  refine lv_iconst (v := (-1)) E.1 E.2.1 dX2_init_38 (by decide) ?_
  refine m_put E G 0 (ci := 2) rfl 3 (C := RX2) (T := TX2) (N := 5) rfl (by decide) mw_fl_2_32 rfl rfl rfl (Nat.le_of_ble_eq_true rfl) dX2_init_39 (fun H locs G => ?_)
  have G : mG D A s H locs ((h0, .inr (2, [.ref q1, .ref q5, .ref q9, .int (-1), .int 0])) :: ac12) := G
  refine lv_aload_n E.1 E.2.1 dX2_init_42 rfl (lv_at hl 0 rfl) ?_
  refine lv_iconst (v := 0) E.1 E.2.1 dX2_init_43 (by decide) ?_
  refine m_put E G 0 (ci := 2) rfl 4 (C := RX2) (T := TX2) (N := 5) rfl (by decide) mw_fl_2_36 rfl rfl rfl (Nat.le_of_ble_eq_true rfl) dX2_init_44 (fun H locs G => ?_)
  have G : mG D A s H locs ((h0, .inr (2, [.ref q1, .ref q5, .ref q9, .int (-1), .int 0])) :: ac12) := G
  obtain ⟨X0, hX0⟩ : ∃ x : va_W, x = ([(h0, .inr (2, [.ref q1, .ref q5, .ref q9, .int (-1), .int 0]))] : va_W) := ⟨_, rfl⟩
  obtain ⟨g, hq13, hq14, hq15, hq16⟩ : ∃ g : Nat → Nat, g pp = h0 ∧ (∀ i, i < 13 → g ((pp + 1) + i) = g2 ((pp + 1) + i)) ∧ (∀ i, i < 7 → g ((pp + 14) + i) = g6 ((pp + 14) + i)) ∧ (∀ i, i < 4 → g ((pp + 21) + i) = g10 ((pp + 21) + i)) := by
    refine ⟨fun j => if j < (pp + 1) then h0 else if j < (pp + 14) then g2 j else if j < (pp + 21) then g6 j else g10 j, ?_, ?_, ?_, ?_⟩
    · exact (if_pos (by omega))
    · exact fun i hi => ((if_neg (by omega)).trans (if_pos (by omega)))
    · exact fun i hi => ((if_neg (by omega)).trans ((if_neg (by omega)).trans (if_pos (by omega))))
    · exact fun i hi => ((if_neg (by omega)).trans ((if_neg (by omega)).trans (if_neg (by omega))))
  have hW : ((h0, .inr (2, [.ref q1, .ref q5, .ref q9, .int (-1), .int 0])) :: ac12) = X0 ++ (Bk K (pp + 1) 13 g2 ++ (Bk K (pp + 14) 7 g6 ++ (Bk K (pp + 21) 4 g10 ++ ([])))) := by
    rw [hX0, hac12, hac8, hac4, hac0]
    simp only [List.nil_append, List.append_nil, List.append_assoc, List.cons_append]
  have hP : List.Perm (X0 ++ (Bk K (pp + 1) 13 g2 ++ (Bk K (pp + 14) 7 g6 ++ (Bk K (pp + 21) 4 g10 ++ ([])))) : va_W) (X0 ++ (Bk K (pp + 1) 13 g2 ++ (Bk K (pp + 14) 7 g6 ++ (Bk K (pp + 21) 4 g10 ++ ([])))) : va_W) := pm_of (f := fun i => ([X0, Bk K (pp + 1) 13 g2, Bk K (pp + 14) 7 g6, Bk K (pp + 21) 4 g10] : List va_W).getD i []) (m := 4) (π := [0, 1, 2, 3]) (by decide)
  have hr17 : g (pp + 1) = q1 := (hq14 0 (by decide)).trans hp3
  have hr18 : g (pp + 14) = q5 := (hq15 0 (by decide)).trans hp7
  have hr19 : g (pp + 21) = q9 := (hq16 0 (by decide)).trans hp11
  have tt20 : Bk K pp 1 g = X0 := by
    rw [hX0, Bk_one, cf_o (j := pp) (ci := 2) (at_ro (i := 0) app (by decide) : ro pp = 2) (by decide)]
    show ([(g pp, .inr (2, [.ref (g (pp + 1)), .ref (g (pp + 14)), .ref (g (pp + 21)), .int (-1), .int 0]))] : va_W) = _
    rw [hq13, hr17, hr18, hr19]
  have tt21 : Bk K (pp + 1) 13 g = Bk K (pp + 1) 13 g2 := Bk_ca 8 (at_sub 8 1 app (by decide) (by decide)) rfl (by decide +kernel) hq14
  have tt22 : Bk K (pp + 14) 7 g = Bk K (pp + 14) 7 g6 := Bk_ca 6 (at_sub 6 14 app (by decide) (by decide)) rfl (by decide +kernel) hq15
  have tt23 : Bk K (pp + 21) 4 g = Bk K (pp + 21) 4 g10 := Bk_ca 3 (at_sub 3 21 app (by decide) (by decide)) rfl (by decide +kernel) hq16
  have ss24 : Bk K pp 25 g = Bk K pp 1 g ++ Bk K (pp + 1) 24 g := Bk_split pp 1 24
  have ss25 : Bk K (pp + 1) 24 g = Bk K (pp + 1) 13 g ++ Bk K (pp + 14) 11 g := Bk_split (pp + 1) 13 11
  have ss26 : Bk K (pp + 14) 11 g = Bk K (pp + 14) 7 g ++ Bk K (pp + 21) 4 g := Bk_split (pp + 14) 7 4
  have ss27 : Bk K (pp + 21) 4 g = Bk K (pp + 21) 4 g ++ Bk K (pp + 25) 0 g := Bk_split (pp + 21) 4 0
  have hB28 : Bk K pp 25 g = X0 ++ (Bk K (pp + 1) 13 g2 ++ (Bk K (pp + 14) 7 g6 ++ (Bk K (pp + 21) 4 g10 ++ ([])))) := by rw [ss24, tt20, ss25, tt21, ss26, tt22, ss27, tt23, Bk_nil]
  have hB : X0 ++ (Bk K (pp + 1) 13 g2 ++ (Bk K (pp + 14) 7 g6 ++ (Bk K (pp + 21) 4 g10 ++ ([])))) = Bk K pp 25 g := by
    rw [hB28]
    try simp only [List.append_assoc, List.append_nil, List.nil_append, List.cons_append]
  rw [hW] at G
  have hP := hP.trans (List.Perm.of_eq hB)
  exact n_retv E G hr g hq13 hP (by decide) (by decide) dX2_init_47
