theorem mw_cl_1_28 : (Cond.classLink RX1 28 RX8 : Cond) ∈ cw := cw_of (List.mem_append_right _ (List.mem_append_right _ (List.mem_append_left _ (List.mem_of_getElem? (i := 101) (by decide +kernel))))) (by decide +kernel)
theorem mw_cl_1_35 : (Cond.classLink RX1 35 RX4 : Cond) ∈ cw := cw_of (List.mem_append_right _ (List.mem_append_right _ (List.mem_append_left _ (List.mem_of_getElem? (i := 103) (by decide +kernel))))) (by decide +kernel)
theorem mw_cl_1_9 : (Cond.classLink RX1 9 RX6 : Cond) ∈ cw := cw_of (List.mem_append_right _ (List.mem_append_right _ (List.mem_append_left _ (List.mem_of_getElem? (i := 99) (by decide +kernel))))) (by decide +kernel)
theorem mw_cl_5_41 : (Cond.classLink RX5 41 RX4 : Cond) ∈ cw := cw_of (List.mem_append_right _ (List.mem_append_left _ (List.mem_of_getElem? (i := 200) (by decide +kernel)))) (by decide +kernel)
theorem mw_cl_5_9 : (Cond.classLink RX5 9 RX7 : Cond) ∈ cw := cw_of (List.mem_append_right _ (List.mem_append_left _ (List.mem_of_getElem? (i := 198) (by decide +kernel)))) (by decide +kernel)
theorem mw_cl_9_18 : (Cond.classLink RX9 18 RX8 : Cond) ∈ cw := cw_of (List.mem_append_right _ (List.mem_append_left _ (List.mem_of_getElem? (i := 74) (by decide +kernel)))) (by decide +kernel)
theorem mw_cl_9_9 : (Cond.classLink RX9 9 RX7 : Cond) ∈ cw := cw_of (List.mem_append_right _ (List.mem_append_left _ (List.mem_of_getElem? (i := 72) (by decide +kernel)))) (by decide +kernel)
theorem mw_code_X4_init : (Cond.code yX4_init cX4_init 1 none : Cond) ∈ cw := cw_of (List.mem_append_right _ (List.mem_append_left _ (List.mem_of_getElem? (i := 204) rfl))) (by decide +kernel)
theorem mw_code_X7_init : (Cond.code yX7_init cX7_init 1 none : Cond) ∈ cw := cw_of (List.mem_append_right _ (List.mem_append_left _ (List.mem_of_getElem? (i := 33) rfl))) (by decide +kernel)
theorem mw_inst_X4_init : (Cond.instanceMethod yX4_init : Cond) ∈ cw := cw_of (List.mem_append_right _ (List.mem_append_left _ (List.mem_of_getElem? (i := 203) (by decide +kernel)))) (by decide +kernel)
theorem mw_inst_X7_init : (Cond.instanceMethod yX7_init : Cond) ∈ cw := cw_of (List.mem_append_right _ (List.mem_append_left _ (List.mem_of_getElem? (i := 32) (by decide +kernel)))) (by decide +kernel)
theorem mw_insta_4 : (Cond.instantiable RX4 6 : Cond) ∈ cw := cw_of (List.mem_append_right _ (List.mem_append_left _ (List.mem_of_getElem? (i := 201) (by decide +kernel)))) (by decide +kernel)
theorem mw_insta_7 : (Cond.instantiable RX7 7 : Cond) ∈ cw := cw_of (List.mem_append_right _ (List.mem_append_left _ (List.mem_of_getElem? (i := 30) (by decide +kernel)))) (by decide +kernel)
theorem mw_ml_1_3 : (Cond.methodLink RX1 3 Lib.objectInit : Cond) ∈ cw := cw_of (List.mem_append_right _ (List.mem_append_right _ (List.mem_append_left _ (List.mem_of_getElem? (i := 98) (by decide +kernel))))) (by decide +kernel)
theorem mw_ml_5_3 : (Cond.methodLink RX5 3 Lib.objectInit : Cond) ∈ cw := cw_of (List.mem_append_right _ (List.mem_append_left _ (List.mem_of_getElem? (i := 197) (by decide +kernel)))) (by decide +kernel)
theorem mw_ml_9_3 : (Cond.methodLink RX9 3 Lib.objectInit : Cond) ∈ cw := cw_of (List.mem_append_right _ (List.mem_append_left _ (List.mem_of_getElem? (i := 71) (by decide +kernel)))) (by decide +kernel)
theorem mw_mn_1_11 : (Cond.methodLinkNest RX1 11 yX6_init "LureTown" : Cond) ∈ cw := cw_of (List.mem_append_right _ (List.mem_append_right _ (List.mem_append_left _ (List.mem_of_getElem? (i := 100) (by decide +kernel))))) (by decide +kernel)
theorem mw_mn_1_30 : (Cond.methodLinkNest RX1 30 yX8_init "LureTown" : Cond) ∈ cw := cw_of (List.mem_append_right _ (List.mem_append_right _ (List.mem_append_left _ (List.mem_of_getElem? (i := 102) (by decide +kernel))))) (by decide +kernel)
theorem mw_mn_1_37 : (Cond.methodLinkNest RX1 37 yX4_init "LureTown" : Cond) ∈ cw := cw_of (List.mem_append_right _ (List.mem_append_right _ (List.mem_append_left _ (List.mem_of_getElem? (i := 104) (by decide +kernel))))) (by decide +kernel)
theorem mw_mn_5_11 : (Cond.methodLinkNest RX5 11 yX7_init "LureTown" : Cond) ∈ cw := cw_of (List.mem_append_right _ (List.mem_append_left _ (List.mem_of_getElem? (i := 199) (by decide +kernel)))) (by decide +kernel)
theorem mw_mn_5_43 : (Cond.methodLinkNest RX5 43 yX4_init "LureTown" : Cond) ∈ cw := cw_of (List.mem_append_right _ (List.mem_append_left _ (List.mem_of_getElem? (i := 202) (by decide +kernel)))) (by decide +kernel)
theorem mw_mn_9_11 : (Cond.methodLinkNest RX9 11 yX7_init "LureTown" : Cond) ∈ cw := cw_of (List.mem_append_right _ (List.mem_append_left _ (List.mem_of_getElem? (i := 73) (by decide +kernel)))) (by decide +kernel)
theorem mw_mn_9_20 : (Cond.methodLinkNest RX9 20 yX8_init "LureTown" : Cond) ∈ cw := cw_of (List.mem_append_right _ (List.mem_append_left _ (List.mem_of_getElem? (i := 76) (by decide +kernel)))) (by decide +kernel)
theorem dX1_init_0 : decode cX1_init 0 = .ok (.aload_n 0, 1) := by decide +kernel
theorem dX1_init_1 : decode cX1_init 1 = .ok (.invokespecial 3, 3) := by decide +kernel
theorem dX1_init_4 : decode cX1_init 4 = .ok (.aload_n 0, 1) := by decide +kernel
theorem dX1_init_5 : decode cX1_init 5 = .ok (.new 9, 3) := by decide +kernel
theorem dX1_init_8 : decode cX1_init 8 = .ok (.dup, 1) := by decide +kernel
theorem dX1_init_9 : decode cX1_init 9 = .ok (.invokespecial 11, 3) := by decide +kernel
theorem dX1_init_12 : decode cX1_init 12 = .ok (.putfield 12, 3) := by decide +kernel
theorem dX1_init_15 : decode cX1_init 15 = .ok (.aload_n 0, 1) := by decide +kernel
theorem dX1_init_16 : decode cX1_init 16 = .ok (.iconst 5, 1) := by decide +kernel
theorem dX1_init_17 : decode cX1_init 17 = .ok (.newarray .int, 2) := by decide +kernel
theorem dX1_init_19 : decode cX1_init 19 = .ok (.putfield 18, 3) := by decide +kernel
theorem dX1_init_22 : decode cX1_init 22 = .ok (.aload_n 0, 1) := by decide +kernel
theorem dX1_init_23 : decode cX1_init 23 = .ok (.iconst 5, 1) := by decide +kernel
theorem dX1_init_24 : decode cX1_init 24 = .ok (.newarray .int, 2) := by decide +kernel
theorem dX1_init_26 : decode cX1_init 26 = .ok (.putfield 22, 3) := by decide +kernel
theorem dX1_init_29 : decode cX1_init 29 = .ok (.aload_n 0, 1) := by decide +kernel
theorem dX1_init_30 : decode cX1_init 30 = .ok (.bipush 11, 2) := by decide +kernel
theorem dX1_init_32 : decode cX1_init 32 = .ok (.newarray .int, 2) := by decide +kernel
theorem dX1_init_34 : decode cX1_init 34 = .ok (.putfield 25, 3) := by decide +kernel
theorem dX1_init_37 : decode cX1_init 37 = .ok (.aload_n 0, 1) := by decide +kernel
theorem dX1_init_38 : decode cX1_init 38 = .ok (.new 28, 3) := by decide +kernel
theorem dX1_init_41 : decode cX1_init 41 = .ok (.dup, 1) := by decide +kernel
theorem dX1_init_42 : decode cX1_init 42 = .ok (.invokespecial 30, 3) := by decide +kernel
theorem dX1_init_45 : decode cX1_init 45 = .ok (.putfield 31, 3) := by decide +kernel
theorem dX1_init_48 : decode cX1_init 48 = .ok (.aload_n 0, 1) := by decide +kernel
theorem dX1_init_49 : decode cX1_init 49 = .ok (.new 35, 3) := by decide +kernel
theorem dX1_init_52 : decode cX1_init 52 = .ok (.dup, 1) := by decide +kernel
theorem dX1_init_53 : decode cX1_init 53 = .ok (.invokespecial 37, 3) := by decide +kernel
theorem dX1_init_56 : decode cX1_init 56 = .ok (.putfield 38, 3) := by decide +kernel
theorem dX1_init_59 : decode cX1_init 59 = .ok (.return_, 1) := by decide +kernel
theorem dX5_init_0 : decode cX5_init 0 = .ok (.aload_n 0, 1) := by decide +kernel
theorem dX5_init_1 : decode cX5_init 1 = .ok (.invokespecial 3, 3) := by decide +kernel
theorem dX5_init_4 : decode cX5_init 4 = .ok (.aload_n 0, 1) := by decide +kernel
theorem dX5_init_5 : decode cX5_init 5 = .ok (.new 9, 3) := by decide +kernel
theorem dX5_init_8 : decode cX5_init 8 = .ok (.dup, 1) := by decide +kernel
theorem dX5_init_9 : decode cX5_init 9 = .ok (.invokespecial 11, 3) := by decide +kernel
theorem dX5_init_12 : decode cX5_init 12 = .ok (.putfield 12, 3) := by decide +kernel
theorem dX5_init_15 : decode cX5_init 15 = .ok (.aload_n 0, 1) := by decide +kernel
theorem dX5_init_16 : decode cX5_init 16 = .ok (.sipush 400, 3) := by decide +kernel
theorem dX5_init_19 : decode cX5_init 19 = .ok (.newarray .int, 2) := by decide +kernel
theorem dX5_init_21 : decode cX5_init 21 = .ok (.putfield 18, 3) := by decide +kernel
theorem dX5_init_24 : decode cX5_init 24 = .ok (.aload_n 0, 1) := by decide +kernel
theorem dX5_init_25 : decode cX5_init 25 = .ok (.iconst 0, 1) := by decide +kernel
theorem dX5_init_26 : decode cX5_init 26 = .ok (.putfield 22, 3) := by decide +kernel
theorem dX5_init_29 : decode cX5_init 29 = .ok (.aload_n 0, 1) := by decide +kernel
theorem dX5_init_30 : decode cX5_init 30 = .ok (.iconst 0, 1) := by decide +kernel
theorem dX5_init_31 : decode cX5_init 31 = .ok (.putfield 26, 3) := by decide +kernel
theorem dX5_init_34 : decode cX5_init 34 = .ok (.aload_n 0, 1) := by decide +kernel
theorem dX5_init_35 : decode cX5_init 35 = .ok (.iconst 0, 1) := by decide +kernel
theorem dX5_init_36 : decode cX5_init 36 = .ok (.putfield 29, 3) := by decide +kernel
theorem dX5_init_39 : decode cX5_init 39 = .ok (.aload_n 0, 1) := by decide +kernel
theorem dX5_init_40 : decode cX5_init 40 = .ok (.iconst 0, 1) := by decide +kernel
theorem dX5_init_41 : decode cX5_init 41 = .ok (.putfield 32, 3) := by decide +kernel
theorem dX5_init_44 : decode cX5_init 44 = .ok (.aload_n 0, 1) := by decide +kernel
theorem dX5_init_45 : decode cX5_init 45 = .ok (.iconst 0, 1) := by decide +kernel
theorem dX5_init_46 : decode cX5_init 46 = .ok (.putfield 35, 3) := by decide +kernel
theorem dX5_init_49 : decode cX5_init 49 = .ok (.aload_n 0, 1) := by decide +kernel
theorem dX5_init_50 : decode cX5_init 50 = .ok (.iconst 0, 1) := by decide +kernel
theorem dX5_init_51 : decode cX5_init 51 = .ok (.putfield 38, 3) := by decide +kernel
theorem dX5_init_54 : decode cX5_init 54 = .ok (.aload_n 0, 1) := by decide +kernel
theorem dX5_init_55 : decode cX5_init 55 = .ok (.new 41, 3) := by decide +kernel
theorem dX5_init_58 : decode cX5_init 58 = .ok (.dup, 1) := by decide +kernel
theorem dX5_init_59 : decode cX5_init 59 = .ok (.invokespecial 43, 3) := by decide +kernel
theorem dX5_init_62 : decode cX5_init 62 = .ok (.putfield 44, 3) := by decide +kernel
theorem dX5_init_65 : decode cX5_init 65 = .ok (.return_, 1) := by decide +kernel
theorem dX9_init_0 : decode cX9_init 0 = .ok (.aload_n 0, 1) := by decide +kernel
theorem dX9_init_1 : decode cX9_init 1 = .ok (.invokespecial 3, 3) := by decide +kernel
theorem dX9_init_4 : decode cX9_init 4 = .ok (.aload_n 0, 1) := by decide +kernel
theorem dX9_init_5 : decode cX9_init 5 = .ok (.new 9, 3) := by decide +kernel
theorem dX9_init_8 : decode cX9_init 8 = .ok (.dup, 1) := by decide +kernel
theorem dX9_init_9 : decode cX9_init 9 = .ok (.invokespecial 11, 3) := by decide +kernel
theorem dX9_init_12 : decode cX9_init 12 = .ok (.putfield 12, 3) := by decide +kernel
theorem dX9_init_15 : decode cX9_init 15 = .ok (.aload_n 0, 1) := by decide +kernel
theorem dX9_init_16 : decode cX9_init 16 = .ok (.new 18, 3) := by decide +kernel
theorem dX9_init_19 : decode cX9_init 19 = .ok (.dup, 1) := by decide +kernel
theorem dX9_init_20 : decode cX9_init 20 = .ok (.invokespecial 20, 3) := by decide +kernel
theorem dX9_init_23 : decode cX9_init 23 = .ok (.putfield 21, 3) := by decide +kernel
theorem dX9_init_26 : decode cX9_init 26 = .ok (.aload_n 0, 1) := by decide +kernel
theorem dX9_init_27 : decode cX9_init 27 = .ok (.iconst 4, 1) := by decide +kernel
theorem dX9_init_28 : decode cX9_init 28 = .ok (.newarray .int, 2) := by decide +kernel
theorem dX9_init_30 : decode cX9_init 30 = .ok (.putfield 25, 3) := by decide +kernel
theorem dX9_init_33 : decode cX9_init 33 = .ok (.return_, 1) := by decide +kernel
theorem hd_X4_init : yX4_init.cls ≠ "java/lang/invoke/MethodHandle" ∧ yX4_init.cls ≠ "java/lang/invoke/VarHandle" ∧ (parseMethodDescriptor yX4_init.desc).map (fun d => d.parameters.length) = some 0 := ⟨by decide +kernel, by decide +kernel, by decide +kernel⟩
theorem hd_X7_init : yX7_init.cls ≠ "java/lang/invoke/MethodHandle" ∧ yX7_init.cls ≠ "java/lang/invoke/VarHandle" ∧ (parseMethodDescriptor yX7_init.desc).map (fun d => d.parameters.length) = some 0 := ⟨by decide +kernel, by decide +kernel, by decide +kernel⟩
set_option maxHeartbeats 4000000 in
set_option maxRecDepth 100000 in
theorem n_TR (l : Launch) (D : va_G) (K : Nat → ClassId) (h0 : Nat) : mV (S := Nat → Nat) l yX9_init cX9_init 1 ({ frames := 3, cells := 16, slots := 550, locals := 60 }) D K [(h0, .inr (9, [.null, .null, .null]))] [.ref h0] (fun g => g 3 = h0) (fun g => Bk K 3 2 g ++ (Bk K 346 2 g ++ (Bk K 348 13 g))) := by
  refine m_enterV (by decide) (Nat.le_of_ble_eq_true rfl) ?_
  intro p e s m args below meth c A ls E hr hN G hl
  have E : mE p s m meth c cX9_init args 1 RX9 D K A := E
  have hl : lv_has ls 1 [(0, .ref h0)] := hl
  obtain ⟨H, hH⟩ : ∃ H, H = s.heap := ⟨_, rfl⟩
  obtain ⟨locs, hlo⟩ : ∃ L : List Loc, L = [] := ⟨_, rfl⟩
  rw [← hH, ← hlo] at G
  rw [← hH, ← hlo]
  clear hH hlo
  obtain ⟨ac0, hac0⟩ : ∃ w : va_W, w = [] := ⟨_, rfl⟩
  have G : mG D A s H locs ((h0, .inr (9, [.null, .null, .null])) :: ac0) := by rw [hac0]; exact G
  refine lv_aload_n E.1 E.2.1 dX9_init_0 rfl (lv_at hl 0 rfl) ?_
  refine m_objInit E hl mw_ml_9_3 dX9_init_1 (by decide) (Nat.le_of_ble_eq_true rfl) (by decide) ?_
  refine lv_aload_n E.1 E.2.1 dX9_init_4 rfl (lv_at hl 0 rfl) ?_
  refine m_new E G 7 (C := RX7) (T := TX7) (N := 7) rfl fr_X7 mw_cl_9_9 mw_insta_7 mw_ini_7 (by decide) (by decide) dX9_init_5 (fun q1 H G => ?_)
  have G : mG D A s H locs ((q1, .inr (7, [.null, .int 0, .int 0, .int 0, .int 0, .int 0, .int 0])) :: (h0, .inr (9, [.null, .null, .null])) :: ac0) := G.pm (pm_f _ _)
  refine lv_dup E.1 E.2.1 dX9_init_8 rfl ?_
  refine n_in E G hl (n_Tape l D K 346 (by decide : at_ 7 346 = true) q1) rfl mw_code_X7_init mw_ini_7 mw_mn_9_11 mw_inst_X7_init hd_X7_init ⟨by decide, by decide⟩ rfl (Nat.le_of_ble_eq_true rfl) ⟨by decide, by decide⟩ dX9_init_9 (fun g2 H locs hp3 G => ?_)
  obtain ⟨ac4, hac4⟩ : ∃ w : va_W, w = ac0 ++ (Bk K 346 2 g2) := ⟨_, rfl⟩
  have G : mG D A s H locs ((h0, .inr (9, [.null, .null, .null])) :: ac4) := by rw [hac4]; exact G
  refine m_put E G 0 (ci := 9) rfl 0 (C := RX9) (T := TX9) (N := 3) rfl (by decide) mw_fl_9_12 rfl rfl rfl (Nat.le_of_ble_eq_true rfl) dX9_init_12 (fun H locs G => ?_)
  have G : mG D A s H locs ((h0, .inr (9, [.ref q1, .null, .null])) :: ac4) := G
  refine lv_aload_n E.1 E.2.1 dX9_init_15 rfl (lv_at hl 0 rfl) ?_
  refine m_new E G 8 (C := RX8) (T := TX8) (N := 10) rfl fr_X8 mw_cl_9_18 mw_insta_8 mw_ini_8 (by decide) (by decide) dX9_init_16 (fun q5 H G => ?_)
  have G : mG D A s H locs ((q5, .inr (8, [.int 0, .int 0, .int 0, .int 0, .null, .null, .null, .null, .null, .null])) :: (h0, .inr (9, [.ref q1, .null, .null])) :: ac4) := G.pm (pm_f _ _)
  refine lv_dup E.1 E.2.1 dX9_init_19 rfl ?_
  refine n_in E G hl (n_Town l D K 348 (by decide : at_ 8 348 = true) q5) rfl mw_code_X8_init mw_ini_8 mw_mn_9_20 mw_inst_X8_init hd_X8_init ⟨by decide, by decide⟩ rfl (Nat.le_of_ble_eq_true rfl) ⟨by decide, by decide⟩ dX9_init_20 (fun g6 H locs hp7 G => ?_)
  obtain ⟨ac8, hac8⟩ : ∃ w : va_W, w = ac4 ++ (Bk K 348 13 g6) := ⟨_, rfl⟩
  have G : mG D A s H locs ((h0, .inr (9, [.ref q1, .null, .null])) :: ac8) := by rw [hac8]; exact G
  refine m_put E G 0 (ci := 9) rfl 1 (C := RX9) (T := TX9) (N := 3) rfl (by decide) mw_fl_9_21 rfl rfl rfl (Nat.le_of_ble_eq_true rfl) dX9_init_23 (fun H locs G => ?_)
  have G : mG D A s H locs ((h0, .inr (9, [.ref q1, .ref q5, .null])) :: ac8) := G
  refine lv_aload_n E.1 E.2.1 dX9_init_26 rfl (lv_at hl 0 rfl) ?_
  refine lv_iconst (v := 4) E.1 E.2.1 dX9_init_27 (by decide) ?_
  refine m_newi E G (N' := 4) (by decide) (by decide) (by decide) (by decide) (by decide) dX9_init_28 (fun q9 H G => ?_)
  obtain ⟨ac10, hac10⟩ : ∃ w : va_W, w = ac8 ++ [(q9, .inl (K 0, 4, .inl (fun _ => 0)))] := ⟨_, rfl⟩
  have G : mG D A s H locs ((h0, .inr (9, [.ref q1, .ref q5, .null])) :: ac10) := by rw [hac10]; exact G
  refine m_putF E G hN 0 (ci := 9) rfl 2 (C := RX9) (T := TX9) (N := 3) rfl (by decide) mw_fl_9_25 rfl rfl rfl rfl (Nat.le_of_ble_eq_true rfl) dX9_init_30 (fun H locs G => ?_)
  have G : mG D A s H locs ((h0, .inr (9, [.ref q1, .ref q5, .ref q9])) :: ac10) := G
  obtain ⟨X0, hX0⟩ : ∃ x : va_W, x = ([(h0, .inr (9, [.ref q1, .ref q5, .ref q9]))] : va_W) := ⟨_, rfl⟩
  obtain ⟨g, hq11, hq12, hq13, hq14⟩ : ∃ g : Nat → Nat, g 3 = h0 ∧ g 4 = q9 ∧ (∀ i, i < 2 → g (346 + i) = g2 (346 + i)) ∧ (∀ i, i < 13 → g (348 + i) = g6 (348 + i)) := by
    refine ⟨fun j => if j < 4 then h0 else if j < 5 then q9 else if j < 348 then g2 j else g6 j, ?_, ?_, ?_, ?_⟩
    · exact (if_pos (by omega))
    · exact ((if_neg (by omega)).trans (if_pos (by omega)))
    · exact fun i hi => ((if_neg (by omega)).trans ((if_neg (by omega)).trans (if_pos (by omega))))
    · exact fun i hi => ((if_neg (by omega)).trans ((if_neg (by omega)).trans (if_neg (by omega))))
  have hW : ((h0, .inr (9, [.ref q1, .ref q5, .ref q9])) :: ac10) = X0 ++ (Bk K 346 2 g2 ++ (Bk K 348 13 g6 ++ (([(q9, .inl (K 0, 4, .inl (fun _ => 0)))] : va_W) ++ ([])))) := by
    rw [hX0, hac10, hac8, hac4, hac0]
    simp only [List.nil_append, List.append_nil, List.append_assoc, List.cons_append]
  have hP : List.Perm (X0 ++ (Bk K 346 2 g2 ++ (Bk K 348 13 g6 ++ (([(q9, .inl (K 0, 4, .inl (fun _ => 0)))] : va_W) ++ ([])))) : va_W) (X0 ++ (([(q9, .inl (K 0, 4, .inl (fun _ => 0)))] : va_W) ++ (Bk K 346 2 g2 ++ (Bk K 348 13 g6 ++ ([])))) : va_W) := pm_of (f := fun i => ([X0, Bk K 346 2 g2, Bk K 348 13 g6, ([(q9, .inl (K 0, 4, .inl (fun _ => 0)))] : va_W)] : List va_W).getD i []) (m := 4) (π := [0, 3, 1, 2]) (by decide)
  have hr15 : g 346 = q1 := (hq13 0 (by decide)).trans hp3
  have hr16 : g 348 = q5 := (hq14 0 (by decide)).trans hp7
  have tt17 : Bk K 3 1 g = X0 := by
    rw [hX0, Bk_one, cf_o (j := 3) (ci := 9) (rfl : ro 3 = 9) (by decide)]
    show ([(g 3, .inr (9, [.ref (g 346), .ref (g 348), .ref (g 4)]))] : va_W) = _
    rw [hq11, hr15, hr16, hq12]
  have tt18 : Bk K 4 1 g = ([(q9, .inl (K 0, 4, .inl (fun _ => 0)))] : va_W) := by rw [Bk_one, hq12, cf_r (j := 4) (r := 34) (rfl : ro 4 = 34) (by decide), show akN 34 = 4 by decide +kernel, show akK 34 = 0 by decide +kernel]; rfl
  have tt19 : Bk K 346 2 g = Bk K 346 2 g2 := Bk_ca 7 (by decide : at_ 7 346 = true) rfl (by decide +kernel) hq13
  have tt20 : Bk K 348 13 g = Bk K 348 13 g6 := Bk_ca 8 (by decide : at_ 8 348 = true) rfl (by decide +kernel) hq14
  have ss21 : Bk K 3 2 g = Bk K 3 1 g ++ Bk K 4 1 g := Bk_split 3 1 1
  have ss22 : Bk K 4 1 g = Bk K 4 1 g ++ Bk K 5 0 g := Bk_split 4 1 0
  have hB23 : Bk K 3 2 g = X0 ++ (([(q9, .inl (K 0, 4, .inl (fun _ => 0)))] : va_W) ++ ([])) := by rw [ss21, tt17, ss22, tt18, Bk_nil]
  have ss24 : Bk K 346 2 g = Bk K 346 2 g ++ Bk K 348 0 g := Bk_split 346 2 0
  have hB25 : Bk K 346 2 g = Bk K 346 2 g2 ++ ([]) := by rw [ss24, tt19, Bk_nil]
  have ss26 : Bk K 348 13 g = Bk K 348 13 g ++ Bk K 361 0 g := Bk_split 348 13 0
  have hB27 : Bk K 348 13 g = Bk K 348 13 g6 ++ ([]) := by rw [ss26, tt20, Bk_nil]
  have hB : X0 ++ (([(q9, .inl (K 0, 4, .inl (fun _ => 0)))] : va_W) ++ (Bk K 346 2 g2 ++ (Bk K 348 13 g6 ++ ([])))) = Bk K 3 2 g ++ (Bk K 346 2 g ++ (Bk K 348 13 g)) := by
    rw [hB23, hB25, hB27]
    try simp only [List.append_assoc, List.append_nil, List.nil_append, List.cons_append]
  rw [hW] at G
  have hP := hP.trans (List.Perm.of_eq hB)
  exact n_retv E G hr g hq11 hP (by decide) (by decide) dX9_init_33
set_option maxHeartbeats 4000000 in
set_option maxRecDepth 100000 in
theorem n_RR (l : Launch) (D : va_G) (K : Nat → ClassId) (h0 : Nat) : mV (S := Nat → Nat) l yX5_init cX5_init 1 ({ frames := 2, cells := 8, slots := 1300, locals := 40 }) D K [(h0, .inr (5, [.null, .null, .int 0, .int 0, .int 0, .int 0, .int 0, .int 0, .null]))] [.ref h0] (fun g => g 5 = h0) (fun g => Bk K 5 2 g ++ (Bk K 361 2 g ++ (Bk K 363 5 g))) := by
  refine m_enterV (by decide) (Nat.le_of_ble_eq_true rfl) ?_
  intro p e s m args below meth c A ls E hr hN G hl
  have E : mE p s m meth c cX5_init args 1 RX5 D K A := E
  have hl : lv_has ls 1 [(0, .ref h0)] := hl
  obtain ⟨H, hH⟩ : ∃ H, H = s.heap := ⟨_, rfl⟩
  obtain ⟨locs, hlo⟩ : ∃ L : List Loc, L = [] := ⟨_, rfl⟩
  rw [← hH, ← hlo] at G
  rw [← hH, ← hlo]
  clear hH hlo
  obtain ⟨ac0, hac0⟩ : ∃ w : va_W, w = [] := ⟨_, rfl⟩
  have G : mG D A s H locs ((h0, .inr (5, [.null, .null, .int 0, .int 0, .int 0, .int 0, .int 0, .int 0, .null])) :: ac0) := by rw [hac0]; exact G
  refine lv_aload_n E.1 E.2.1 dX5_init_0 rfl (lv_at hl 0 rfl) ?_
  refine m_objInit E hl mw_ml_5_3 dX5_init_1 (by decide) (Nat.le_of_ble_eq_true rfl) (by decide) ?_
  refine lv_aload_n E.1 E.2.1 dX5_init_4 rfl (lv_at hl 0 rfl) ?_
  refine m_new E G 7 (C := RX7) (T := TX7) (N := 7) rfl fr_X7 mw_cl_5_9 mw_insta_7 mw_ini_7 (by decide) (by decide) dX5_init_5 (fun q1 H G => ?_)
  have G : mG D A s H locs ((q1, .inr (7, [.null, .int 0, .int 0, .int 0, .int 0, .int 0, .int 0])) :: (h0, .inr (5, [.null, .null, .int 0, .int 0, .int 0, .int 0, .int 0, .int 0, .null])) :: ac0) := G.pm (pm_f _ _)
  refine lv_dup E.1 E.2.1 dX5_init_8 rfl ?_
  refine n_in E G hl (n_Tape l D K 361 (by decide : at_ 7 361 = true) q1) rfl mw_code_X7_init mw_ini_7 mw_mn_5_11 mw_inst_X7_init hd_X7_init ⟨by decide, by decide⟩ rfl (Nat.le_of_ble_eq_true rfl) ⟨by decide, by decide⟩ dX5_init_9 (fun g2 H locs hp3 G => ?_)
  obtain ⟨ac4, hac4⟩ : ∃ w : va_W, w = ac0 ++ (Bk K 361 2 g2) := ⟨_, rfl⟩
  have G : mG D A s H locs ((h0, .inr (5, [.null, .null, .int 0, .int 0, .int 0, .int 0, .int 0, .int 0, .null])) :: ac4) := by rw [hac4]; exact G
  refine m_put E G 0 (ci := 5) rfl 0 (C := RX5) (T := TX5) (N := 9) rfl (by decide) mw_fl_5_12 rfl rfl rfl (Nat.le_of_ble_eq_true rfl) dX5_init_12 (fun H locs G => ?_)
  have G : mG D A s H locs ((h0, .inr (5, [.ref q1, .null, .int 0, .int 0, .int 0, .int 0, .int 0, .int 0, .null])) :: ac4) := G
  refine lv_aload_n E.1 E.2.1 dX5_init_15 rfl (lv_at hl 0 rfl) ?_
  refine lv_sipush (v := 400) E.1 E.2.1 dX5_init_16 (by decide) ?_
  refine m_newi E G (N' := 400) (by decide) (by decide) (by decide) (by decide) (by decide) dX5_init_19 (fun q5 H G => ?_)
  obtain ⟨ac6, hac6⟩ : ∃ w : va_W, w = ac4 ++ [(q5, .inl (K 0, 400, .inl (fun _ => 0)))] := ⟨_, rfl⟩
  have G : mG D A s H locs ((h0, .inr (5, [.ref q1, .null, .int 0, .int 0, .int 0, .int 0, .int 0, .int 0, .null])) :: ac6) := by rw [hac6]; exact G
  refine m_putF E G hN 0 (ci := 5) rfl 1 (C := RX5) (T := TX5) (N := 9) rfl (by decide) mw_fl_5_18 rfl rfl rfl rfl (Nat.le_of_ble_eq_true rfl) dX5_init_21 (fun H locs G => ?_)
  have G : mG D A s H locs ((h0, .inr (5, [.ref q1, .ref q5, .int 0, .int 0, .int 0, .int 0, .int 0, .int 0, .null])) :: ac6) := G
  refine lv_aload_n E.1 E.2.1 dX5_init_24 rfl (lv_at hl 0 rfl) ?_
  refine lv_iconst (v := 0) E.1 E.2.1 dX5_init_25 (by decide) ?_
  refine m_put E G 0 (ci := 5) rfl 2 (C := RX5) (T := TX5) (N := 9) rfl (by decide) mw_fl_5_22 rfl rfl rfl (Nat.le_of_ble_eq_true rfl) dX5_init_26 (fun H locs G => ?_)
  have G : mG D A s H locs ((h0, .inr (5, [.ref q1, .ref q5, .int 0, .int 0, .int 0, .int 0, .int 0, .int 0, .null])) :: ac6) := G
  refine lv_aload_n E.1 E.2.1 dX5_init_29 rfl (lv_at hl 0 rfl) ?_
  refine lv_iconst (v := 0) E.1 E.2.1 dX5_init_30 (by decide) ?_
  refine m_put E G 0 (ci := 5) rfl 3 (C := RX5) (T := TX5) (N := 9) rfl (by decide) mw_fl_5_26 rfl rfl rfl (Nat.le_of_ble_eq_true rfl) dX5_init_31 (fun H locs G => ?_)
  have G : mG D A s H locs ((h0, .inr (5, [.ref q1, .ref q5, .int 0, .int 0, .int 0, .int 0, .int 0, .int 0, .null])) :: ac6) := G
  refine lv_aload_n E.1 E.2.1 dX5_init_34 rfl (lv_at hl 0 rfl) ?_
  refine lv_iconst (v := 0) E.1 E.2.1 dX5_init_35 (by decide) ?_
  refine m_put E G 0 (ci := 5) rfl 4 (C := RX5) (T := TX5) (N := 9) rfl (by decide) mw_fl_5_29 rfl rfl rfl (Nat.le_of_ble_eq_true rfl) dX5_init_36 (fun H locs G => ?_)
  have G : mG D A s H locs ((h0, .inr (5, [.ref q1, .ref q5, .int 0, .int 0, .int 0, .int 0, .int 0, .int 0, .null])) :: ac6) := G
  refine lv_aload_n E.1 E.2.1 dX5_init_39 rfl (lv_at hl 0 rfl) ?_
  refine lv_iconst (v := 0) E.1 E.2.1 dX5_init_40 (by decide) ?_
  refine m_put E G 0 (ci := 5) rfl 5 (C := RX5) (T := TX5) (N := 9) rfl (by decide) mw_fl_5_32 rfl rfl rfl (Nat.le_of_ble_eq_true rfl) dX5_init_41 (fun H locs G => ?_)
  have G : mG D A s H locs ((h0, .inr (5, [.ref q1, .ref q5, .int 0, .int 0, .int 0, .int 0, .int 0, .int 0, .null])) :: ac6) := G
  refine lv_aload_n E.1 E.2.1 dX5_init_44 rfl (lv_at hl 0 rfl) ?_
  refine lv_iconst (v := 0) E.1 E.2.1 dX5_init_45 (by decide) ?_
  refine m_put E G 0 (ci := 5) rfl 6 (C := RX5) (T := TX5) (N := 9) rfl (by decide) mw_fl_5_35 rfl rfl rfl (Nat.le_of_ble_eq_true rfl) dX5_init_46 (fun H locs G => ?_)
  have G : mG D A s H locs ((h0, .inr (5, [.ref q1, .ref q5, .int 0, .int 0, .int 0, .int 0, .int 0, .int 0, .null])) :: ac6) := G
  refine lv_aload_n E.1 E.2.1 dX5_init_49 rfl (lv_at hl 0 rfl) ?_
  refine lv_iconst (v := 0) E.1 E.2.1 dX5_init_50 (by decide) ?_
  refine m_put E G 0 (ci := 5) rfl 7 (C := RX5) (T := TX5) (N := 9) rfl (by decide) mw_fl_5_38 rfl rfl rfl (Nat.le_of_ble_eq_true rfl) dX5_init_51 (fun H locs G => ?_)
  have G : mG D A s H locs ((h0, .inr (5, [.ref q1, .ref q5, .int 0, .int 0, .int 0, .int 0, .int 0, .int 0, .null])) :: ac6) := G
  refine lv_aload_n E.1 E.2.1 dX5_init_54 rfl (lv_at hl 0 rfl) ?_
  refine m_new E G 4 (C := RX4) (T := TX4) (N := 6) rfl fr_X4 mw_cl_5_41 mw_insta_4 mw_ini_4 (by decide) (by decide) dX5_init_55 (fun q7 H G => ?_)
  have G : mG D A s H locs ((q7, .inr (4, [.int 0, .null, .int 0, .null, .null, .null])) :: (h0, .inr (5, [.ref q1, .ref q5, .int 0, .int 0, .int 0, .int 0, .int 0, .int 0, .null])) :: ac6) := G.pm (pm_f _ _)
  refine lv_dup E.1 E.2.1 dX5_init_58 rfl ?_
  refine n_in E G hl (n_Rule l D K 363 (by decide : at_ 4 363 = true) q7) rfl mw_code_X4_init mw_ini_4 mw_mn_5_43 mw_inst_X4_init hd_X4_init ⟨by decide, by decide⟩ rfl (Nat.le_of_ble_eq_true rfl) ⟨by decide, by decide⟩ dX5_init_59 (fun g8 H locs hp9 G => ?_)
  obtain ⟨ac10, hac10⟩ : ∃ w : va_W, w = ac6 ++ (Bk K 363 5 g8) := ⟨_, rfl⟩
  have G : mG D A s H locs ((h0, .inr (5, [.ref q1, .ref q5, .int 0, .int 0, .int 0, .int 0, .int 0, .int 0, .null])) :: ac10) := by rw [hac10]; exact G
  refine m_put E G 0 (ci := 5) rfl 8 (C := RX5) (T := TX5) (N := 9) rfl (by decide) mw_fl_5_44 rfl rfl rfl (Nat.le_of_ble_eq_true rfl) dX5_init_62 (fun H locs G => ?_)
  have G : mG D A s H locs ((h0, .inr (5, [.ref q1, .ref q5, .int 0, .int 0, .int 0, .int 0, .int 0, .int 0, .ref q7])) :: ac10) := G
  obtain ⟨X0, hX0⟩ : ∃ x : va_W, x = ([(h0, .inr (5, [.ref q1, .ref q5, .int 0, .int 0, .int 0, .int 0, .int 0, .int 0, .ref q7]))] : va_W) := ⟨_, rfl⟩
  obtain ⟨g, hq11, hq12, hq13, hq14⟩ : ∃ g : Nat → Nat, g 5 = h0 ∧ g 6 = q5 ∧ (∀ i, i < 2 → g (361 + i) = g2 (361 + i)) ∧ (∀ i, i < 5 → g (363 + i) = g8 (363 + i)) := by
    refine ⟨fun j => if j < 6 then h0 else if j < 7 then q5 else if j < 363 then g2 j else g8 j, ?_, ?_, ?_, ?_⟩
    · exact (if_pos (by omega))
    · exact ((if_neg (by omega)).trans (if_pos (by omega)))
    · exact fun i hi => ((if_neg (by omega)).trans ((if_neg (by omega)).trans (if_pos (by omega))))
    · exact fun i hi => ((if_neg (by omega)).trans ((if_neg (by omega)).trans (if_neg (by omega))))
  have hW : ((h0, .inr (5, [.ref q1, .ref q5, .int 0, .int 0, .int 0, .int 0, .int 0, .int 0, .ref q7])) :: ac10) = X0 ++ (Bk K 361 2 g2 ++ (([(q5, .inl (K 0, 400, .inl (fun _ => 0)))] : va_W) ++ (Bk K 363 5 g8 ++ ([])))) := by
    rw [hX0, hac10, hac6, hac4, hac0]
    simp only [List.nil_append, List.append_nil, List.append_assoc, List.cons_append]
  have hP : List.Perm (X0 ++ (Bk K 361 2 g2 ++ (([(q5, .inl (K 0, 400, .inl (fun _ => 0)))] : va_W) ++ (Bk K 363 5 g8 ++ ([])))) : va_W) (X0 ++ (([(q5, .inl (K 0, 400, .inl (fun _ => 0)))] : va_W) ++ (Bk K 361 2 g2 ++ (Bk K 363 5 g8 ++ ([])))) : va_W) := pm_of (f := fun i => ([X0, Bk K 361 2 g2, ([(q5, .inl (K 0, 400, .inl (fun _ => 0)))] : va_W), Bk K 363 5 g8] : List va_W).getD i []) (m := 4) (π := [0, 2, 1, 3]) (by decide)
  have hr15 : g 361 = q1 := (hq13 0 (by decide)).trans hp3
  have hr16 : g 363 = q7 := (hq14 0 (by decide)).trans hp9
  have tt17 : Bk K 5 1 g = X0 := by
    rw [hX0, Bk_one, cf_o (j := 5) (ci := 5) (rfl : ro 5 = 5) (by decide)]
    show ([(g 5, .inr (5, [.ref (g 361), .ref (g 6), .int 0, .int 0, .int 0, .int 0, .int 0, .int 0, .ref (g 363)]))] : va_W) = _
    rw [hq11, hr15, hq12, hr16]
  have tt18 : Bk K 6 1 g = ([(q5, .inl (K 0, 400, .inl (fun _ => 0)))] : va_W) := by rw [Bk_one, hq12, cf_r (j := 6) (r := 35) (rfl : ro 6 = 35) (by decide), show akN 35 = 400 by decide +kernel, show akK 35 = 0 by decide +kernel]; rfl
  have tt19 : Bk K 361 2 g = Bk K 361 2 g2 := Bk_ca 7 (by decide : at_ 7 361 = true) rfl (by decide +kernel) hq13
  have tt20 : Bk K 363 5 g = Bk K 363 5 g8 := Bk_ca 4 (by decide : at_ 4 363 = true) rfl (by decide +kernel) hq14
  have ss21 : Bk K 5 2 g = Bk K 5 1 g ++ Bk K 6 1 g := Bk_split 5 1 1
  have ss22 : Bk K 6 1 g = Bk K 6 1 g ++ Bk K 7 0 g := Bk_split 6 1 0
  have hB23 : Bk K 5 2 g = X0 ++ (([(q5, .inl (K 0, 400, .inl (fun _ => 0)))] : va_W) ++ ([])) := by rw [ss21, tt17, ss22, tt18, Bk_nil]
  have ss24 : Bk K 361 2 g = Bk K 361 2 g ++ Bk K 363 0 g := Bk_split 361 2 0
  have hB25 : Bk K 361 2 g = Bk K 361 2 g2 ++ ([]) := by rw [ss24, tt19, Bk_nil]
  have ss26 : Bk K 363 5 g = Bk K 363 5 g ++ Bk K 368 0 g := Bk_split 363 5 0
  have hB27 : Bk K 363 5 g = Bk K 363 5 g8 ++ ([]) := by rw [ss26, tt20, Bk_nil]
  have hB : X0 ++ (([(q5, .inl (K 0, 400, .inl (fun _ => 0)))] : va_W) ++ (Bk K 361 2 g2 ++ (Bk K 363 5 g8 ++ ([])))) = Bk K 5 2 g ++ (Bk K 361 2 g ++ (Bk K 363 5 g)) := by
    rw [hB23, hB25, hB27]
    try simp only [List.append_assoc, List.append_nil, List.nil_append, List.cons_append]
  rw [hW] at G
  have hP := hP.trans (List.Perm.of_eq hB)
  exact n_retv E G hr g hq11 hP (by decide) (by decide) dX5_init_65
set_option maxHeartbeats 4000000 in
set_option maxRecDepth 100000 in
theorem n_Course (l : Launch) (D : va_G) (K : Nat → ClassId) (h0 : Nat) : mV (S := Nat → Nat) l yX1_init cX1_init 1 ({ frames := 3, cells := 28, slots := 693, locals := 60 }) D K [(h0, .inr (1, [.null, .null, .null, .null, .null, .null]))] [.ref h0] (fun g => g 324 = h0) (fun g => Bk K 324 11 g ++ (Bk K 368 13 g ++ (Bk K 381 5 g))) := by
  refine m_enterV (by decide) (Nat.le_of_ble_eq_true rfl) ?_
  intro p e s m args below meth c A ls E hr hN G hl
  have E : mE p s m meth c cX1_init args 1 RX1 D K A := E
  have hl : lv_has ls 1 [(0, .ref h0)] := hl
  obtain ⟨H, hH⟩ : ∃ H, H = s.heap := ⟨_, rfl⟩
  obtain ⟨locs, hlo⟩ : ∃ L : List Loc, L = [] := ⟨_, rfl⟩
  rw [← hH, ← hlo] at G
  rw [← hH, ← hlo]
  clear hH hlo
  obtain ⟨ac0, hac0⟩ : ∃ w : va_W, w = [] := ⟨_, rfl⟩
  have G : mG D A s H locs ((h0, .inr (1, [.null, .null, .null, .null, .null, .null])) :: ac0) := by rw [hac0]; exact G
  refine lv_aload_n E.1 E.2.1 dX1_init_0 rfl (lv_at hl 0 rfl) ?_
  refine m_objInit E hl mw_ml_1_3 dX1_init_1 (by decide) (Nat.le_of_ble_eq_true rfl) (by decide) ?_
  refine lv_aload_n E.1 E.2.1 dX1_init_4 rfl (lv_at hl 0 rfl) ?_
  refine m_new E G 6 (C := RX6) (T := TX6) (N := 8) rfl fr_X6 mw_cl_1_9 mw_insta_6 mw_ini_6 (by decide) (by decide) dX1_init_5 (fun q1 H G => ?_)
  have G : mG D A s H locs ((q1, .inr (6, [.null, .null, .null, .null, .null, .null, .int 0, .int 0])) :: (h0, .inr (1, [.null, .null, .null, .null, .null, .null])) :: ac0) := G.pm (pm_f _ _)
  refine lv_dup E.1 E.2.1 dX1_init_8 rfl ?_
  refine n_in E G hl (n_State l D K 325 (by decide : at_ 6 325 = true) q1) rfl mw_code_X6_init mw_ini_6 mw_mn_1_11 mw_inst_X6_init hd_X6_init ⟨by decide, by decide⟩ rfl (Nat.le_of_ble_eq_true rfl) ⟨by decide, by decide⟩ dX1_init_9 (fun g2 H locs hp3 G => ?_)
  obtain ⟨ac4, hac4⟩ : ∃ w : va_W, w = ac0 ++ (Bk K 325 7 g2) := ⟨_, rfl⟩
  have G : mG D A s H locs ((h0, .inr (1, [.null, .null, .null, .null, .null, .null])) :: ac4) := by rw [hac4]; exact G
  refine m_putF E G hN 0 (ci := 1) rfl 0 (C := RX1) (T := TX1) (N := 6) rfl (by decide) mw_fl_1_12 rfl rfl rfl rfl (Nat.le_of_ble_eq_true rfl) dX1_init_12 (fun H locs G => ?_)
  have G : mG D A s H locs ((h0, .inr (1, [.ref q1, .null, .null, .null, .null, .null])) :: ac4) := G
  refine lv_aload_n E.1 E.2.1 dX1_init_15 rfl (lv_at hl 0 rfl) ?_
  refine lv_iconst (v := 5) E.1 E.2.1 dX1_init_16 (by decide) ?_
  refine m_newi E G (N' := 5) (by decide) (by decide) (by decide) (by decide) (by decide) dX1_init_17 (fun q5 H G => ?_)
  obtain ⟨ac6, hac6⟩ : ∃ w : va_W, w = ac4 ++ [(q5, .inl (K 0, 5, .inl (fun _ => 0)))] := ⟨_, rfl⟩
  have G : mG D A s H locs ((h0, .inr (1, [.ref q1, .null, .null, .null, .null, .null])) :: ac6) := by rw [hac6]; exact G
  refine m_putF E G hN 0 (ci := 1) rfl 1 (C := RX1) (T := TX1) (N := 6) rfl (by decide) mw_fl_1_18 rfl rfl rfl rfl (Nat.le_of_ble_eq_true rfl) dX1_init_19 (fun H locs G => ?_)
  have G : mG D A s H locs ((h0, .inr (1, [.ref q1, .ref q5, .null, .null, .null, .null])) :: ac6) := G
  refine lv_aload_n E.1 E.2.1 dX1_init_22 rfl (lv_at hl 0 rfl) ?_
  refine lv_iconst (v := 5) E.1 E.2.1 dX1_init_23 (by decide) ?_
  refine m_newi E G (N' := 5) (by decide) (by decide) (by decide) (by decide) (by decide) dX1_init_24 (fun q7 H G => ?_)
  obtain ⟨ac8, hac8⟩ : ∃ w : va_W, w = ac6 ++ [(q7, .inl (K 0, 5, .inl (fun _ => 0)))] := ⟨_, rfl⟩
  have G : mG D A s H locs ((h0, .inr (1, [.ref q1, .ref q5, .null, .null, .null, .null])) :: ac8) := by rw [hac8]; exact G
  refine m_putF E G hN 0 (ci := 1) rfl 2 (C := RX1) (T := TX1) (N := 6) rfl (by decide) mw_fl_1_22 rfl rfl rfl rfl (Nat.le_of_ble_eq_true rfl) dX1_init_26 (fun H locs G => ?_)
  have G : mG D A s H locs ((h0, .inr (1, [.ref q1, .ref q5, .ref q7, .null, .null, .null])) :: ac8) := G
  refine lv_aload_n E.1 E.2.1 dX1_init_29 rfl (lv_at hl 0 rfl) ?_
  refine lv_bipush (v := 11) E.1 E.2.1 dX1_init_30 (by decide) ?_
  refine m_newi E G (N' := 11) (by decide) (by decide) (by decide) (by decide) (by decide) dX1_init_32 (fun q9 H G => ?_)
  obtain ⟨ac10, hac10⟩ : ∃ w : va_W, w = ac8 ++ [(q9, .inl (K 0, 11, .inl (fun _ => 0)))] := ⟨_, rfl⟩
  have G : mG D A s H locs ((h0, .inr (1, [.ref q1, .ref q5, .ref q7, .null, .null, .null])) :: ac10) := by rw [hac10]; exact G
  refine m_putF E G hN 0 (ci := 1) rfl 3 (C := RX1) (T := TX1) (N := 6) rfl (by decide) mw_fl_1_25 rfl rfl rfl rfl (Nat.le_of_ble_eq_true rfl) dX1_init_34 (fun H locs G => ?_)
  have G : mG D A s H locs ((h0, .inr (1, [.ref q1, .ref q5, .ref q7, .ref q9, .null, .null])) :: ac10) := G
  refine lv_aload_n E.1 E.2.1 dX1_init_37 rfl (lv_at hl 0 rfl) ?_
  refine m_new E G 8 (C := RX8) (T := TX8) (N := 10) rfl fr_X8 mw_cl_1_28 mw_insta_8 mw_ini_8 (by decide) (by decide) dX1_init_38 (fun q11 H G => ?_)
  have G : mG D A s H locs ((q11, .inr (8, [.int 0, .int 0, .int 0, .int 0, .null, .null, .null, .null, .null, .null])) :: (h0, .inr (1, [.ref q1, .ref q5, .ref q7, .ref q9, .null, .null])) :: ac10) := G.pm (pm_f _ _)
  refine lv_dup E.1 E.2.1 dX1_init_41 rfl ?_
  refine n_in E G hl (n_Town l D K 368 (by decide : at_ 8 368 = true) q11) rfl mw_code_X8_init mw_ini_8 mw_mn_1_30 mw_inst_X8_init hd_X8_init ⟨by decide, by decide⟩ rfl (Nat.le_of_ble_eq_true rfl) ⟨by decide, by decide⟩ dX1_init_42 (fun g12 H locs hp13 G => ?_)
  obtain ⟨ac14, hac14⟩ : ∃ w : va_W, w = ac10 ++ (Bk K 368 13 g12) := ⟨_, rfl⟩
  have G : mG D A s H locs ((h0, .inr (1, [.ref q1, .ref q5, .ref q7, .ref q9, .null, .null])) :: ac14) := by rw [hac14]; exact G
  refine m_put E G 0 (ci := 1) rfl 4 (C := RX1) (T := TX1) (N := 6) rfl (by decide) mw_fl_1_31 rfl rfl rfl (Nat.le_of_ble_eq_true rfl) dX1_init_45 (fun H locs G => ?_)
  have G : mG D A s H locs ((h0, .inr (1, [.ref q1, .ref q5, .ref q7, .ref q9, .ref q11, .null])) :: ac14) := G
  refine lv_aload_n E.1 E.2.1 dX1_init_48 rfl (lv_at hl 0 rfl) ?_
  refine m_new E G 4 (C := RX4) (T := TX4) (N := 6) rfl fr_X4 mw_cl_1_35 mw_insta_4 mw_ini_4 (by decide) (by decide) dX1_init_49 (fun q15 H G => ?_)
  have G : mG D A s H locs ((q15, .inr (4, [.int 0, .null, .int 0, .null, .null, .null])) :: (h0, .inr (1, [.ref q1, .ref q5, .ref q7, .ref q9, .ref q11, .null])) :: ac14) := G.pm (pm_f _ _)
  refine lv_dup E.1 E.2.1 dX1_init_52 rfl ?_
  refine n_in E G hl (n_Rule l D K 381 (by decide : at_ 4 381 = true) q15) rfl mw_code_X4_init mw_ini_4 mw_mn_1_37 mw_inst_X4_init hd_X4_init ⟨by decide, by decide⟩ rfl (Nat.le_of_ble_eq_true rfl) ⟨by decide, by decide⟩ dX1_init_53 (fun g16 H locs hp17 G => ?_)
  obtain ⟨ac18, hac18⟩ : ∃ w : va_W, w = ac14 ++ (Bk K 381 5 g16) := ⟨_, rfl⟩
  have G : mG D A s H locs ((h0, .inr (1, [.ref q1, .ref q5, .ref q7, .ref q9, .ref q11, .null])) :: ac18) := by rw [hac18]; exact G
  refine m_put E G 0 (ci := 1) rfl 5 (C := RX1) (T := TX1) (N := 6) rfl (by decide) mw_fl_1_38 rfl rfl rfl (Nat.le_of_ble_eq_true rfl) dX1_init_56 (fun H locs G => ?_)
  have G : mG D A s H locs ((h0, .inr (1, [.ref q1, .ref q5, .ref q7, .ref q9, .ref q11, .ref q15])) :: ac18) := G
  obtain ⟨X0, hX0⟩ : ∃ x : va_W, x = ([(h0, .inr (1, [.ref q1, .ref q5, .ref q7, .ref q9, .ref q11, .ref q15]))] : va_W) := ⟨_, rfl⟩
  obtain ⟨g, hq19, hq20, hq21, hq22, hq23, hq24, hq25⟩ : ∃ g : Nat → Nat, g 324 = h0 ∧ (∀ i, i < 7 → g (325 + i) = g2 (325 + i)) ∧ g 332 = q5 ∧ g 333 = q7 ∧ g 334 = q9 ∧ (∀ i, i < 13 → g (368 + i) = g12 (368 + i)) ∧ (∀ i, i < 5 → g (381 + i) = g16 (381 + i)) := by
    refine ⟨fun j => if j < 325 then h0 else if j < 332 then g2 j else if j < 333 then q5 else if j < 334 then q7 else if j < 335 then q9 else if j < 381 then g12 j else g16 j, ?_, ?_, ?_, ?_, ?_, ?_, ?_⟩
    · exact (if_pos (by omega))
    · exact fun i hi => ((if_neg (by omega)).trans (if_pos (by omega)))
    · exact ((if_neg (by omega)).trans ((if_neg (by omega)).trans (if_pos (by omega))))
    · exact ((if_neg (by omega)).trans ((if_neg (by omega)).trans ((if_neg (by omega)).trans (if_pos (by omega)))))
    · exact ((if_neg (by omega)).trans ((if_neg (by omega)).trans ((if_neg (by omega)).trans ((if_neg (by omega)).trans (if_pos (by omega))))))
    · exact fun i hi => ((if_neg (by omega)).trans ((if_neg (by omega)).trans ((if_neg (by omega)).trans ((if_neg (by omega)).trans ((if_neg (by omega)).trans (if_pos (by omega)))))))
    · exact fun i hi => ((if_neg (by omega)).trans ((if_neg (by omega)).trans ((if_neg (by omega)).trans ((if_neg (by omega)).trans ((if_neg (by omega)).trans (if_neg (by omega)))))))
  have hW : ((h0, .inr (1, [.ref q1, .ref q5, .ref q7, .ref q9, .ref q11, .ref q15])) :: ac18) = X0 ++ (Bk K 325 7 g2 ++ (([(q5, .inl (K 0, 5, .inl (fun _ => 0)))] : va_W) ++ (([(q7, .inl (K 0, 5, .inl (fun _ => 0)))] : va_W) ++ (([(q9, .inl (K 0, 11, .inl (fun _ => 0)))] : va_W) ++ (Bk K 368 13 g12 ++ (Bk K 381 5 g16 ++ ([]))))))) := by
    rw [hX0, hac18, hac14, hac10, hac8, hac6, hac4, hac0]
    simp only [List.nil_append, List.append_nil, List.append_assoc, List.cons_append]
  have hP : List.Perm (X0 ++ (Bk K 325 7 g2 ++ (([(q5, .inl (K 0, 5, .inl (fun _ => 0)))] : va_W) ++ (([(q7, .inl (K 0, 5, .inl (fun _ => 0)))] : va_W) ++ (([(q9, .inl (K 0, 11, .inl (fun _ => 0)))] : va_W) ++ (Bk K 368 13 g12 ++ (Bk K 381 5 g16 ++ ([]))))))) : va_W) (X0 ++ (Bk K 325 7 g2 ++ (([(q5, .inl (K 0, 5, .inl (fun _ => 0)))] : va_W) ++ (([(q7, .inl (K 0, 5, .inl (fun _ => 0)))] : va_W) ++ (([(q9, .inl (K 0, 11, .inl (fun _ => 0)))] : va_W) ++ (Bk K 368 13 g12 ++ (Bk K 381 5 g16 ++ ([]))))))) : va_W) := pm_of (f := fun i => ([X0, Bk K 325 7 g2, ([(q5, .inl (K 0, 5, .inl (fun _ => 0)))] : va_W), ([(q7, .inl (K 0, 5, .inl (fun _ => 0)))] : va_W), ([(q9, .inl (K 0, 11, .inl (fun _ => 0)))] : va_W), Bk K 368 13 g12, Bk K 381 5 g16] : List va_W).getD i []) (m := 7) (π := [0, 1, 2, 3, 4, 5, 6]) (by decide)
  have hr26 : g 325 = q1 := (hq20 0 (by decide)).trans hp3
  have hr27 : g 368 = q11 := (hq24 0 (by decide)).trans hp13
  have hr28 : g 381 = q15 := (hq25 0 (by decide)).trans hp17
  have tt29 : Bk K 324 1 g = X0 := by
    rw [hX0, Bk_one, cf_o (j := 324) (ci := 1) (rfl : ro 324 = 1) (by decide)]
    show ([(g 324, .inr (1, [.ref (g 325), .ref (g 332), .ref (g 333), .ref (g 334), .ref (g 368), .ref (g 381)]))] : va_W) = _
    rw [hq19, hr26, hq21, hq22, hq23, hr27, hr28]
  have tt30 : Bk K 325 7 g = Bk K 325 7 g2 := Bk_ca 6 (by decide : at_ 6 325 = true) rfl (by decide +kernel) hq20
  have tt31 : Bk K 332 1 g = ([(q5, .inl (K 0, 5, .inl (fun _ => 0)))] : va_W) := by rw [Bk_one, hq21, cf_r (j := 332) (r := 39) (rfl : ro 332 = 39) (by decide), show akN 39 = 5 by decide +kernel, show akK 39 = 0 by decide +kernel]; rfl
  have tt32 : Bk K 333 1 g = ([(q7, .inl (K 0, 5, .inl (fun _ => 0)))] : va_W) := by rw [Bk_one, hq22, cf_r (j := 333) (r := 40) (rfl : ro 333 = 40) (by decide), show akN 40 = 5 by decide +kernel, show akK 40 = 0 by decide +kernel]; rfl
  have tt33 : Bk K 334 1 g = ([(q9, .inl (K 0, 11, .inl (fun _ => 0)))] : va_W) := by rw [Bk_one, hq23, cf_r (j := 334) (r := 41) (rfl : ro 334 = 41) (by decide), show akN 41 = 11 by decide +kernel, show akK 41 = 0 by decide +kernel]; rfl
  have tt34 : Bk K 368 13 g = Bk K 368 13 g12 := Bk_ca 8 (by decide : at_ 8 368 = true) rfl (by decide +kernel) hq24
  have tt35 : Bk K 381 5 g = Bk K 381 5 g16 := Bk_ca 4 (by decide : at_ 4 381 = true) rfl (by decide +kernel) hq25
  have ss36 : Bk K 324 11 g = Bk K 324 1 g ++ Bk K 325 10 g := Bk_split 324 1 10
  have ss37 : Bk K 325 10 g = Bk K 325 7 g ++ Bk K 332 3 g := Bk_split 325 7 3
  have ss38 : Bk K 332 3 g = Bk K 332 1 g ++ Bk K 333 2 g := Bk_split 332 1 2
  have ss39 : Bk K 333 2 g = Bk K 333 1 g ++ Bk K 334 1 g := Bk_split 333 1 1
  have ss40 : Bk K 334 1 g = Bk K 334 1 g ++ Bk K 335 0 g := Bk_split 334 1 0
  have hB41 : Bk K 324 11 g = X0 ++ (Bk K 325 7 g2 ++ (([(q5, .inl (K 0, 5, .inl (fun _ => 0)))] : va_W) ++ (([(q7, .inl (K 0, 5, .inl (fun _ => 0)))] : va_W) ++ (([(q9, .inl (K 0, 11, .inl (fun _ => 0)))] : va_W) ++ ([]))))) := by rw [ss36, tt29, ss37, tt30, ss38, tt31, ss39, tt32, ss40, tt33, Bk_nil]
  have ss42 : Bk K 368 13 g = Bk K 368 13 g ++ Bk K 381 0 g := Bk_split 368 13 0
  have hB43 : Bk K 368 13 g = Bk K 368 13 g12 ++ ([]) := by rw [ss42, tt34, Bk_nil]
  have ss44 : Bk K 381 5 g = Bk K 381 5 g ++ Bk K 386 0 g := Bk_split 381 5 0
  have hB45 : Bk K 381 5 g = Bk K 381 5 g16 ++ ([]) := by rw [ss44, tt35, Bk_nil]
  have hB : X0 ++ (Bk K 325 7 g2 ++ (([(q5, .inl (K 0, 5, .inl (fun _ => 0)))] : va_W) ++ (([(q7, .inl (K 0, 5, .inl (fun _ => 0)))] : va_W) ++ (([(q9, .inl (K 0, 11, .inl (fun _ => 0)))] : va_W) ++ (Bk K 368 13 g12 ++ (Bk K 381 5 g16 ++ ([]))))))) = Bk K 324 11 g ++ (Bk K 368 13 g ++ (Bk K 381 5 g)) := by
    rw [hB41, hB43, hB45]
    try simp only [List.append_assoc, List.append_nil, List.nil_append, List.cons_append]
  rw [hW] at G
  have hP := hP.trans (List.Perm.of_eq hB)
  exact n_retv E G hr g hq19 hP (by decide) (by decide) dX1_init_59
