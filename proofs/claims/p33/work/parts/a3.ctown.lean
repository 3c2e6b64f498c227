theorem mw_cl_8_37 : (Cond.classLink RX8 37 RX6 : Cond) ∈ cw := cw_of (List.mem_append_right _ (List.mem_append_left _ (List.mem_of_getElem? (i := 80) (by decide +kernel)))) (by decide +kernel)
theorem mw_code_X6_init : (Cond.code yX6_init cX6_init 1 none : Cond) ∈ cw := cw_of (List.mem_append_right _ (List.mem_append_left _ (List.mem_of_getElem? (i := 84) rfl))) (by decide +kernel)
theorem mw_inst_X6_init : (Cond.instanceMethod yX6_init : Cond) ∈ cw := cw_of (List.mem_append_right _ (List.mem_append_left _ (List.mem_of_getElem? (i := 83) (by decide +kernel)))) (by decide +kernel)
theorem mw_insta_6 : (Cond.instantiable RX6 8 : Cond) ∈ cw := cw_of (List.mem_append_right _ (List.mem_append_left _ (List.mem_of_getElem? (i := 81) (by decide +kernel)))) (by decide +kernel)
theorem mw_ml_8_3 : (Cond.methodLink RX8 3 Lib.objectInit : Cond) ∈ cw := cw_of (List.mem_append_right _ (List.mem_append_left _ (List.mem_of_getElem? (i := 79) (by decide +kernel)))) (by decide +kernel)
theorem mw_mn_8_39 : (Cond.methodLinkNest RX8 39 yX6_init "LureTown" : Cond) ∈ cw := cw_of (List.mem_append_right _ (List.mem_append_left _ (List.mem_of_getElem? (i := 82) (by decide +kernel)))) (by decide +kernel)
theorem dX8_init_0 : decode cX8_init 0 = .ok (.aload_n 0, 1) := by decide +kernel
theorem dX8_init_1 : decode cX8_init 1 = .ok (.invokespecial 3, 3) := by decide +kernel
theorem dX8_init_4 : decode cX8_init 4 = .ok (.aload_n 0, 1) := by decide +kernel
theorem dX8_init_5 : decode cX8_init 5 = .ok (.iconst 0, 1) := by decide +kernel
theorem dX8_init_6 : decode cX8_init 6 = .ok (.putfield 9, 3) := by decide +kernel
theorem dX8_init_9 : decode cX8_init 9 = .ok (.aload_n 0, 1) := by decide +kernel
theorem dX8_init_10 : decode cX8_init 10 = .ok (.iconst 0, 1) := by decide +kernel
theorem dX8_init_11 : decode cX8_init 11 = .ok (.putfield 15, 3) := by decide +kernel
theorem dX8_init_14 : decode cX8_init 14 = .ok (.aload_n 0, 1) := by decide +kernel
theorem dX8_init_15 : decode cX8_init 15 = .ok (.iconst 0, 1) := by decide +kernel
theorem dX8_init_16 : decode cX8_init 16 = .ok (.putfield 18, 3) := by decide +kernel
theorem dX8_init_19 : decode cX8_init 19 = .ok (.aload_n 0, 1) := by decide +kernel
theorem dX8_init_20 : decode cX8_init 20 = .ok (.iconst 0, 1) := by decide +kernel
theorem dX8_init_21 : decode cX8_init 21 = .ok (.putfield 21, 3) := by decide +kernel
theorem dX8_init_24 : decode cX8_init 24 = .ok (.aload_n 0, 1) := by decide +kernel
theorem dX8_init_25 : decode cX8_init 25 = .ok (.bipush 8, 2) := by decide +kernel
theorem dX8_init_27 : decode cX8_init 27 = .ok (.newarray .int, 2) := by decide +kernel
theorem dX8_init_29 : decode cX8_init 29 = .ok (.putfield 24, 3) := by decide +kernel
theorem dX8_init_32 : decode cX8_init 32 = .ok (.aload_n 0, 1) := by decide +kernel
theorem dX8_init_33 : decode cX8_init 33 = .ok (.bipush 6, 2) := by decide +kernel
theorem dX8_init_35 : decode cX8_init 35 = .ok (.newarray .int, 2) := by decide +kernel
theorem dX8_init_37 : decode cX8_init 37 = .ok (.putfield 28, 3) := by decide +kernel
theorem dX8_init_40 : decode cX8_init 40 = .ok (.aload_n 0, 1) := by decide +kernel
theorem dX8_init_41 : decode cX8_init 41 = .ok (.bipush 6, 2) := by decide +kernel
theorem dX8_init_43 : decode cX8_init 43 = .ok (.newarray .int, 2) := by decide +kernel
theorem dX8_init_45 : decode cX8_init 45 = .ok (.putfield 31, 3) := by decide +kernel
theorem dX8_init_48 : decode cX8_init 48 = .ok (.aload_n 0, 1) := by decide +kernel
theorem dX8_init_49 : decode cX8_init 49 = .ok (.iconst 5, 1) := by decide +kernel
theorem dX8_init_50 : decode cX8_init 50 = .ok (.newarray .int, 2) := by decide +kernel
theorem dX8_init_52 : decode cX8_init 52 = .ok (.putfield 34, 3) := by decide +kernel
theorem dX8_init_55 : decode cX8_init 55 = .ok (.aload_n 0, 1) := by decide +kernel
theorem dX8_init_56 : decode cX8_init 56 = .ok (.new 37, 3) := by decide +kernel
theorem dX8_init_59 : decode cX8_init 59 = .ok (.dup, 1) := by decide +kernel
theorem dX8_init_60 : decode cX8_init 60 = .ok (.invokespecial 39, 3) := by decide +kernel
theorem dX8_init_63 : decode cX8_init 63 = .ok (.putfield 40, 3) := by decide +kernel
theorem dX8_init_66 : decode cX8_init 66 = .ok (.aload_n 0, 1) := by decide +kernel
theorem dX8_init_67 : decode cX8_init 67 = .ok (.bipush 64, 2) := by decide +kernel
theorem dX8_init_69 : decode cX8_init 69 = .ok (.newarray .int, 2) := by decide +kernel
theorem dX8_init_71 : decode cX8_init 71 = .ok (.putfield 44, 3) := by decide +kernel
theorem dX8_init_74 : decode cX8_init 74 = .ok (.return_, 1) := by decide +kernel
theorem hd_X6_init : yX6_init.cls ≠ "java/lang/invoke/MethodHandle" ∧ yX6_init.cls ≠ "java/lang/invoke/VarHandle" ∧ (parseMethodDescriptor yX6_init.desc).map (fun d => d.parameters.length) = some 0 := ⟨by decide +kernel, by decide +kernel, by decide +kernel⟩
set_option maxHeartbeats 4000000 in
set_option maxRecDepth 100000 in
theorem n_Town (l : Launch) (D : va_G) (K : Nat → ClassId) (pp : Nat) (app : at_ 8 pp = true) (h0 : Nat) : mV (S := Nat → Nat) l yX8_init cX8_init 1 ({ frames := 2, cells := 12, slots := 129, locals := 40 }) D K [(h0, .inr (8, [.int 0, .int 0, .int 0, .int 0, .null, .null, .null, .null, .null, .null]))] [.ref h0] (fun g => g pp = h0) (fun g => Bk K pp 13 g) := by
  refine m_enterV (by decide) (Nat.le_of_ble_eq_true rfl) ?_
  intro p e s m args below meth c A ls E hr hN G hl
  have E : mE p s m meth c cX8_init args 1 RX8 D K A := E
  have hl : lv_has ls 1 [(0, .ref h0)] := hl
  obtain ⟨H, hH⟩ : ∃ H, H = s.heap := ⟨_, rfl⟩
  obtain ⟨locs, hlo⟩ : ∃ L : List Loc, L = [] := ⟨_, rfl⟩
  rw [← hH, ← hlo] at G
  rw [← hH, ← hlo]
  clear hH hlo
  obtain ⟨ac0, hac0⟩ : ∃ w : va_W, w = [] := ⟨_, rfl⟩
  have G : mG D A s H locs ((h0, .inr (8, [.int 0, .int 0, .int 0, .int 0, .null, .null, .null, .null, .null, .null])) :: ac0) := by rw [hac0]; exact G
  refine lv_aload_n E.1 E.2.1 dX8_init_0 rfl (lv_at hl 0 rfl) ?_
  refine m_objInit E hl mw_ml_8_3 dX8_init_1 (by decide) (Nat.le_of_ble_eq_true rfl) (by decide) ?_
  refine lv_aload_n E.1 E.2.1 dX8_init_4 rfl (lv_at hl 0 rfl) ?_
  refine lv_iconst (v := 0) E.1 E.2.1 dX8_init_5 (by decide) ?_
  refine m_put E G 0 (ci := 8) rfl 0 (C := RX8) (T := TX8) (N := 10) rfl (by decide) mw_fl_8_9 rfl rfl rfl (Nat.le_of_ble_eq_true rfl) dX8_init_6 (fun H locs G => ?_)
  have G : mG D A s H locs ((h0, .inr (8, [.int 0, .int 0, .int 0, .int 0, .null, .null, .null, .null, .null, .null])) :: ac0) := G
  refine lv_aload_n E.1 E.2.1 dX8_init_9 rfl (lv_at hl 0 rfl) ?_
  refine lv_iconst (v := 0) E.1 E.2.1 dX8_init_10 (by decide) ?_
  refine m_put E G 0 (ci := 8) rfl 1 (C := RX8) (T := TX8) (N := 10) rfl (by decide) mw_fl_8_15 rfl rfl rfl (Nat.le_of_ble_eq_true rfl) dX8_init_11 (fun H locs G => ?_)
  have G : mG D A s H locs ((h0, .inr (8, [.int 0, .int 0, .int 0, .int 0, .null, .null, .null, .null, .null, .null])) :: ac0) := G
  refine lv_aload_n E.1 E.2.1 dX8_init_14 rfl (lv_at hl 0 rfl) ?_
  refine lv_iconst (v := 0) E.1 E.2.1 dX8_init_15 (by decide) ?_
  refine m_put E G 0 (ci := 8) rfl 2 (C := RX8) (T := TX8) (N := 10) rfl (by decide) mw_fl_8_18 rfl rfl rfl (Nat.le_of_ble_eq_true rfl) dX8_init_16 (fun H locs G => ?_)
  have G : mG D A s H locs ((h0, .inr (8, [.int 0, .int 0, .int 0, .int 0, .null, .null, .null, .null, .null, .null])) :: ac0) := G
  refine lv_aload_n E.1 E.2.1 dX8_init_19 rfl (lv_at hl 0 rfl) ?_
  refine lv_iconst (v := 0) E.1 E.2.1 dX8_init_20 (by decide) ?_
  refine m_put E G 0 (ci := 8) rfl 3 (C := RX8) (T := TX8) (N := 10) rfl (by decide) mw_fl_8_21 rfl rfl rfl (Nat.le_of_ble_eq_true rfl) dX8_init_21 (fun H locs G => ?_)
  have G : mG D A s H locs ((h0, .inr (8, [.int 0, .int 0, .int 0, .int 0, .null, .null, .null, .null, .null, .null])) :: ac0) := G
  refine lv_aload_n E.1 E.2.1 dX8_init_24 rfl (lv_at hl 0 rfl) ?_
  refine lv_bipush (v := 8) E.1 E.2.1 dX8_init_25 (by decide) ?_
  refine m_newi E G (N' := 8) (by decide) (by decide) (by decide) (by decide) (by decide) dX8_init_27 (fun q1 H G => ?_)
  obtain ⟨ac2, hac2⟩ : ∃ w : va_W, w = ac0 ++ [(q1, .inl (K 0, 8, .inl (fun _ => 0)))] := ⟨_, rfl⟩
  have G : mG D A s H locs ((h0, .inr (8, [.int 0, .int 0, .int 0, .int 0, .null, .null, .null, .null, .null, .null])) :: ac2) := by rw [hac2]; exact G
  refine m_putF E G hN 0 (ci := 8) rfl 4 (C := RX8) (T := TX8) (N := 10) rfl (by decide) mw_fl_8_24 rfl rfl rfl rfl (Nat.le_of_ble_eq_true rfl) dX8_init_29 (fun H locs G => ?_)
  have G : mG D A s H locs ((h0, .inr (8, [.int 0, .int 0, .int 0, .int 0, .ref q1, .null, .null, .null, .null, .null])) :: ac2) := G
  refine lv_aload_n E.1 E.2.1 dX8_init_32 rfl (lv_at hl 0 rfl) ?_
  refine lv_bipush (v := 6) E.1 E.2.1 dX8_init_33 (by decide) ?_
  refine m_newi E G (N' := 6) (by decide) (by decide) (by decide) (by decide) (by decide) dX8_init_35 (fun q3 H G => ?_)
  obtain ⟨ac4, hac4⟩ : ∃ w : va_W, w = ac2 ++ [(q3, .inl (K 0, 6, .inl (fun _ => 0)))] := ⟨_, rfl⟩
  have G : mG D A s H locs ((h0, .inr (8, [.int 0, .int 0, .int 0, .int 0, .ref q1, .null, .null, .null, .null, .null])) :: ac4) := by rw [hac4]; exact G
  refine m_putF E G hN 0 (ci := 8) rfl 5 (C := RX8) (T := TX8) (N := 10) rfl (by decide) mw_fl_8_28 rfl rfl rfl rfl (Nat.le_of_ble_eq_true rfl) dX8_init_37 (fun H locs G => ?_)
  have G : mG D A s H locs ((h0, .inr (8, [.int 0, .int 0, .int 0, .int 0, .ref q1, .ref q3, .null, .null, .null, .null])) :: ac4) := G
  refine lv_aload_n E.1 E.2.1 dX8_init_40 rfl (lv_at hl 0 rfl) ?_
  refine lv_bipush (v := 6) E.1 E.2.1 dX8_init_41 (by decide) ?_
  refine m_newi E G (N' := 6) (by decide) (by decide) (by decide) (by decide) (by decide) dX8_init_43 (fun q5 H G => ?_)
  obtain ⟨ac6, hac6⟩ : ∃ w : va_W, w = ac4 ++ [(q5, .inl (K 0, 6, .inl (fun _ => 0)))] := ⟨_, rfl⟩
  have G : mG D A s H locs ((h0, .inr (8, [.int 0, .int 0, .int 0, .int 0, .ref q1, .ref q3, .null, .null, .null, .null])) :: ac6) := by rw [hac6]; exact G
  refine m_putF E G hN 0 (ci := 8) rfl 6 (C := RX8) (T := TX8) (N := 10) rfl (by decide) mw_fl_8_31 rfl rfl rfl rfl (Nat.le_of_ble_eq_true rfl) dX8_init_45 (fun H locs G => ?_)
  have G : mG D A s H locs ((h0, .inr (8, [.int 0, .int 0, .int 0, .int 0, .ref q1, .ref q3, .ref q5, .null, .null, .null])) :: ac6) := G
  refine lv_aload_n E.1 E.2.1 dX8_init_48 rfl (lv_at hl 0 rfl) ?_
  refine lv_iconst (v := 5) E.1 E.2.1 dX8_init_49 (by decide) ?_
  refine m_newi E G (N' := 5) (by decide) (by decide) (by decide) (by decide) (by decide) dX8_init_50 (fun q7 H G => ?_)
  obtain ⟨ac8, hac8⟩ : ∃ w : va_W, w = ac6 ++ [(q7, .inl (K 0, 5, .inl (fun _ => 0)))] := ⟨_, rfl⟩
  have G : mG D A s H locs ((h0, .inr (8, [.int 0, .int 0, .int 0, .int 0, .ref q1, .ref q3, .ref q5, .null, .null, .null])) :: ac8) := by rw [hac8]; exact G
  refine m_putF E G hN 0 (ci := 8) rfl 7 (C := RX8) (T := TX8) (N := 10) rfl (by decide) mw_fl_8_34 rfl rfl rfl rfl (Nat.le_of_ble_eq_true rfl) dX8_init_52 (fun H locs G => ?_)
  have G : mG D A s H locs ((h0, .inr (8, [.int 0, .int 0, .int 0, .int 0, .ref q1, .ref q3, .ref q5, .ref q7, .null, .null])) :: ac8) := G
  refine lv_aload_n E.1 E.2.1 dX8_init_55 rfl (lv_at hl 0 rfl) ?_
  refine m_new E G 6 (C := RX6) (T := TX6) (N := 8) rfl fr_X6 mw_cl_8_37 mw_insta_6 mw_ini_6 (by decide) (by decide) dX8_init_56 (fun q9 H G => ?_)
  have G : mG D A s H locs ((q9, .inr (6, [.null, .null, .null, .null, .null, .null, .int 0, .int 0])) :: (h0, .inr (8, [.int 0, .int 0, .int 0, .int 0, .ref q1, .ref q3, .ref q5, .ref q7, .null, .null])) :: ac8) := G.pm (pm_f _ _)
  refine lv_dup E.1 E.2.1 dX8_init_59 rfl ?_
  refine n_in E G hl (n_State l D K (pp + 5) (at_sub 6 5 app (by decide) (by decide)) q9) rfl mw_code_X6_init mw_ini_6 mw_mn_8_39 mw_inst_X6_init hd_X6_init ⟨by decide, by decide⟩ rfl (Nat.le_of_ble_eq_true rfl) ⟨by decide, by decide⟩ dX8_init_60 (fun g10 H locs hp11 G => ?_)
  obtain ⟨ac12, hac12⟩ : ∃ w : va_W, w = ac8 ++ (Bk K (pp + 5) 7 g10) := ⟨_, rfl⟩
  have G : mG D A s H locs ((h0, .inr (8, [.int 0, .int 0, .int 0, .int 0, .ref q1, .ref q3, .ref q5, .ref q7, .null, .null])) :: ac12) := by rw [hac12]; exact G
  refine m_putF E G hN 0 (ci := 8) rfl 8 (C := RX8) (T := TX8) (N := 10) rfl (by decide) mw_fl_8_40 rfl rfl rfl rfl (Nat.le_of_ble_eq_true rfl) dX8_init_63 (fun H locs G => ?_)
  have G : mG D A s H locs ((h0, .inr (8, [.int 0, .int 0, .int 0, .int 0, .ref q1, .ref q3, .ref q5, .ref q7, .ref q9, .null])) :: ac12) := G
  refine lv_aload_n E.1 E.2.1 dX8_init_66 rfl (lv_at hl 0 rfl) ?_
  refine lv_bipush (v := 64) E.1 E.2.1 dX8_init_67 (by decide) ?_
  refine m_newi E G (N' := 64) (by decide) (by decide) (by decide) (by decide) (by decide) dX8_init_69 (fun q13 H G => ?_)
  obtain ⟨ac14, hac14⟩ : ∃ w : va_W, w = ac12 ++ [(q13, .inl (K 0, 64, .inl (fun _ => 0)))] := ⟨_, rfl⟩
  have G : mG D A s H locs ((h0, .inr (8, [.int 0, .int 0, .int 0, .int 0, .ref q1, .ref q3, .ref q5, .ref q7, .ref q9, .null])) :: ac14) := by rw [hac14]; exact G
  refine m_putF E G hN 0 (ci := 8) rfl 9 (C := RX8) (T := TX8) (N := 10) rfl (by decide) mw_fl_8_44 rfl rfl rfl rfl (Nat.le_of_ble_eq_true rfl) dX8_init_71 (fun H locs G => ?_)
  have G : mG D A s H locs ((h0, .inr (8, [.int 0, .int 0, .int 0, .int 0, .ref q1, .ref q3, .ref q5, .ref q7, .ref q9, .ref q13])) :: ac14) := G
  obtain ⟨X0, hX0⟩ : ∃ x : va_W, x = ([(h0, .inr (8, [.int 0, .int 0, .int 0, .int 0, .ref q1, .ref q3, .ref q5, .ref q7, .ref q9, .ref q13]))] : va_W) := ⟨_, rfl⟩
  obtain ⟨g, hq15, hq16, hq17, hq18, hq19, hq20, hq21⟩ : ∃ g : Nat → Nat, g pp = h0 ∧ g (pp + 1) = q1 ∧ g (pp + 2) = q3 ∧ g (pp + 3) = q5 ∧ g (pp + 4) = q7 ∧ (∀ i, i < 7 → g ((pp + 5) + i) = g10 ((pp + 5) + i)) ∧ g (pp + 12) = q13 := by
    refine ⟨fun j => if j < (pp + 1) then h0 else if j < (pp + 2) then q1 else if j < (pp + 3) then q3 else if j < (pp + 4) then q5 else if j < (pp + 5) then q7 else if j < (pp + 12) then g10 j else q13, ?_, ?_, ?_, ?_, ?_, ?_, ?_⟩
    · exact (if_pos (by omega))
    · exact ((if_neg (by omega)).trans (if_pos (by omega)))
    · exact ((if_neg (by omega)).trans ((if_neg (by omega)).trans (if_pos (by omega))))
    · exact ((if_neg (by omega)).trans ((if_neg (by omega)).trans ((if_neg (by omega)).trans (if_pos (by omega)))))
    · exact ((if_neg (by omega)).trans ((if_neg (by omega)).trans ((if_neg (by omega)).trans ((if_neg (by omega)).trans (if_pos (by omega))))))
    · exact fun i hi => ((if_neg (by omega)).trans ((if_neg (by omega)).trans ((if_neg (by omega)).trans ((if_neg (by omega)).trans ((if_neg (by omega)).trans (if_pos (by omega)))))))
    · exact ((if_neg (by omega)).trans ((if_neg (by omega)).trans ((if_neg (by omega)).trans ((if_neg (by omega)).trans ((if_neg (by omega)).trans (if_neg (by omega)))))))
  have hW : ((h0, .inr (8, [.int 0, .int 0, .int 0, .int 0, .ref q1, .ref q3, .ref q5, .ref q7, .ref q9, .ref q13])) :: ac14) = X0 ++ (([(q1, .inl (K 0, 8, .inl (fun _ => 0)))] : va_W) ++ (([(q3, .inl (K 0, 6, .inl (fun _ => 0)))] : va_W) ++ (([(q5, .inl (K 0, 6, .inl (fun _ => 0)))] : va_W) ++ (([(q7, .inl (K 0, 5, .inl (fun _ => 0)))] : va_W) ++ (Bk K (pp + 5) 7 g10 ++ (([(q13, .inl (K 0, 64, .inl (fun _ => 0)))] : va_W) ++ ([]))))))) := by
    rw [hX0, hac14, hac12, hac8, hac6, hac4, hac2, hac0]
    simp only [List.nil_append, List.append_nil, List.append_assoc, List.cons_append]
  have hP : List.Perm (X0 ++ (([(q1, .inl (K 0, 8, .inl (fun _ => 0)))] : va_W) ++ (([(q3, .inl (K 0, 6, .inl (fun _ => 0)))] : va_W) ++ (([(q5, .inl (K 0, 6, .inl (fun _ => 0)))] : va_W) ++ (([(q7, .inl (K 0, 5, .inl (fun _ => 0)))] : va_W) ++ (Bk K (pp + 5) 7 g10 ++ (([(q13, .inl (K 0, 64, .inl (fun _ => 0)))] : va_W) ++ ([]))))))) : va_W) (X0 ++ (([(q1, .inl (K 0, 8, .inl (fun _ => 0)))] : va_W) ++ (([(q3, .inl (K 0, 6, .inl (fun _ => 0)))] : va_W) ++ (([(q5, .inl (K 0, 6, .inl (fun _ => 0)))] : va_W) ++ (([(q7, .inl (K 0, 5, .inl (fun _ => 0)))] : va_W) ++ (Bk K (pp + 5) 7 g10 ++ (([(q13, .inl (K 0, 64, .inl (fun _ => 0)))] : va_W) ++ ([]))))))) : va_W) := pm_of (f := fun i => ([X0, ([(q1, .inl (K 0, 8, .inl (fun _ => 0)))] : va_W), ([(q3, .inl (K 0, 6, .inl (fun _ => 0)))] : va_W), ([(q5, .inl (K 0, 6, .inl (fun _ => 0)))] : va_W), ([(q7, .inl (K 0, 5, .inl (fun _ => 0)))] : va_W), Bk K (pp + 5) 7 g10, ([(q13, .inl (K 0, 64, .inl (fun _ => 0)))] : va_W)] : List va_W).getD i []) (m := 7) (π := [0, 1, 2, 3, 4, 5, 6]) (by decide)
  have hr22 : g (pp + 5) = q9 := (hq20 0 (by decide)).trans hp11
  have tt23 : Bk K pp 1 g = X0 := by
    rw [hX0, Bk_one, cf_o (j := pp) (ci := 8) (at_ro (i := 0) app (by decide) : ro pp = 8) (by decide)]
    show ([(g pp, .inr (8, [.int 0, .int 0, .int 0, .int 0, .ref (g (pp + 1)), .ref (g (pp + 2)), .ref (g (pp + 3)), .ref (g (pp + 4)), .ref (g (pp + 5)), .ref (g (pp + 12))]))] : va_W) = _
    rw [hq15, hq16, hq17, hq18, hq19, hr22, hq21]
  have tt24 : Bk K (pp + 1) 1 g = ([(q1, .inl (K 0, 8, .inl (fun _ => 0)))] : va_W) := by rw [Bk_one, hq16, cf_r (j := (pp + 1)) (r := 24) (at_ro (i := 1) app (by decide) : ro (pp + 1) = 24) (by decide), show akN 24 = 8 by decide +kernel, show akK 24 = 0 by decide +kernel]; rfl
  have tt25 : Bk K (pp + 2) 1 g = ([(q3, .inl (K 0, 6, .inl (fun _ => 0)))] : va_W) := by rw [Bk_one, hq17, cf_r (j := (pp + 2)) (r := 23) (at_ro (i := 2) app (by decide) : ro (pp + 2) = 23) (by decide), show akN 23 = 6 by decide +kernel, show akK 23 = 0 by decide +kernel]; rfl
  have tt26 : Bk K (pp + 3) 1 g = ([(q5, .inl (K 0, 6, .inl (fun _ => 0)))] : va_W) := by rw [Bk_one, hq18, cf_r (j := (pp + 3)) (r := 23) (at_ro (i := 3) app (by decide) : ro (pp + 3) = 23) (by decide), show akN 23 = 6 by decide +kernel, show akK 23 = 0 by decide +kernel]; rfl
  have tt27 : Bk K (pp + 4) 1 g = ([(q7, .inl (K 0, 5, .inl (fun _ => 0)))] : va_W) := by rw [Bk_one, hq19, cf_r (j := (pp + 4)) (r := 25) (at_ro (i := 4) app (by decide) : ro (pp + 4) = 25) (by decide), show akN 25 = 5 by decide +kernel, show akK 25 = 0 by decide +kernel]; rfl
  have tt28 : Bk K (pp + 5) 7 g = Bk K (pp + 5) 7 g10 := Bk_ca 6 (at_sub 6 5 app (by decide) (by decide)) rfl (by decide +kernel) hq20
  have tt29 : Bk K (pp + 12) 1 g = ([(q13, .inl (K 0, 64, .inl (fun _ => 0)))] : va_W) := by rw [Bk_one, hq21, cf_r (j := (pp + 12)) (r := 26) (at_ro (i := 12) app (by decide) : ro (pp + 12) = 26) (by decide), show akN 26 = 64 by decide +kernel, show akK 26 = 0 by decide +kernel]; rfl
  have ss30 : Bk K pp 13 g = Bk K pp 1 g ++ Bk K (pp + 1) 12 g := Bk_split pp 1 12
  have ss31 : Bk K (pp + 1) 12 g = Bk K (pp + 1) 1 g ++ Bk K (pp + 2) 11 g := Bk_split (pp + 1) 1 11
  have ss32 : Bk K (pp + 2) 11 g = Bk K (pp + 2) 1 g ++ Bk K (pp + 3) 10 g := Bk_split (pp + 2) 1 10
  have ss33 : Bk K (pp + 3) 10 g = Bk K (pp + 3) 1 g ++ Bk K (pp + 4) 9 g := Bk_split (pp + 3) 1 9
  have ss34 : Bk K (pp + 4) 9 g = Bk K (pp + 4) 1 g ++ Bk K (pp + 5) 8 g := Bk_split (pp + 4) 1 8
  have ss35 : Bk K (pp + 5) 8 g = Bk K (pp + 5) 7 g ++ Bk K (pp + 12) 1 g := Bk_split (pp + 5) 7 1
  have ss36 : Bk K (pp + 12) 1 g = Bk K (pp + 12) 1 g ++ Bk K (pp + 13) 0 g := Bk_split (pp + 12) 1 0
  have hB37 : Bk K pp 13 g = X0 ++ (([(q1, .inl (K 0, 8, .inl (fun _ => 0)))] : va_W) ++ (([(q3, .inl (K 0, 6, .inl (fun _ => 0)))] : va_W) ++ (([(q5, .inl (K 0, 6, .inl (fun _ => 0)))] : va_W) ++ (([(q7, .inl (K 0, 5, .inl (fun _ => 0)))] : va_W) ++ (Bk K (pp + 5) 7 g10 ++ (([(q13, .inl (K 0, 64, .inl (fun _ => 0)))] : va_W) ++ ([]))))))) := by rw [ss30, tt23, ss31, tt24, ss32, tt25, ss33, tt26, ss34, tt27, ss35, tt28, ss36, tt29, Bk_nil]
  have hB : X0 ++ (([(q1, .inl (K 0, 8, .inl (fun _ => 0)))] : va_W) ++ (([(q3, .inl (K 0, 6, .inl (fun _ => 0)))] : va_W) ++ (([(q5, .inl (K 0, 6, .inl (fun _ => 0)))] : va_W) ++ (([(q7, .inl (K 0, 5, .inl (fun _ => 0)))] : va_W) ++ (Bk K (pp + 5) 7 g10 ++ (([(q13, .inl (K 0, 64, .inl (fun _ => 0)))] : va_W) ++ ([]))))))) = Bk K pp 13 g := by
    rw [hB37]
    try simp only [List.append_assoc, List.append_nil, List.nil_append, List.cons_append]
  rw [hW] at G
  have hP := hP.trans (List.Perm.of_eq hB)
  exact n_retv E G hr g hq15 hP (by decide) (by decide) dX8_init_74
