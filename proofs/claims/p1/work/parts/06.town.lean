theorem mw_cl_8_37 : (Cond.classLink RX8 37 RX6 : Cond) ∈ cw := cw_of (List.mem_append_right _ (List.mem_append_left _ (List.mem_of_getElem? (i := 80) (by decide +kernel)))) (by decide +kernel)
theorem mw_code_X6_init : (Cond.code yX6_init cX6_init 1 none : Cond) ∈ cw := cw_of (List.mem_append_right _ (List.mem_append_left _ (List.mem_of_getElem? (i := 84) rfl))) (by decide +kernel)
theorem mw_fl_8_15 : (Cond.fieldLink RX8 15 "LureTown$Town" "wayCount" "I" : Cond) ∈ cw := cw_of (List.mem_append_right _ (List.mem_append_left _ (List.mem_of_getElem? (i := 138) (by decide +kernel)))) (by decide +kernel)
theorem mw_fl_8_18 : (Cond.fieldLink RX8 18 "LureTown$Town" "lureCount" "I" : Cond) ∈ cw := cw_of (List.mem_append_right _ (List.mem_append_left _ (List.mem_of_getElem? (i := 140) (by decide +kernel)))) (by decide +kernel)
theorem mw_fl_8_21 : (Cond.fieldLink RX8 21 "LureTown$Town" "walkerCount" "I" : Cond) ∈ cw := cw_of (List.mem_append_right _ (List.mem_append_left _ (List.mem_of_getElem? (i := 144) (by decide +kernel)))) (by decide +kernel)
theorem mw_fl_8_24 : (Cond.fieldLink RX8 24 "LureTown$Town" "joined" "[I" : Cond) ∈ cw := cw_of (List.mem_append_right _ (List.mem_append_left _ (List.mem_of_getElem? (i := 148) (by decide +kernel)))) (by decide +kernel)
theorem mw_fl_8_28 : (Cond.fieldLink RX8 28 "LureTown$Town" "lureGuile" "[I" : Cond) ∈ cw := cw_of (List.mem_append_right _ (List.mem_append_left _ (List.mem_of_getElem? (i := 151) (by decide +kernel)))) (by decide +kernel)
theorem mw_fl_8_31 : (Cond.fieldLink RX8 31 "LureTown$Town" "lureCharge" "[I" : Cond) ∈ cw := cw_of (List.mem_append_right _ (List.mem_append_left _ (List.mem_of_getElem? (i := 153) (by decide +kernel)))) (by decide +kernel)
theorem mw_fl_8_34 : (Cond.fieldLink RX8 34 "LureTown$Town" "walkerHome" "[I" : Cond) ∈ cw := cw_of (List.mem_append_right _ (List.mem_append_left _ (List.mem_of_getElem? (i := 156) (by decide +kernel)))) (by decide +kernel)
theorem mw_fl_8_40 : (Cond.fieldLink RX8 40 "LureTown$Town" "told" "LLureTown$State;" : Cond) ∈ cw := cw_of (List.mem_append_right _ (List.mem_append_left _ (List.mem_of_getElem? (i := 158) (by decide +kernel)))) (by decide +kernel)
theorem mw_fl_8_44 : (Cond.fieldLink RX8 44 "LureTown$Town" "apart" "[I" : Cond) ∈ cw := cw_of (List.mem_append_right _ (List.mem_append_left _ (List.mem_of_getElem? (i := 160) (by decide +kernel)))) (by decide +kernel)
theorem mw_fl_8_9 : (Cond.fieldLink RX8 9 "LureTown$Town" "cornerCount" "I" : Cond) ∈ cw := cw_of (List.mem_append_right _ (List.mem_append_left _ (List.mem_of_getElem? (i := 134) (by decide +kernel)))) (by decide +kernel)
theorem mw_ini_6 : (Cond.initialized RX6 : Cond) ∈ cw := cw_of (List.mem_append_right _ (List.mem_append_left _ (List.mem_of_getElem? (i := 5) (by decide +kernel)))) (by decide +kernel)
theorem mw_inst_X6_init : (Cond.instanceMethod yX6_init : Cond) ∈ cw := cw_of (List.mem_append_right _ (List.mem_append_left _ (List.mem_of_getElem? (i := 83) (by decide +kernel)))) (by decide +kernel)
theorem mw_insta_6 : (Cond.instantiable RX6 8 : Cond) ∈ cw := cw_of (List.mem_append_right _ (List.mem_append_left _ (List.mem_of_getElem? (i := 81) (by decide +kernel)))) (by decide +kernel)
theorem mw_ml_8_3 : (Cond.methodLink RX8 3 Lib.objectInit : Cond) ∈ cw := cw_of (List.mem_append_right _ (List.mem_append_left _ (List.mem_of_getElem? (i := 79) (by decide +kernel)))) (by decide +kernel)
theorem mw_mn_8_39 : (Cond.methodLinkNest RX8 39 yX6_init "LureTown" : Cond) ∈ cw := cw_of (List.mem_append_right _ (List.mem_append_left _ (List.mem_of_getElem? (i := 82) (by decide +kernel)))) (by decide +kernel)
theorem dX8_init_0 : decode cX8_init 0 = .ok (.aload_n 0, 1) := by decide +kernel
theorem dX8_init_1 : decode cX8_init 1 = .ok (.invokespecial 3, 3) := by decide +kernel
theorem dX8_init_4 : decode cX8_init 4 = .ok (.aload_n 0, 1) := by decide +kernel
theorem dX8_init_5 : decode cX8_init 5 = .ok (.iconst 0, 1) := by decide +kernel
theorem dX8_init_6 : decode cX8_init 6 = .ok (.putfield 9, 3) := by decide +kernel
theorem dX8_init_9 : decode cX8_init 9 = .ok (.aload_n 0, 1) := by decide +kernel
theorem dX8_init_10 : decode cX8_init 10 = .ok (.iconst 0, 1) := by decide +kernel
theorem dX8_init_11 : decode cX8_init 11 = .ok (.putfield 15, 3) := by decide +kernel
theorem dX8_init_14 : decode cX8_init 14 = .ok (.aload_n 0, 1) := by decide +kernel
theorem dX8_init_15 : decode cX8_init 15 = .ok (.iconst 0, 1) := by decide +kernel
theorem dX8_init_16 : decode cX8_init 16 = .ok (.putfield 18, 3) := by decide +kernel
theorem dX8_init_19 : decode cX8_init 19 = .ok (.aload_n 0, 1) := by decide +kernel
theorem dX8_init_20 : decode cX8_init 20 = .ok (.iconst 0, 1) := by decide +kernel
theorem dX8_init_21 : decode cX8_init 21 = .ok (.putfield 21, 3) := by decide +kernel
theorem dX8_init_24 : decode cX8_init 24 = .ok (.aload_n 0, 1) := by decide +kernel
theorem dX8_init_25 : decode cX8_init 25 = .ok (.bipush 8, 2) := by decide +kernel
theorem dX8_init_27 : decode cX8_init 27 = .ok (.newarray .int, 2) := by decide +kernel
theorem dX8_init_29 : decode cX8_init 29 = .ok (.putfield 24, 3) := by decide +kernel
theorem dX8_init_32 : decode cX8_init 32 = .ok (.aload_n 0, 1) := by decide +kernel
theorem dX8_init_33 : decode cX8_init 33 = .ok (.bipush 6, 2) := by decide +kernel
theorem dX8_init_35 : decode cX8_init 35 = .ok (.newarray .int, 2) := by decide +kernel
theorem dX8_init_37 : decode cX8_init 37 = .ok (.putfield 28, 3) := by decide +kernel
theorem dX8_init_40 : decode cX8_init 40 = .ok (.aload_n 0, 1) := by decide +kernel
theorem dX8_init_41 : decode cX8_init 41 = .ok (.bipush 6, 2) := by decide +kernel
theorem dX8_init_43 : decode cX8_init 43 = .ok (.newarray .int, 2) := by decide +kernel
theorem dX8_init_45 : decode cX8_init 45 = .ok (.putfield 31, 3) := by decide +kernel
theorem dX8_init_48 : decode cX8_init 48 = .ok (.aload_n 0, 1) := by decide +kernel
theorem dX8_init_49 : decode cX8_init 49 = .ok (.iconst 5, 1) := by decide +kernel
theorem dX8_init_50 : decode cX8_init 50 = .ok (.newarray .int, 2) := by decide +kernel
theorem dX8_init_52 : decode cX8_init 52 = .ok (.putfield 34, 3) := by decide +kernel
theorem dX8_init_55 : decode cX8_init 55 = .ok (.aload_n 0, 1) := by decide +kernel
theorem dX8_init_56 : decode cX8_init 56 = .ok (.new 37, 3) := by decide +kernel
theorem dX8_init_59 : decode cX8_init 59 = .ok (.dup, 1) := by decide +kernel
theorem dX8_init_60 : decode cX8_init 60 = .ok (.invokespecial 39, 3) := by decide +kernel
theorem dX8_init_63 : decode cX8_init 63 = .ok (.putfield 40, 3) := by decide +kernel
theorem dX8_init_66 : decode cX8_init 66 = .ok (.aload_n 0, 1) := by decide +kernel
theorem dX8_init_67 : decode cX8_init 67 = .ok (.bipush 64, 2) := by decide +kernel
theorem dX8_init_69 : decode cX8_init 69 = .ok (.newarray .int, 2) := by decide +kernel
theorem dX8_init_71 : decode cX8_init 71 = .ok (.putfield 44, 3) := by decide +kernel
theorem dX8_init_74 : decode cX8_init 74 = .ok (.return_, 1) := by decide +kernel
theorem hd_X6_init : yX6_init.cls ≠ "java/lang/invoke/MethodHandle" ∧ yX6_init.cls ≠ "java/lang/invoke/VarHandle" ∧ (parseMethodDescriptor yX6_init.desc).map (fun d => d.parameters.length) = some 0 := ⟨by decide +kernel, by decide +kernel, by decide +kernel⟩
theorem fr_X6 : ∀ j, j < 8 → defaultValue (cls_ty 6 j) = vp_V [.null, .null, .null, .null, .null, .null, .int 0, .int 0] j := by
  intro j hj
  match j, hj with
  | 0, _ => rfl
  | 1, _ => rfl
  | 2, _ => rfl
  | 3, _ => rfl
  | 4, _ => rfl
  | 5, _ => rfl
  | 6, _ => rfl
  | 7, _ => rfl
  | k + 8, h => exact absurd h (by omega)
set_option maxHeartbeats 4000000 in
set_option maxRecDepth 100000 in
/-- Town() -/
theorem c_Town_init (l : Launch) (D : va_G) (K : Nat → ClassId) (h0 : Nat) : mV (S := mU) l yX8_init cX8_init 1 ({ frames := 2, cells := 12, slots := 129, locals := 40 }) D K [(h0, .inr (8, [.int 0, .int 0, .int 0, .int 0, .null, .null, .null, .null, .null, .null]))] [.ref h0] (fun u => True) (fun u => [(h0, .inr (8, [.int 0, .int 0, .int 0, .int 0, .ref (u.1 0), .ref (u.1 1), .ref (u.1 2), .ref (u.1 3), .ref (u.1 4), .ref (u.1 11)])), ((u.1 0), .inl (K 0, 8, .inl (fun _ => 0))), ((u.1 1), .inl (K 0, 6, .inl (fun _ => 0))), ((u.1 2), .inl (K 0, 6, .inl (fun _ => 0))), ((u.1 3), .inl (K 0, 5, .inl (fun _ => 0))), ((u.1 4), .inr (6, [.ref (u.1 5), .ref (u.1 6), .ref (u.1 7), .ref (u.1 8), .ref (u.1 9), .ref (u.1 10), .int 0, .int 0])), ((u.1 5), .inl (K 0, 5, .inl (fun _ => 0))), ((u.1 6), .inl (K 0, 5, .inl (fun _ => 0))), ((u.1 7), .inl (K 0, 5, .inl (fun _ => 0))), ((u.1 8), .inl (K 0, 5, .inl (fun _ => 0))), ((u.1 9), .inl (K 0, 6, .inl (fun _ => 0))), ((u.1 10), .inl (K 0, 6, .inl (fun _ => 0))), ((u.1 11), .inl (K 0, 64, .inl (fun _ => 0)))]) := by
  refine m_enterV (by decide) (Nat.le_of_ble_eq_true rfl) ?_
  intro p e s m args below meth c A ls E hr hN G hl
  have E : mE p s m meth c cX8_init args 1 RX8 D K A := E
  have hl : lv_has ls 1 [(0, .ref h0)] := hl
  obtain ⟨H, hH⟩ : ∃ H, H = s.heap := ⟨_, rfl⟩
  obtain ⟨locs, hlo⟩ : ∃ L : List Loc, L = [] := ⟨_, rfl⟩
  rw [← hH, ← hlo] at G
  rw [← hH, ← hlo]
  have G : mG D A s H locs [(h0, .inr (8, [.int 0, .int 0, .int 0, .int 0, .null, .null, .null, .null, .null, .null]))] := G
  clear hH hlo
  refine lv_aload_n E.1 E.2.1 dX8_init_0 rfl (lv_at hl 0 rfl) ?_
  refine m_objInit E hl mw_ml_8_3 dX8_init_1 (by decide) (Nat.le_of_ble_eq_true rfl) (by decide) ?_
  refine lv_aload_n E.1 E.2.1 dX8_init_4 rfl (lv_at hl 0 rfl) ?_
  refine lv_iconst (v := 0) E.1 E.2.1 dX8_init_5 (by decide) ?_
  refine m_put E G 0 (ci := 8) rfl 0 (C := RX8) (T := TX8) (N := 10) rfl (by decide) mw_fl_8_9 rfl rfl rfl (Nat.le_of_ble_eq_true rfl) dX8_init_6 (fun H locs G => ?_)
  have G : mG D A s H locs [(h0, .inr (8, [.int 0, .int 0, .int 0, .int 0, .null, .null, .null, .null, .null, .null]))] := G
  refine lv_aload_n E.1 E.2.1 dX8_init_9 rfl (lv_at hl 0 rfl) ?_
  refine lv_iconst (v := 0) E.1 E.2.1 dX8_init_10 (by decide) ?_
  refine m_put E G 0 (ci := 8) rfl 1 (C := RX8) (T := TX8) (N := 10) rfl (by decide) mw_fl_8_15 rfl rfl rfl (Nat.le_of_ble_eq_true rfl) dX8_init_11 (fun H locs G => ?_)
  have G : mG D A s H locs [(h0, .inr (8, [.int 0, .int 0, .int 0, .int 0, .null, .null, .null, .null, .null, .null]))] := G
  refine lv_aload_n E.1 E.2.1 dX8_init_14 rfl (lv_at hl 0 rfl) ?_
  refine lv_iconst (v := 0) E.1 E.2.1 dX8_init_15 (by decide) ?_
  refine m_put E G 0 (ci := 8) rfl 2 (C := RX8) (T := TX8) (N := 10) rfl (by decide) mw_fl_8_18 rfl rfl rfl (Nat.le_of_ble_eq_true rfl) dX8_init_16 (fun H locs G => ?_)
  have G : mG D A s H locs [(h0, .inr (8, [.int 0, .int 0, .int 0, .int 0, .null, .null, .null, .null, .null, .null]))] := G
  refine lv_aload_n E.1 E.2.1 dX8_init_19 rfl (lv_at hl 0 rfl) ?_
  refine lv_iconst (v := 0) E.1 E.2.1 dX8_init_20 (by decide) ?_
  refine m_put E G 0 (ci := 8) rfl 3 (C := RX8) (T := TX8) (N := 10) rfl (by decide) mw_fl_8_21 rfl rfl rfl (Nat.le_of_ble_eq_true rfl) dX8_init_21 (fun H locs G => ?_)
  have G : mG D A s H locs [(h0, .inr (8, [.int 0, .int 0, .int 0, .int 0, .null, .null, .null, .null, .null, .null]))] := G
  refine lv_aload_n E.1 E.2.1 dX8_init_24 rfl (lv_at hl 0 rfl) ?_
  refine lv_bipush (v := 8) E.1 E.2.1 dX8_init_25 (by decide) ?_
  refine m_newi E G (N' := 8) (by decide) (by decide) (by decide) (by decide) (by decide) dX8_init_27 (fun q_1 H G => ?_)
  have G : mG D A s H locs [(h0, .inr (8, [.int 0, .int 0, .int 0, .int 0, .null, .null, .null, .null, .null, .null])), (q_1, .inl (K 0, 8, .inl (fun _ => 0)))] := G
  refine m_putF E G hN 0 (ci := 8) rfl 4 (C := RX8) (T := TX8) (N := 10) rfl (by decide) mw_fl_8_24 rfl rfl rfl rfl (Nat.le_of_ble_eq_true rfl) dX8_init_29 (fun H locs G => ?_)
  have G : mG D A s H locs [(h0, .inr (8, [.int 0, .int 0, .int 0, .int 0, .ref q_1, .null, .null, .null, .null, .null])), (q_1, .inl (K 0, 8, .inl (fun _ => 0)))] := G
  refine lv_aload_n E.1 E.2.1 dX8_init_32 rfl (lv_at hl 0 rfl) ?_
  refine lv_bipush (v := 6) E.1 E.2.1 dX8_init_33 (by decide) ?_
  refine m_newi E G (N' := 6) (by decide) (by decide) (by decide) (by decide) (by decide) dX8_init_35 (fun q_2 H G => ?_)
  have G : mG D A s H locs [(h0, .inr (8, [.int 0, .int 0, .int 0, .int 0, .ref q_1, .null, .null, .null, .null, .null])), (q_1, .inl (K 0, 8, .inl (fun _ => 0))), (q_2, .inl (K 0, 6, .inl (fun _ => 0)))] := G
  refine m_putF E G hN 0 (ci := 8) rfl 5 (C := RX8) (T := TX8) (N := 10) rfl (by decide) mw_fl_8_28 rfl rfl rfl rfl (Nat.le_of_ble_eq_true rfl) dX8_init_37 (fun H locs G => ?_)
  have G : mG D A s H locs [(h0, .inr (8, [.int 0, .int 0, .int 0, .int 0, .ref q_1, .ref q_2, .null, .null, .null, .null])), (q_1, .inl (K 0, 8, .inl (fun _ => 0))), (q_2, .inl (K 0, 6, .inl (fun _ => 0)))] := G
  refine lv_aload_n E.1 E.2.1 dX8_init_40 rfl (lv_at hl 0 rfl) ?_
  refine lv_bipush (v := 6) E.1 E.2.1 dX8_init_41 (by decide) ?_
  refine m_newi E G (N' := 6) (by decide) (by decide) (by decide) (by decide) (by decide) dX8_init_43 (fun q_3 H G => ?_)
  have G : mG D A s H locs [(h0, .inr (8, [.int 0, .int 0, .int 0, .int 0, .ref q_1, .ref q_2, .null, .null, .null, .null])), (q_1, .inl (K 0, 8, .inl (fun _ => 0))), (q_2, .inl (K 0, 6, .inl (fun _ => 0))), (q_3, .inl (K 0, 6, .inl (fun _ => 0)))] := G
  refine m_putF E G hN 0 (ci := 8) rfl 6 (C := RX8) (T := TX8) (N := 10) rfl (by decide) mw_fl_8_31 rfl rfl rfl rfl (Nat.le_of_ble_eq_true rfl) dX8_init_45 (fun H locs G => ?_)
  have G : mG D A s H locs [(h0, .inr (8, [.int 0, .int 0, .int 0, .int 0, .ref q_1, .ref q_2, .ref q_3, .null, .null, .null])), (q_1, .inl (K 0, 8, .inl (fun _ => 0))), (q_2, .inl (K 0, 6, .inl (fun _ => 0))), (q_3, .inl (K 0, 6, .inl (fun _ => 0)))] := G
  refine lv_aload_n E.1 E.2.1 dX8_init_48 rfl (lv_at hl 0 rfl) ?_
  refine lv_iconst (v := 5) E.1 E.2.1 dX8_init_49 (by decide) ?_
  refine m_newi E G (N' := 5) (by decide) (by decide) (by decide) (by decide) (by decide) dX8_init_50 (fun q_4 H G => ?_)
  have G : mG D A s H locs [(h0, .inr (8, [.int 0, .int 0, .int 0, .int 0, .ref q_1, .ref q_2, .ref q_3, .null, .null, .null])), (q_1, .inl (K 0, 8, .inl (fun _ => 0))), (q_2, .inl (K 0, 6, .inl (fun _ => 0))), (q_3, .inl (K 0, 6, .inl (fun _ => 0))), (q_4, .inl (K 0, 5, .inl (fun _ => 0)))] := G
  refine m_putF E G hN 0 (ci := 8) rfl 7 (C := RX8) (T := TX8) (N := 10) rfl (by decide) mw_fl_8_34 rfl rfl rfl rfl (Nat.le_of_ble_eq_true rfl) dX8_init_52 (fun H locs G => ?_)
  have G : mG D A s H locs [(h0, .inr (8, [.int 0, .int 0, .int 0, .int 0, .ref q_1, .ref q_2, .ref q_3, .ref q_4, .null, .null])), (q_1, .inl (K 0, 8, .inl (fun _ => 0))), (q_2, .inl (K 0, 6, .inl (fun _ => 0))), (q_3, .inl (K 0, 6, .inl (fun _ => 0))), (q_4, .inl (K 0, 5, .inl (fun _ => 0)))] := G
  refine lv_aload_n E.1 E.2.1 dX8_init_55 rfl (lv_at hl 0 rfl) ?_
  refine m_new E G 6 (C := RX6) (T := TX6) (N := 8) rfl fr_X6 mw_cl_8_37 mw_insta_6 mw_ini_6 (by decide) (by decide) dX8_init_56 (fun q_5 H G => ?_)
  have G : mG D A s H locs [(h0, .inr (8, [.int 0, .int 0, .int 0, .int 0, .ref q_1, .ref q_2, .ref q_3, .ref q_4, .null, .null])), (q_1, .inl (K 0, 8, .inl (fun _ => 0))), (q_2, .inl (K 0, 6, .inl (fun _ => 0))), (q_3, .inl (K 0, 6, .inl (fun _ => 0))), (q_4, .inl (K 0, 5, .inl (fun _ => 0))), (q_5, .inr (6, [.null, .null, .null, .null, .null, .null, .int 0, .int 0]))] := G
  refine lv_dup E.1 E.2.1 dX8_init_59 rfl ?_
  refine m_in E G hl (c_State_init l D K q_5) (wr := [(h0, .inr (8, [.int 0, .int 0, .int 0, .int 0, .ref q_1, .ref q_2, .ref q_3, .ref q_4, .null, .null])), (q_1, .inl (K 0, 8, .inl (fun _ => 0))), (q_2, .inl (K 0, 6, .inl (fun _ => 0))), (q_3, .inl (K 0, 6, .inl (fun _ => 0))), (q_4, .inl (K 0, 5, .inl (fun _ => 0)))]) [5] [0, 1, 2, 3, 4] rfl rfl (by decide) (by decide) (by decide) 0 rfl rfl mw_code_X6_init mw_ini_6 mw_mn_8_39 mw_inst_X6_init hd_X6_init ⟨by decide, by decide⟩ rfl (Nat.le_of_ble_eq_true rfl) ⟨by decide, by decide⟩ dX8_init_60 (fun u_6 H locs hp G => ?_)
  have G : mG D A s H locs [(h0, .inr (8, [.int 0, .int 0, .int 0, .int 0, .ref q_1, .ref q_2, .ref q_3, .ref q_4, .null, .null])), (q_1, .inl (K 0, 8, .inl (fun _ => 0))), (q_2, .inl (K 0, 6, .inl (fun _ => 0))), (q_3, .inl (K 0, 6, .inl (fun _ => 0))), (q_4, .inl (K 0, 5, .inl (fun _ => 0))), (q_5, .inr (6, [.ref (u_6.1 0), .ref (u_6.1 1), .ref (u_6.1 2), .ref (u_6.1 3), .ref (u_6.1 4), .ref (u_6.1 5), .int 0, .int 0])), ((u_6.1 0), .inl (K 0, 5, .inl (fun _ => 0))), ((u_6.1 1), .inl (K 0, 5, .inl (fun _ => 0))), ((u_6.1 2), .inl (K 0, 5, .inl (fun _ => 0))), ((u_6.1 3), .inl (K 0, 5, .inl (fun _ => 0))), ((u_6.1 4), .inl (K 0, 6, .inl (fun _ => 0))), ((u_6.1 5), .inl (K 0, 6, .inl (fun _ => 0)))] := G
  refine m_putF E G hN 0 (ci := 8) rfl 8 (C := RX8) (T := TX8) (N := 10) rfl (by decide) mw_fl_8_40 rfl rfl rfl rfl (Nat.le_of_ble_eq_true rfl) dX8_init_63 (fun H locs G => ?_)
  have G : mG D A s H locs [(h0, .inr (8, [.int 0, .int 0, .int 0, .int 0, .ref q_1, .ref q_2, .ref q_3, .ref q_4, .ref q_5, .null])), (q_1, .inl (K 0, 8, .inl (fun _ => 0))), (q_2, .inl (K 0, 6, .inl (fun _ => 0))), (q_3, .inl (K 0, 6, .inl (fun _ => 0))), (q_4, .inl (K 0, 5, .inl (fun _ => 0))), (q_5, .inr (6, [.ref (u_6.1 0), .ref (u_6.1 1), .ref (u_6.1 2), .ref (u_6.1 3), .ref (u_6.1 4), .ref (u_6.1 5), .int 0, .int 0])), ((u_6.1 0), .inl (K 0, 5, .inl (fun _ => 0))), ((u_6.1 1), .inl (K 0, 5, .inl (fun _ => 0))), ((u_6.1 2), .inl (K 0, 5, .inl (fun _ => 0))), ((u_6.1 3), .inl (K 0, 5, .inl (fun _ => 0))), ((u_6.1 4), .inl (K 0, 6, .inl (fun _ => 0))), ((u_6.1 5), .inl (K 0, 6, .inl (fun _ => 0)))] := G
  refine lv_aload_n E.1 E.2.1 dX8_init_66 rfl (lv_at hl 0 rfl) ?_
  refine lv_bipush (v := 64) E.1 E.2.1 dX8_init_67 (by decide) ?_
  refine m_newi E G (N' := 64) (by decide) (by decide) (by decide) (by decide) (by decide) dX8_init_69 (fun q_8 H G => ?_)
  have G : mG D A s H locs [(h0, .inr (8, [.int 0, .int 0, .int 0, .int 0, .ref q_1, .ref q_2, .ref q_3, .ref q_4, .ref q_5, .null])), (q_1, .inl (K 0, 8, .inl (fun _ => 0))), (q_2, .inl (K 0, 6, .inl (fun _ => 0))), (q_3, .inl (K 0, 6, .inl (fun _ => 0))), (q_4, .inl (K 0, 5, .inl (fun _ => 0))), (q_5, .inr (6, [.ref (u_6.1 0), .ref (u_6.1 1), .ref (u_6.1 2), .ref (u_6.1 3), .ref (u_6.1 4), .ref (u_6.1 5), .int 0, .int 0])), ((u_6.1 0), .inl (K 0, 5, .inl (fun _ => 0))), ((u_6.1 1), .inl (K 0, 5, .inl (fun _ => 0))), ((u_6.1 2), .inl (K 0, 5, .inl (fun _ => 0))), ((u_6.1 3), .inl (K 0, 5, .inl (fun _ => 0))), ((u_6.1 4), .inl (K 0, 6, .inl (fun _ => 0))), ((u_6.1 5), .inl (K 0, 6, .inl (fun _ => 0))), (q_8, .inl (K 0, 64, .inl (fun _ => 0)))] := G
  refine m_putF E G hN 0 (ci := 8) rfl 9 (C := RX8) (T := TX8) (N := 10) rfl (by decide) mw_fl_8_44 rfl rfl rfl rfl (Nat.le_of_ble_eq_true rfl) dX8_init_71 (fun H locs G => ?_)
  have G : mG D A s H locs [(h0, .inr (8, [.int 0, .int 0, .int 0, .int 0, .ref q_1, .ref q_2, .ref q_3, .ref q_4, .ref q_5, .ref q_8])), (q_1, .inl (K 0, 8, .inl (fun _ => 0))), (q_2, .inl (K 0, 6, .inl (fun _ => 0))), (q_3, .inl (K 0, 6, .inl (fun _ => 0))), (q_4, .inl (K 0, 5, .inl (fun _ => 0))), (q_5, .inr (6, [.ref (u_6.1 0), .ref (u_6.1 1), .ref (u_6.1 2), .ref (u_6.1 3), .ref (u_6.1 4), .ref (u_6.1 5), .int 0, .int 0])), ((u_6.1 0), .inl (K 0, 5, .inl (fun _ => 0))), ((u_6.1 1), .inl (K 0, 5, .inl (fun _ => 0))), ((u_6.1 2), .inl (K 0, 5, .inl (fun _ => 0))), ((u_6.1 3), .inl (K 0, 5, .inl (fun _ => 0))), ((u_6.1 4), .inl (K 0, 6, .inl (fun _ => 0))), ((u_6.1 5), .inl (K 0, 6, .inl (fun _ => 0))), (q_8, .inl (K 0, 64, .inl (fun _ => 0)))] := G
  exact m_retv E G hr (fun k => [q_1, q_2, q_3, q_4, q_5, (u_6.1 0), (u_6.1 1), (u_6.1 2), (u_6.1 3), (u_6.1 4), (u_6.1 5), q_8].getD k 0, fun _ _ => 0, fun _ _ => none) trivial [0, 1, 2, 3, 4, 5, 6, 7, 8, 9, 10, 11, 12] (by decide) rfl (by decide) (by decide) dX8_init_74
