theorem mw_ml_3_25 : (Cond.methodLink RX3 25 arraycopyName : Cond) ∈ cw := cw_of (List.mem_append_right _ (List.mem_append_right _ (List.mem_append_right _ (List.mem_append_right _ (List.mem_append_right _ (List.mem_append_left _ (List.mem_of_getElem? (i := 96) (by decide +kernel)))))))) (by decide +kernel)
theorem mw_ml_6_37 : (Cond.methodLink RX6 37 arraycopyName : Cond) ∈ cw := cw_of (List.mem_append_right _ (List.mem_append_right _ (List.mem_append_right _ (List.mem_append_left _ (List.mem_of_getElem? (i := 171) (by decide +kernel)))))) (by decide +kernel)
theorem dX3_copyFrom_0 : decode cX3_copyFrom 0 = .ok (.aload_n 0, 1) := by decide +kernel
theorem dX3_copyFrom_1 : decode cX3_copyFrom 1 = .ok (.aload_n 1, 1) := by decide +kernel
theorem dX3_copyFrom_2 : decode cX3_copyFrom 2 = .ok (.getfield 9, 3) := by decide +kernel
theorem dX3_copyFrom_5 : decode cX3_copyFrom 5 = .ok (.putfield 9, 3) := by decide +kernel
theorem dX3_copyFrom_8 : decode cX3_copyFrom 8 = .ok (.aload_n 1, 1) := by decide +kernel
theorem dX3_copyFrom_9 : decode cX3_copyFrom 9 = .ok (.getfield 15, 3) := by decide +kernel
theorem dX3_copyFrom_12 : decode cX3_copyFrom 12 = .ok (.iconst 0, 1) := by decide +kernel
theorem dX3_copyFrom_13 : decode cX3_copyFrom 13 = .ok (.aload_n 0, 1) := by decide +kernel
theorem dX3_copyFrom_14 : decode cX3_copyFrom 14 = .ok (.getfield 15, 3) := by decide +kernel
theorem dX3_copyFrom_17 : decode cX3_copyFrom 17 = .ok (.iconst 0, 1) := by decide +kernel
theorem dX3_copyFrom_18 : decode cX3_copyFrom 18 = .ok (.bipush 10, 2) := by decide +kernel
theorem dX3_copyFrom_20 : decode cX3_copyFrom 20 = .ok (.invokestatic 25, 3) := by decide +kernel
theorem dX3_copyFrom_23 : decode cX3_copyFrom 23 = .ok (.aload_n 1, 1) := by decide +kernel
theorem dX3_copyFrom_24 : decode cX3_copyFrom 24 = .ok (.getfield 19, 3) := by decide +kernel
theorem dX3_copyFrom_27 : decode cX3_copyFrom 27 = .ok (.iconst 0, 1) := by decide +kernel
theorem dX3_copyFrom_28 : decode cX3_copyFrom 28 = .ok (.aload_n 0, 1) := by decide +kernel
theorem dX3_copyFrom_29 : decode cX3_copyFrom 29 = .ok (.getfield 19, 3) := by decide +kernel
theorem dX3_copyFrom_32 : decode cX3_copyFrom 32 = .ok (.iconst 0, 1) := by decide +kernel
theorem dX3_copyFrom_33 : decode cX3_copyFrom 33 = .ok (.bipush 10, 2) := by decide +kernel
theorem dX3_copyFrom_35 : decode cX3_copyFrom 35 = .ok (.invokestatic 25, 3) := by decide +kernel
theorem dX3_copyFrom_38 : decode cX3_copyFrom 38 = .ok (.aload_n 1, 1) := by decide +kernel
theorem dX3_copyFrom_39 : decode cX3_copyFrom 39 = .ok (.getfield 22, 3) := by decide +kernel
theorem dX3_copyFrom_42 : decode cX3_copyFrom 42 = .ok (.iconst 0, 1) := by decide +kernel
theorem dX3_copyFrom_43 : decode cX3_copyFrom 43 = .ok (.aload_n 0, 1) := by decide +kernel
theorem dX3_copyFrom_44 : decode cX3_copyFrom 44 = .ok (.getfield 22, 3) := by decide +kernel
theorem dX3_copyFrom_47 : decode cX3_copyFrom 47 = .ok (.iconst 0, 1) := by decide +kernel
theorem dX3_copyFrom_48 : decode cX3_copyFrom 48 = .ok (.bipush 10, 2) := by decide +kernel
theorem dX3_copyFrom_50 : decode cX3_copyFrom 50 = .ok (.invokestatic 25, 3) := by decide +kernel
theorem dX3_copyFrom_53 : decode cX3_copyFrom 53 = .ok (.return_, 1) := by decide +kernel
theorem dX6_copyFrom_0 : decode cX6_copyFrom 0 = .ok (.aload_n 1, 1) := by decide +kernel
theorem dX6_copyFrom_1 : decode cX6_copyFrom 1 = .ok (.getfield 9, 3) := by decide +kernel
theorem dX6_copyFrom_4 : decode cX6_copyFrom 4 = .ok (.iconst 0, 1) := by decide +kernel
theorem dX6_copyFrom_5 : decode cX6_copyFrom 5 = .ok (.aload_n 0, 1) := by decide +kernel
theorem dX6_copyFrom_6 : decode cX6_copyFrom 6 = .ok (.getfield 9, 3) := by decide +kernel
theorem dX6_copyFrom_9 : decode cX6_copyFrom 9 = .ok (.iconst 0, 1) := by decide +kernel
theorem dX6_copyFrom_10 : decode cX6_copyFrom 10 = .ok (.iconst 5, 1) := by decide +kernel
theorem dX6_copyFrom_11 : decode cX6_copyFrom 11 = .ok (.invokestatic 37, 3) := by decide +kernel
theorem dX6_copyFrom_14 : decode cX6_copyFrom 14 = .ok (.aload_n 1, 1) := by decide +kernel
theorem dX6_copyFrom_15 : decode cX6_copyFrom 15 = .ok (.getfield 15, 3) := by decide +kernel
theorem dX6_copyFrom_18 : decode cX6_copyFrom 18 = .ok (.iconst 0, 1) := by decide +kernel
theorem dX6_copyFrom_19 : decode cX6_copyFrom 19 = .ok (.aload_n 0, 1) := by decide +kernel
theorem dX6_copyFrom_20 : decode cX6_copyFrom 20 = .ok (.getfield 15, 3) := by decide +kernel
theorem dX6_copyFrom_23 : decode cX6_copyFrom 23 = .ok (.iconst 0, 1) := by decide +kernel
theorem dX6_copyFrom_24 : decode cX6_copyFrom 24 = .ok (.iconst 5, 1) := by decide +kernel
theorem dX6_copyFrom_25 : decode cX6_copyFrom 25 = .ok (.invokestatic 37, 3) := by decide +kernel
theorem dX6_copyFrom_28 : decode cX6_copyFrom 28 = .ok (.aload_n 1, 1) := by decide +kernel
theorem dX6_copyFrom_29 : decode cX6_copyFrom 29 = .ok (.getfield 18, 3) := by decide +kernel
theorem dX6_copyFrom_32 : decode cX6_copyFrom 32 = .ok (.iconst 0, 1) := by decide +kernel
theorem dX6_copyFrom_33 : decode cX6_copyFrom 33 = .ok (.aload_n 0, 1) := by decide +kernel
theorem dX6_copyFrom_34 : decode cX6_copyFrom 34 = .ok (.getfield 18, 3) := by decide +kernel
theorem dX6_copyFrom_37 : decode cX6_copyFrom 37 = .ok (.iconst 0, 1) := by decide +kernel
theorem dX6_copyFrom_38 : decode cX6_copyFrom 38 = .ok (.iconst 5, 1) := by decide +kernel
theorem dX6_copyFrom_39 : decode cX6_copyFrom 39 = .ok (.invokestatic 37, 3) := by decide +kernel
theorem dX6_copyFrom_42 : decode cX6_copyFrom 42 = .ok (.aload_n 1, 1) := by decide +kernel
theorem dX6_copyFrom_43 : decode cX6_copyFrom 43 = .ok (.getfield 21, 3) := by decide +kernel
theorem dX6_copyFrom_46 : decode cX6_copyFrom 46 = .ok (.iconst 0, 1) := by decide +kernel
theorem dX6_copyFrom_47 : decode cX6_copyFrom 47 = .ok (.aload_n 0, 1) := by decide +kernel
theorem dX6_copyFrom_48 : decode cX6_copyFrom 48 = .ok (.getfield 21, 3) := by decide +kernel
theorem dX6_copyFrom_51 : decode cX6_copyFrom 51 = .ok (.iconst 0, 1) := by decide +kernel
theorem dX6_copyFrom_52 : decode cX6_copyFrom 52 = .ok (.iconst 5, 1) := by decide +kernel
theorem dX6_copyFrom_53 : decode cX6_copyFrom 53 = .ok (.invokestatic 37, 3) := by decide +kernel
theorem dX6_copyFrom_56 : decode cX6_copyFrom 56 = .ok (.aload_n 1, 1) := by decide +kernel
theorem dX6_copyFrom_57 : decode cX6_copyFrom 57 = .ok (.getfield 24, 3) := by decide +kernel
theorem dX6_copyFrom_60 : decode cX6_copyFrom 60 = .ok (.iconst 0, 1) := by decide +kernel
theorem dX6_copyFrom_61 : decode cX6_copyFrom 61 = .ok (.aload_n 0, 1) := by decide +kernel
theorem dX6_copyFrom_62 : decode cX6_copyFrom 62 = .ok (.getfield 24, 3) := by decide +kernel
theorem dX6_copyFrom_65 : decode cX6_copyFrom 65 = .ok (.iconst 0, 1) := by decide +kernel
theorem dX6_copyFrom_66 : decode cX6_copyFrom 66 = .ok (.bipush 6, 2) := by decide +kernel
theorem dX6_copyFrom_68 : decode cX6_copyFrom 68 = .ok (.invokestatic 37, 3) := by decide +kernel
theorem dX6_copyFrom_71 : decode cX6_copyFrom 71 = .ok (.aload_n 1, 1) := by decide +kernel
theorem dX6_copyFrom_72 : decode cX6_copyFrom 72 = .ok (.getfield 27, 3) := by decide +kernel
theorem dX6_copyFrom_75 : decode cX6_copyFrom 75 = .ok (.iconst 0, 1) := by decide +kernel
theorem dX6_copyFrom_76 : decode cX6_copyFrom 76 = .ok (.aload_n 0, 1) := by decide +kernel
theorem dX6_copyFrom_77 : decode cX6_copyFrom 77 = .ok (.getfield 27, 3) := by decide +kernel
theorem dX6_copyFrom_80 : decode cX6_copyFrom 80 = .ok (.iconst 0, 1) := by decide +kernel
theorem dX6_copyFrom_81 : decode cX6_copyFrom 81 = .ok (.bipush 6, 2) := by decide +kernel
theorem dX6_copyFrom_83 : decode cX6_copyFrom 83 = .ok (.invokestatic 37, 3) := by decide +kernel
theorem dX6_copyFrom_86 : decode cX6_copyFrom 86 = .ok (.aload_n 0, 1) := by decide +kernel
theorem dX6_copyFrom_87 : decode cX6_copyFrom 87 = .ok (.aload_n 1, 1) := by decide +kernel
theorem dX6_copyFrom_88 : decode cX6_copyFrom 88 = .ok (.getfield 30, 3) := by decide +kernel
theorem dX6_copyFrom_91 : decode cX6_copyFrom 91 = .ok (.putfield 30, 3) := by decide +kernel
theorem dX6_copyFrom_94 : decode cX6_copyFrom 94 = .ok (.aload_n 0, 1) := by decide +kernel
theorem dX6_copyFrom_95 : decode cX6_copyFrom 95 = .ok (.aload_n 1, 1) := by decide +kernel
theorem dX6_copyFrom_96 : decode cX6_copyFrom 96 = .ok (.getfield 34, 3) := by decide +kernel
theorem dX6_copyFrom_99 : decode cX6_copyFrom 99 = .ok (.putfield 34, 3) := by decide +kernel
theorem dX6_copyFrom_102 : decode cX6_copyFrom 102 = .ok (.return_, 1) := by decide +kernel
set_option maxHeartbeats 4000000 in
set_option maxRecDepth 100000 in
theorem k_scopy (l : Launch) (D : va_G) (K : Nat → ClassId) (h0 : Nat) (h1 : Nat) (d0 : Nat) (d1 : Nat) (d2 : Nat) (d3 : Nat) (d4 : Nat) (d5 : Nat) (e0 : Nat) (e1 : Nat) (e2 : Nat) (e3 : Nat) (e4 : Nat) (e5 : Nat) : mV (S := mU) l yX6_copyFrom cX6_copyFrom 2 ({ frames := 1, cells := 0, slots := 0, locals := 26 }) D K [(h0, .inr (6, [.ref d0, .ref d1, .ref d2, .ref d3, .ref d4, .ref d5, .int 0, .int 0])), (d0, .inl (K 0, 5, .inl (fun _ => 0))), (d1, .inl (K 0, 5, .inl (fun _ => 0))), (d2, .inl (K 0, 5, .inl (fun _ => 0))), (d3, .inl (K 0, 5, .inl (fun _ => 0))), (d4, .inl (K 0, 6, .inl (fun _ => 0))), (d5, .inl (K 0, 6, .inl (fun _ => 0))), (h1, .inr (6, [.ref e0, .ref e1, .ref e2, .ref e3, .ref e4, .ref e5, .int 0, .int 0])), (e0, .inl (K 0, 5, .inl (fun _ => 0))), (e1, .inl (K 0, 5, .inl (fun _ => 0))), (e2, .inl (K 0, 5, .inl (fun _ => 0))), (e3, .inl (K 0, 5, .inl (fun _ => 0))), (e4, .inl (K 0, 6, .inl (fun _ => 0))), (e5, .inl (K 0, 6, .inl (fun _ => 0)))] [.ref h0, .ref h1] (fun u => True) (fun u => [(h1, .inr (6, [.ref e0, .ref e1, .ref e2, .ref e3, .ref e4, .ref e5, .int 0, .int 0]))]) := by
  refine m_enterV (by decide) (Nat.le_of_ble_eq_true rfl) ?_
  intro p e s m args below meth c A ls E hr hN G hl
  have E : mE p s m meth c cX6_copyFrom args 2 RX6 D K A := E
  have hl : lv_has ls 2 [(0, .ref h0), (1, .ref h1)] := hl
  obtain ⟨H, hH⟩ : ∃ H, H = s.heap := ⟨_, rfl⟩
  obtain ⟨locs, hlo⟩ : ∃ L : List Loc, L = [] := ⟨_, rfl⟩
  rw [← hH, ← hlo] at G
  rw [← hH, ← hlo]
  have G : mG D A s H locs [(h0, .inr (6, [.ref d0, .ref d1, .ref d2, .ref d3, .ref d4, .ref d5, .int 0, .int 0])), (d0, .inl (K 0, 5, .inl (fun _ => 0))), (d1, .inl (K 0, 5, .inl (fun _ => 0))), (d2, .inl (K 0, 5, .inl (fun _ => 0))), (d3, .inl (K 0, 5, .inl (fun _ => 0))), (d4, .inl (K 0, 6, .inl (fun _ => 0))), (d5, .inl (K 0, 6, .inl (fun _ => 0))), (h1, .inr (6, [.ref e0, .ref e1, .ref e2, .ref e3, .ref e4, .ref e5, .int 0, .int 0])), (e0, .inl (K 0, 5, .inl (fun _ => 0))), (e1, .inl (K 0, 5, .inl (fun _ => 0))), (e2, .inl (K 0, 5, .inl (fun _ => 0))), (e3, .inl (K 0, 5, .inl (fun _ => 0))), (e4, .inl (K 0, 6, .inl (fun _ => 0))), (e5, .inl (K 0, 6, .inl (fun _ => 0)))] := G
  clear hH hlo
  refine lv_aload_n E.1 E.2.1 dX6_copyFrom_0 rfl (lv_at hl 1 rfl) ?_
  refine m_get E G 7 (ci := 6) rfl 0 (C := RX6) (T := TX6) (N := 8) rfl (by decide) mw_fl_6_9 (v := .ref e0) rfl dX6_copyFrom_1 ?_
  refine lv_iconst (v := 0) E.1 E.2.1 dX6_copyFrom_4 (by decide) ?_
  refine lv_aload_n E.1 E.2.1 dX6_copyFrom_5 rfl (lv_at hl 0 rfl) ?_
  refine m_get E G 0 (ci := 6) rfl 0 (C := RX6) (T := TX6) (N := 8) rfl (by decide) mw_fl_6_9 (v := .ref d0) rfl dX6_copyFrom_6 ?_
  refine lv_iconst (v := 0) E.1 E.2.1 dX6_copyFrom_9 (by decide) ?_
  refine lv_iconst (v := 5) E.1 E.2.1 dX6_copyFrom_10 (by decide) ?_
  refine m_copyi E G hl mw_ml_6_37 8 1 rfl rfl (by decide) (by decide) (by decide) (by decide) (by decide) (by decide) (Nat.le_of_ble_eq_true rfl) (by decide) dX6_copyFrom_11 (fun H locs G => ?_)
  obtain ⟨f_1, ef_1⟩ : ∃ f_1 : Nat → Int32, f_1 = (va_cpy (fun _ => 0) (fun _ => 0) (0 : Int32).toNatClampNeg (0 : Int32).toNatClampNeg (5 : Int32).toNatClampNeg) := ⟨_, rfl⟩
  have G : mG D A s H locs [(h0, .inr (6, [.ref d0, .ref d1, .ref d2, .ref d3, .ref d4, .ref d5, .int 0, .int 0])), (d0, .inl (K 0, 5, .inl f_1)), (d1, .inl (K 0, 5, .inl (fun _ => 0))), (d2, .inl (K 0, 5, .inl (fun _ => 0))), (d3, .inl (K 0, 5, .inl (fun _ => 0))), (d4, .inl (K 0, 6, .inl (fun _ => 0))), (d5, .inl (K 0, 6, .inl (fun _ => 0))), (h1, .inr (6, [.ref e0, .ref e1, .ref e2, .ref e3, .ref e4, .ref e5, .int 0, .int 0])), (e0, .inl (K 0, 5, .inl (fun _ => 0))), (e1, .inl (K 0, 5, .inl (fun _ => 0))), (e2, .inl (K 0, 5, .inl (fun _ => 0))), (e3, .inl (K 0, 5, .inl (fun _ => 0))), (e4, .inl (K 0, 6, .inl (fun _ => 0))), (e5, .inl (K 0, 6, .inl (fun _ => 0)))] := by subst ef_1; exact G
  clear ef_1
  refine lv_aload_n E.1 E.2.1 dX6_copyFrom_14 rfl (lv_at hl 1 rfl) ?_
  refine m_get E G 7 (ci := 6) rfl 1 (C := RX6) (T := TX6) (N := 8) rfl (by decide) mw_fl_6_15 (v := .ref e1) rfl dX6_copyFrom_15 ?_
  refine lv_iconst (v := 0) E.1 E.2.1 dX6_copyFrom_18 (by decide) ?_
  refine lv_aload_n E.1 E.2.1 dX6_copyFrom_19 rfl (lv_at hl 0 rfl) ?_
  refine m_get E G 0 (ci := 6) rfl 1 (C := RX6) (T := TX6) (N := 8) rfl (by decide) mw_fl_6_15 (v := .ref d1) rfl dX6_copyFrom_20 ?_
  refine lv_iconst (v := 0) E.1 E.2.1 dX6_copyFrom_23 (by decide) ?_
  refine lv_iconst (v := 5) E.1 E.2.1 dX6_copyFrom_24 (by decide) ?_
  refine m_copyi E G hl mw_ml_6_37 9 2 rfl rfl (by decide) (by decide) (by decide) (by decide) (by decide) (by decide) (Nat.le_of_ble_eq_true rfl) (by decide) dX6_copyFrom_25 (fun H locs G => ?_)
  obtain ⟨f_2, ef_2⟩ : ∃ f_2 : Nat → Int32, f_2 = (va_cpy (fun _ => 0) (fun _ => 0) (0 : Int32).toNatClampNeg (0 : Int32).toNatClampNeg (5 : Int32).toNatClampNeg) := ⟨_, rfl⟩
  have G : mG D A s H locs [(h0, .inr (6, [.ref d0, .ref d1, .ref d2, .ref d3, .ref d4, .ref d5, .int 0, .int 0])), (d0, .inl (K 0, 5, .inl f_1)), (d1, .inl (K 0, 5, .inl f_2)), (d2, .inl (K 0, 5, .inl (fun _ => 0))), (d3, .inl (K 0, 5, .inl (fun _ => 0))), (d4, .inl (K 0, 6, .inl (fun _ => 0))), (d5, .inl (K 0, 6, .inl (fun _ => 0))), (h1, .inr (6, [.ref e0, .ref e1, .ref e2, .ref e3, .ref e4, .ref e5, .int 0, .int 0])), (e0, .inl (K 0, 5, .inl (fun _ => 0))), (e1, .inl (K 0, 5, .inl (fun _ => 0))), (e2, .inl (K 0, 5, .inl (fun _ => 0))), (e3, .inl (K 0, 5, .inl (fun _ => 0))), (e4, .inl (K 0, 6, .inl (fun _ => 0))), (e5, .inl (K 0, 6, .inl (fun _ => 0)))] := by subst ef_2; exact G
  clear ef_2
  refine lv_aload_n E.1 E.2.1 dX6_copyFrom_28 rfl (lv_at hl 1 rfl) ?_
  refine m_get E G 7 (ci := 6) rfl 2 (C := RX6) (T := TX6) (N := 8) rfl (by decide) mw_fl_6_18 (v := .ref e2) rfl dX6_copyFrom_29 ?_
  refine lv_iconst (v := 0) E.1 E.2.1 dX6_copyFrom_32 (by decide) ?_
  refine lv_aload_n E.1 E.2.1 dX6_copyFrom_33 rfl (lv_at hl 0 rfl) ?_
  refine m_get E G 0 (ci := 6) rfl 2 (C := RX6) (T := TX6) (N := 8) rfl (by decide) mw_fl_6_18 (v := .ref d2) rfl dX6_copyFrom_34 ?_
  refine lv_iconst (v := 0) E.1 E.2.1 dX6_copyFrom_37 (by decide) ?_
  refine lv_iconst (v := 5) E.1 E.2.1 dX6_copyFrom_38 (by decide) ?_
  refine m_copyi E G hl mw_ml_6_37 10 3 rfl rfl (by decide) (by decide) (by decide) (by decide) (by decide) (by decide) (Nat.le_of_ble_eq_true rfl) (by decide) dX6_copyFrom_39 (fun H locs G => ?_)
  obtain ⟨f_3, ef_3⟩ : ∃ f_3 : Nat → Int32, f_3 = (va_cpy (fun _ => 0) (fun _ => 0) (0 : Int32).toNatClampNeg (0 : Int32).toNatClampNeg (5 : Int32).toNatClampNeg) := ⟨_, rfl⟩
  have G : mG D A s H locs [(h0, .inr (6, [.ref d0, .ref d1, .ref d2, .ref d3, .ref d4, .ref d5, .int 0, .int 0])), (d0, .inl (K 0, 5, .inl f_1)), (d1, .inl (K 0, 5, .inl f_2)), (d2, .inl (K 0, 5, .inl f_3)), (d3, .inl (K 0, 5, .inl (fun _ => 0))), (d4, .inl (K 0, 6, .inl (fun _ => 0))), (d5, .inl (K 0, 6, .inl (fun _ => 0))), (h1, .inr (6, [.ref e0, .ref e1, .ref e2, .ref e3, .ref e4, .ref e5, .int 0, .int 0])), (e0, .inl (K 0, 5, .inl (fun _ => 0))), (e1, .inl (K 0, 5, .inl (fun _ => 0))), (e2, .inl (K 0, 5, .inl (fun _ => 0))), (e3, .inl (K 0, 5, .inl (fun _ => 0))), (e4, .inl (K 0, 6, .inl (fun _ => 0))), (e5, .inl (K 0, 6, .inl (fun _ => 0)))] := by subst ef_3; exact G
  clear ef_3
  refine lv_aload_n E.1 E.2.1 dX6_copyFrom_42 rfl (lv_at hl 1 rfl) ?_
  refine m_get E G 7 (ci := 6) rfl 3 (C := RX6) (T := TX6) (N := 8) rfl (by decide) mw_fl_6_21 (v := .ref e3) rfl dX6_copyFrom_43 ?_
  refine lv_iconst (v := 0) E.1 E.2.1 dX6_copyFrom_46 (by decide) ?_
  refine lv_aload_n E.1 E.2.1 dX6_copyFrom_47 rfl (lv_at hl 0 rfl) ?_
  refine m_get E G 0 (ci := 6) rfl 3 (C := RX6) (T := TX6) (N := 8) rfl (by decide) mw_fl_6_21 (v := .ref d3) rfl dX6_copyFrom_48 ?_
  refine lv_iconst (v := 0) E.1 E.2.1 dX6_copyFrom_51 (by decide) ?_
  refine lv_iconst (v := 5) E.1 E.2.1 dX6_copyFrom_52 (by decide) ?_
  refine m_copyi E G hl mw_ml_6_37 11 4 rfl rfl (by decide) (by decide) (by decide) (by decide) (by decide) (by decide) (Nat.le_of_ble_eq_true rfl) (by decide) dX6_copyFrom_53 (fun H locs G => ?_)
  obtain ⟨f_4, ef_4⟩ : ∃ f_4 : Nat → Int32, f_4 = (va_cpy (fun _ => 0) (fun _ => 0) (0 : Int32).toNatClampNeg (0 : Int32).toNatClampNeg (5 : Int32).toNatClampNeg) := ⟨_, rfl⟩
  have G : mG D A s H locs [(h0, .inr (6, [.ref d0, .ref d1, .ref d2, .ref d3, .ref d4, .ref d5, .int 0, .int 0])), (d0, .inl (K 0, 5, .inl f_1)), (d1, .inl (K 0, 5, .inl f_2)), (d2, .inl (K 0, 5, .inl f_3)), (d3, .inl (K 0, 5, .inl f_4)), (d4, .inl (K 0, 6, .inl (fun _ => 0))), (d5, .inl (K 0, 6, .inl (fun _ => 0))), (h1, .inr (6, [.ref e0, .ref e1, .ref e2, .ref e3, .ref e4, .ref e5, .int 0, .int 0])), (e0, .inl (K 0, 5, .inl (fun _ => 0))), (e1, .inl (K 0, 5, .inl (fun _ => 0))), (e2, .inl (K 0, 5, .inl (fun _ => 0))), (e3, .inl (K 0, 5, .inl (fun _ => 0))), (e4, .inl (K 0, 6, .inl (fun _ => 0))), (e5, .inl (K 0, 6, .inl (fun _ => 0)))] := by subst ef_4; exact G
  clear ef_4
  refine lv_aload_n E.1 E.2.1 dX6_copyFrom_56 rfl (lv_at hl 1 rfl) ?_
  refine m_get E G 7 (ci := 6) rfl 4 (C := RX6) (T := TX6) (N := 8) rfl (by decide) mw_fl_6_24 (v := .ref e4) rfl dX6_copyFrom_57 ?_
  refine lv_iconst (v := 0) E.1 E.2.1 dX6_copyFrom_60 (by decide) ?_
  refine lv_aload_n E.1 E.2.1 dX6_copyFrom_61 rfl (lv_at hl 0 rfl) ?_
  refine m_get E G 0 (ci := 6) rfl 4 (C := RX6) (T := TX6) (N := 8) rfl (by decide) mw_fl_6_24 (v := .ref d4) rfl dX6_copyFrom_62 ?_
  refine lv_iconst (v := 0) E.1 E.2.1 dX6_copyFrom_65 (by decide) ?_
  refine lv_bipush (v := 6) E.1 E.2.1 dX6_copyFrom_66 (by decide) ?_
  refine m_copyi E G hl mw_ml_6_37 12 5 rfl rfl (by decide) (by decide) (by decide) (by decide) (by decide) (by decide) (Nat.le_of_ble_eq_true rfl) (by decide) dX6_copyFrom_68 (fun H locs G => ?_)
  obtain ⟨f_5, ef_5⟩ : ∃ f_5 : Nat → Int32, f_5 = (va_cpy (fun _ => 0) (fun _ => 0) (0 : Int32).toNatClampNeg (0 : Int32).toNatClampNeg (6 : Int32).toNatClampNeg) := ⟨_, rfl⟩
  have G : mG D A s H locs [(h0, .inr (6, [.ref d0, .ref d1, .ref d2, .ref d3, .ref d4, .ref d5, .int 0, .int 0])), (d0, .inl (K 0, 5, .inl f_1)), (d1, .inl (K 0, 5, .inl f_2)), (d2, .inl (K 0, 5, .inl f_3)), (d3, .inl (K 0, 5, .inl f_4)), (d4, .inl (K 0, 6, .inl f_5)), (d5, .inl (K 0, 6, .inl (fun _ => 0))), (h1, .inr (6, [.ref e0, .ref e1, .ref e2, .ref e3, .ref e4, .ref e5, .int 0, .int 0])), (e0, .inl (K 0, 5, .inl (fun _ => 0))), (e1, .inl (K 0, 5, .inl (fun _ => 0))), (e2, .inl (K 0, 5, .inl (fun _ => 0))), (e3, .inl (K 0, 5, .inl (fun _ => 0))), (e4, .inl (K 0, 6, .inl (fun _ => 0))), (e5, .inl (K 0, 6, .inl (fun _ => 0)))] := by subst ef_5; exact G
  clear ef_5
  refine lv_aload_n E.1 E.2.1 dX6_copyFrom_71 rfl (lv_at hl 1 rfl) ?_
  refine m_get E G 7 (ci := 6) rfl 5 (C := RX6) (T := TX6) (N := 8) rfl (by decide) mw_fl_6_27 (v := .ref e5) rfl dX6_copyFrom_72 ?_
  refine lv_iconst (v := 0) E.1 E.2.1 dX6_copyFrom_75 (by decide) ?_
  refine lv_aload_n E.1 E.2.1 dX6_copyFrom_76 rfl (lv_at hl 0 rfl) ?_
  refine m_get E G 0 (ci := 6) rfl 5 (C := RX6) (T := TX6) (N := 8) rfl (by decide) mw_fl_6_27 (v := .ref d5) rfl dX6_copyFrom_77 ?_
  refine lv_iconst (v := 0) E.1 E.2.1 dX6_copyFrom_80 (by decide) ?_
  refine lv_bipush (v := 6) E.1 E.2.1 dX6_copyFrom_81 (by decide) ?_
  refine m_copyi E G hl mw_ml_6_37 13 6 rfl rfl (by decide) (by decide) (by decide) (by decide) (by decide) (by decide) (Nat.le_of_ble_eq_true rfl) (by decide) dX6_copyFrom_83 (fun H locs G => ?_)
  obtain ⟨f_6, ef_6⟩ : ∃ f_6 : Nat → Int32, f_6 = (va_cpy (fun _ => 0) (fun _ => 0) (0 : Int32).toNatClampNeg (0 : Int32).toNatClampNeg (6 : Int32).toNatClampNeg) := ⟨_, rfl⟩
  have G : mG D A s H locs [(h0, .inr (6, [.ref d0, .ref d1, .ref d2, .ref d3, .ref d4, .ref d5, .int 0, .int 0])), (d0, .inl (K 0, 5, .inl f_1)), (d1, .inl (K 0, 5, .inl f_2)), (d2, .inl (K 0, 5, .inl f_3)), (d3, .inl (K 0, 5, .inl f_4)), (d4, .inl (K 0, 6, .inl f_5)), (d5, .inl (K 0, 6, .inl f_6)), (h1, .inr (6, [.ref e0, .ref e1, .ref e2, .ref e3, .ref e4, .ref e5, .int 0, .int 0])), (e0, .inl (K 0, 5, .inl (fun _ => 0))), (e1, .inl (K 0, 5, .inl (fun _ => 0))), (e2, .inl (K 0, 5, .inl (fun _ => 0))), (e3, .inl (K 0, 5, .inl (fun _ => 0))), (e4, .inl (K 0, 6, .inl (fun _ => 0))), (e5, .inl (K 0, 6, .inl (fun _ => 0)))] := by subst ef_6; exact G
  clear ef_6
  refine lv_aload_n E.1 E.2.1 dX6_copyFrom_86 rfl (lv_at hl 0 rfl) ?_
  refine lv_aload_n E.1 E.2.1 dX6_copyFrom_87 rfl (lv_at hl 1 rfl) ?_
  refine m_get E G 7 (ci := 6) rfl 6 (C := RX6) (T := TX6) (N := 8) rfl (by decide) mw_fl_6_30 (v := .int 0) rfl dX6_copyFrom_88 ?_
  refine m_put E G 0 (ci := 6) rfl 6 (C := RX6) (T := TX6) (N := 8) rfl (by decide) mw_fl_6_30 rfl rfl rfl (Nat.le_of_ble_eq_true rfl) dX6_copyFrom_91 (fun H locs G => ?_)
  have G : mG D A s H locs [(h0, .inr (6, [.ref d0, .ref d1, .ref d2, .ref d3, .ref d4, .ref d5, .int 0, .int 0])), (d0, .inl (K 0, 5, .inl f_1)), (d1, .inl (K 0, 5, .inl f_2)), (d2, .inl (K 0, 5, .inl f_3)), (d3, .inl (K 0, 5, .inl f_4)), (d4, .inl (K 0, 6, .inl f_5)), (d5, .inl (K 0, 6, .inl f_6)), (h1, .inr (6, [.ref e0, .ref e1, .ref e2, .ref e3, .ref e4, .ref e5, .int 0, .int 0])), (e0, .inl (K 0, 5, .inl (fun _ => 0))), (e1, .inl (K 0, 5, .inl (fun _ => 0))), (e2, .inl (K 0, 5, .inl (fun _ => 0))), (e3, .inl (K 0, 5, .inl (fun _ => 0))), (e4, .inl (K 0, 6, .inl (fun _ => 0))), (e5, .inl (K 0, 6, .inl (fun _ => 0)))] := G
  refine lv_aload_n E.1 E.2.1 dX6_copyFrom_94 rfl (lv_at hl 0 rfl) ?_
  refine lv_aload_n E.1 E.2.1 dX6_copyFrom_95 rfl (lv_at hl 1 rfl) ?_
  refine m_get E G 7 (ci := 6) rfl 7 (C := RX6) (T := TX6) (N := 8) rfl (by decide) mw_fl_6_34 (v := .int 0) rfl dX6_copyFrom_96 ?_
  refine m_put E G 0 (ci := 6) rfl 7 (C := RX6) (T := TX6) (N := 8) rfl (by decide) mw_fl_6_34 rfl rfl rfl (Nat.le_of_ble_eq_true rfl) dX6_copyFrom_99 (fun H locs G => ?_)
  have G : mG D A s H locs [(h0, .inr (6, [.ref d0, .ref d1, .ref d2, .ref d3, .ref d4, .ref d5, .int 0, .int 0])), (d0, .inl (K 0, 5, .inl f_1)), (d1, .inl (K 0, 5, .inl f_2)), (d2, .inl (K 0, 5, .inl f_3)), (d3, .inl (K 0, 5, .inl f_4)), (d4, .inl (K 0, 6, .inl f_5)), (d5, .inl (K 0, 6, .inl f_6)), (h1, .inr (6, [.ref e0, .ref e1, .ref e2, .ref e3, .ref e4, .ref e5, .int 0, .int 0])), (e0, .inl (K 0, 5, .inl (fun _ => 0))), (e1, .inl (K 0, 5, .inl (fun _ => 0))), (e2, .inl (K 0, 5, .inl (fun _ => 0))), (e3, .inl (K 0, 5, .inl (fun _ => 0))), (e4, .inl (K 0, 6, .inl (fun _ => 0))), (e5, .inl (K 0, 6, .inl (fun _ => 0)))] := G
  exact m_retv E G hr (fun _ => 0, fun _ _ => 0, fun _ _ => none) trivial [7] (by decide) rfl (by decide) (by decide) dX6_copyFrom_102
set_option maxHeartbeats 4000000 in
set_option maxRecDepth 100000 in
theorem k_ncopy (l : Launch) (D : va_G) (K : Nat → ClassId) (h0 : Nat) (h1 : Nat) (d0 : Nat) (d1 : Nat) (d2 : Nat) (e0 : Nat) (e1 : Nat) (e2 : Nat) : mV (S := mU) l yX3_copyFrom cX3_copyFrom 2 ({ frames := 1, cells := 0, slots := 0, locals := 26 }) D K [(h0, .inr (3, [.int 0, .ref d0, .ref d1, .ref d2])), (d0, .inl (K 0, 10, .inl (fun _ => 0))), (d1, .inl (K 0, 10, .inl (fun _ => 0))), (d2, .inl (K 0, 10, .inl (fun _ => 0))), (h1, .inr (3, [.int 0, .ref e0, .ref e1, .ref e2])), (e0, .inl (K 0, 10, .inl (fun _ => 0))), (e1, .inl (K 0, 10, .inl (fun _ => 0))), (e2, .inl (K 0, 10, .inl (fun _ => 0)))] [.ref h0, .ref h1] (fun u => True) (fun u => []) := by
  refine m_enterV (by decide) (Nat.le_of_ble_eq_true rfl) ?_
  intro p e s m args below meth c A ls E hr hN G hl
  have E : mE p s m meth c cX3_copyFrom args 2 RX3 D K A := E
  have hl : lv_has ls 2 [(0, .ref h0), (1, .ref h1)] := hl
  obtain ⟨H, hH⟩ : ∃ H, H = s.heap := ⟨_, rfl⟩
  obtain ⟨locs, hlo⟩ : ∃ L : List Loc, L = [] := ⟨_, rfl⟩
  rw [← hH, ← hlo] at G
  rw [← hH, ← hlo]
  have G : mG D A s H locs [(h0, .inr (3, [.int 0, .ref d0, .ref d1, .ref d2])), (d0, .inl (K 0, 10, .inl (fun _ => 0))), (d1, .inl (K 0, 10, .inl (fun _ => 0))), (d2, .inl (K 0, 10, .inl (fun _ => 0))), (h1, .inr (3, [.int 0, .ref e0, .ref e1, .ref e2])), (e0, .inl (K 0, 10, .inl (fun _ => 0))), (e1, .inl (K 0, 10, .inl (fun _ => 0))), (e2, .inl (K 0, 10, .inl (fun _ => 0)))] := G
  clear hH hlo
  refine lv_aload_n E.1 E.2.1 dX3_copyFrom_0 rfl (lv_at hl 0 rfl) ?_
  refine lv_aload_n E.1 E.2.1 dX3_copyFrom_1 rfl (lv_at hl 1 rfl) ?_
  refine m_get E G 4 (ci := 3) rfl 0 (C := RX3) (T := TX3) (N := 4) rfl (by decide) mw_fl_3_9 (v := .int 0) rfl dX3_copyFrom_2 ?_
  refine m_put E G 0 (ci := 3) rfl 0 (C := RX3) (T := TX3) (N := 4) rfl (by decide) mw_fl_3_9 rfl rfl rfl (Nat.le_of_ble_eq_true rfl) dX3_copyFrom_5 (fun H locs G => ?_)
  have G : mG D A s H locs [(h0, .inr (3, [.int 0, .ref d0, .ref d1, .ref d2])), (d0, .inl (K 0, 10, .inl (fun _ => 0))), (d1, .inl (K 0, 10, .inl (fun _ => 0))), (d2, .inl (K 0, 10, .inl (fun _ => 0))), (h1, .inr (3, [.int 0, .ref e0, .ref e1, .ref e2])), (e0, .inl (K 0, 10, .inl (fun _ => 0))), (e1, .inl (K 0, 10, .inl (fun _ => 0))), (e2, .inl (K 0, 10, .inl (fun _ => 0)))] := G
  refine lv_aload_n E.1 E.2.1 dX3_copyFrom_8 rfl (lv_at hl 1 rfl) ?_
  refine m_get E G 4 (ci := 3) rfl 1 (C := RX3) (T := TX3) (N := 4) rfl (by decide) mw_fl_3_15 (v := .ref e0) rfl dX3_copyFrom_9 ?_
  refine lv_iconst (v := 0) E.1 E.2.1 dX3_copyFrom_12 (by decide) ?_
  refine lv_aload_n E.1 E.2.1 dX3_copyFrom_13 rfl (lv_at hl 0 rfl) ?_
  refine m_get E G 0 (ci := 3) rfl 1 (C := RX3) (T := TX3) (N := 4) rfl (by decide) mw_fl_3_15 (v := .ref d0) rfl dX3_copyFrom_14 ?_
  refine lv_iconst (v := 0) E.1 E.2.1 dX3_copyFrom_17 (by decide) ?_
  refine lv_bipush (v := 10) E.1 E.2.1 dX3_copyFrom_18 (by decide) ?_
  refine m_copyi E G hl mw_ml_3_25 5 1 rfl rfl (by decide) (by decide) (by decide) (by decide) (by decide) (by decide) (Nat.le_of_ble_eq_true rfl) (by decide) dX3_copyFrom_20 (fun H locs G => ?_)
  obtain ⟨f_1, ef_1⟩ : ∃ f_1 : Nat → Int32, f_1 = (va_cpy (fun _ => 0) (fun _ => 0) (0 : Int32).toNatClampNeg (0 : Int32).toNatClampNeg (10 : Int32).toNatClampNeg) := ⟨_, rfl⟩
  have G : mG D A s H locs [(h0, .inr (3, [.int 0, .ref d0, .ref d1, .ref d2])), (d0, .inl (K 0, 10, .inl f_1)), (d1, .inl (K 0, 10, .inl (fun _ => 0))), (d2, .inl (K 0, 10, .inl (fun _ => 0))), (h1, .inr (3, [.int 0, .ref e0, .ref e1, .ref e2])), (e0, .inl (K 0, 10, .inl (fun _ => 0))), (e1, .inl (K 0, 10, .inl (fun _ => 0))), (e2, .inl (K 0, 10, .inl (fun _ => 0)))] := by subst ef_1; exact G
  clear ef_1
  refine lv_aload_n E.1 E.2.1 dX3_copyFrom_23 rfl (lv_at hl 1 rfl) ?_
  refine m_get E G 4 (ci := 3) rfl 2 (C := RX3) (T := TX3) (N := 4) rfl (by decide) mw_fl_3_19 (v := .ref e1) rfl dX3_copyFrom_24 ?_
  refine lv_iconst (v := 0) E.1 E.2.1 dX3_copyFrom_27 (by decide) ?_
  refine lv_aload_n E.1 E.2.1 dX3_copyFrom_28 rfl (lv_at hl 0 rfl) ?_
  refine m_get E G 0 (ci := 3) rfl 2 (C := RX3) (T := TX3) (N := 4) rfl (by decide) mw_fl_3_19 (v := .ref d1) rfl dX3_copyFrom_29 ?_
  refine lv_iconst (v := 0) E.1 E.2.1 dX3_copyFrom_32 (by decide) ?_
  refine lv_bipush (v := 10) E.1 E.2.1 dX3_copyFrom_33 (by decide) ?_
  refine m_copyi E G hl mw_ml_3_25 6 2 rfl rfl (by decide) (by decide) (by decide) (by decide) (by decide) (by decide) (Nat.le_of_ble_eq_true rfl) (by decide) dX3_copyFrom_35 (fun H locs G => ?_)
  obtain ⟨f_2, ef_2⟩ : ∃ f_2 : Nat → Int32, f_2 = (va_cpy (fun _ => 0) (fun _ => 0) (0 : Int32).toNatClampNeg (0 : Int32).toNatClampNeg (10 : Int32).toNatClampNeg) := ⟨_, rfl⟩
  have G : mG D A s H locs [(h0, .inr (3, [.int 0, .ref d0, .ref d1, .ref d2])), (d0, .inl (K 0, 10, .inl f_1)), (d1, .inl (K 0, 10, .inl f_2)), (d2, .inl (K 0, 10, .inl (fun _ => 0))), (h1, .inr (3, [.int 0, .ref e0, .ref e1, .ref e2])), (e0, .inl (K 0, 10, .inl (fun _ => 0))), (e1, .inl (K 0, 10, .inl (fun _ => 0))), (e2, .inl (K 0, 10, .inl (fun _ => 0)))] := by subst ef_2; exact G
  clear ef_2
  refine lv_aload_n E.1 E.2.1 dX3_copyFrom_38 rfl (lv_at hl 1 rfl) ?_
  refine m_get E G 4 (ci := 3) rfl 3 (C := RX3) (T := TX3) (N := 4) rfl (by decide) mw_fl_3_22 (v := .ref e2) rfl dX3_copyFrom_39 ?_
  refine lv_iconst (v := 0) E.1 E.2.1 dX3_copyFrom_42 (by decide) ?_
  refine lv_aload_n E.1 E.2.1 dX3_copyFrom_43 rfl (lv_at hl 0 rfl) ?_
  refine m_get E G 0 (ci := 3) rfl 3 (C := RX3) (T := TX3) (N := 4) rfl (by decide) mw_fl_3_22 (v := .ref d2) rfl dX3_copyFrom_44 ?_
  refine lv_iconst (v := 0) E.1 E.2.1 dX3_copyFrom_47 (by decide) ?_
  refine lv_bipush (v := 10) E.1 E.2.1 dX3_copyFrom_48 (by decide) ?_
  refine m_copyi E G hl mw_ml_3_25 7 3 rfl rfl (by decide) (by decide) (by decide) (by decide) (by decide) (by decide) (Nat.le_of_ble_eq_true rfl) (by decide) dX3_copyFrom_50 (fun H locs G => ?_)
  obtain ⟨f_3, ef_3⟩ : ∃ f_3 : Nat → Int32, f_3 = (va_cpy (fun _ => 0) (fun _ => 0) (0 : Int32).toNatClampNeg (0 : Int32).toNatClampNeg (10 : Int32).toNatClampNeg) := ⟨_, rfl⟩
  have G : mG D A s H locs [(h0, .inr (3, [.int 0, .ref d0, .ref d1, .ref d2])), (d0, .inl (K 0, 10, .inl f_1)), (d1, .inl (K 0, 10, .inl f_2)), (d2, .inl (K 0, 10, .inl f_3)), (h1, .inr (3, [.int 0, .ref e0, .ref e1, .ref e2])), (e0, .inl (K 0, 10, .inl (fun _ => 0))), (e1, .inl (K 0, 10, .inl (fun _ => 0))), (e2, .inl (K 0, 10, .inl (fun _ => 0)))] := by subst ef_3; exact G
  clear ef_3
  exact m_retv E G hr (fun _ => 0, fun _ _ => 0, fun _ _ => none) trivial [] (by decide) rfl (by decide) (by decide) dX3_copyFrom_53
