theorem mw_code_X6_copyFrom : (Cond.code yX6_copyFrom cX6_copyFrom 2 none : Cond) ∈ cw := cw_of (List.mem_append_right _ (List.mem_append_right _ (List.mem_append_right _ (List.mem_append_left _ (List.mem_of_getElem? (i := 170) rfl))))) (by decide +kernel)
theorem mw_inst_X6_copyFrom : (Cond.instanceMethod yX6_copyFrom : Cond) ∈ cw := cw_of (List.mem_append_right _ (List.mem_append_right _ (List.mem_append_right _ (List.mem_append_left _ (List.mem_of_getElem? (i := 168) (by decide +kernel)))))) (by decide +kernel)
theorem mw_ml_8_50 : (Cond.methodLink RX8 50 arraycopyName : Cond) ∈ cw := cw_of (List.mem_append_right _ (List.mem_append_right _ (List.mem_append_right _ (List.mem_append_left _ (List.mem_of_getElem? (i := 164) (by decide +kernel)))))) (by decide +kernel)
theorem mw_ml_8_56 : (Cond.methodLink RX8 56 yX6_copyFrom : Cond) ∈ cw := cw_of (List.mem_append_right _ (List.mem_append_right _ (List.mem_append_right _ (List.mem_append_left _ (List.mem_of_getElem? (i := 167) (by decide +kernel)))))) (by decide +kernel)
theorem mw_sel_X6_copyFrom : (Cond.selects RX6 yX6_copyFrom yX6_copyFrom : Cond) ∈ cw := cw_of (List.mem_append_right _ (List.mem_append_right _ (List.mem_append_right _ (List.mem_append_left _ (List.mem_of_getElem? (i := 169) (by decide +kernel)))))) (by decide +kernel)
theorem dX8_copyFrom_0 : decode cX8_copyFrom 0 = .ok (.aload_n 0, 1) := by decide +kernel
theorem dX8_copyFrom_1 : decode cX8_copyFrom 1 = .ok (.aload_n 1, 1) := by decide +kernel
theorem dX8_copyFrom_2 : decode cX8_copyFrom 2 = .ok (.getfield 9, 3) := by decide +kernel
theorem dX8_copyFrom_5 : decode cX8_copyFrom 5 = .ok (.putfield 9, 3) := by decide +kernel
theorem dX8_copyFrom_8 : decode cX8_copyFrom 8 = .ok (.aload_n 0, 1) := by decide +kernel
theorem dX8_copyFrom_9 : decode cX8_copyFrom 9 = .ok (.aload_n 1, 1) := by decide +kernel
theorem dX8_copyFrom_10 : decode cX8_copyFrom 10 = .ok (.getfield 15, 3) := by decide +kernel
theorem dX8_copyFrom_13 : decode cX8_copyFrom 13 = .ok (.putfield 15, 3) := by decide +kernel
theorem dX8_copyFrom_16 : decode cX8_copyFrom 16 = .ok (.aload_n 0, 1) := by decide +kernel
theorem dX8_copyFrom_17 : decode cX8_copyFrom 17 = .ok (.aload_n 1, 1) := by decide +kernel
theorem dX8_copyFrom_18 : decode cX8_copyFrom 18 = .ok (.getfield 18, 3) := by decide +kernel
theorem dX8_copyFrom_21 : decode cX8_copyFrom 21 = .ok (.putfield 18, 3) := by decide +kernel
theorem dX8_copyFrom_24 : decode cX8_copyFrom 24 = .ok (.aload_n 0, 1) := by decide +kernel
theorem dX8_copyFrom_25 : decode cX8_copyFrom 25 = .ok (.aload_n 1, 1) := by decide +kernel
theorem dX8_copyFrom_26 : decode cX8_copyFrom 26 = .ok (.getfield 21, 3) := by decide +kernel
theorem dX8_copyFrom_29 : decode cX8_copyFrom 29 = .ok (.putfield 21, 3) := by decide +kernel
theorem dX8_copyFrom_32 : decode cX8_copyFrom 32 = .ok (.aload_n 1, 1) := by decide +kernel
theorem dX8_copyFrom_33 : decode cX8_copyFrom 33 = .ok (.getfield 24, 3) := by decide +kernel
theorem dX8_copyFrom_36 : decode cX8_copyFrom 36 = .ok (.iconst 0, 1) := by decide +kernel
theorem dX8_copyFrom_37 : decode cX8_copyFrom 37 = .ok (.aload_n 0, 1) := by decide +kernel
theorem dX8_copyFrom_38 : decode cX8_copyFrom 38 = .ok (.getfield 24, 3) := by decide +kernel
theorem dX8_copyFrom_41 : decode cX8_copyFrom 41 = .ok (.iconst 0, 1) := by decide +kernel
theorem dX8_copyFrom_42 : decode cX8_copyFrom 42 = .ok (.bipush 8, 2) := by decide +kernel
theorem dX8_copyFrom_44 : decode cX8_copyFrom 44 = .ok (.invokestatic 50, 3) := by decide +kernel
theorem dX8_copyFrom_47 : decode cX8_copyFrom 47 = .ok (.aload_n 1, 1) := by decide +kernel
theorem dX8_copyFrom_48 : decode cX8_copyFrom 48 = .ok (.getfield 28, 3) := by decide +kernel
theorem dX8_copyFrom_51 : decode cX8_copyFrom 51 = .ok (.iconst 0, 1) := by decide +kernel
theorem dX8_copyFrom_52 : decode cX8_copyFrom 52 = .ok (.aload_n 0, 1) := by decide +kernel
theorem dX8_copyFrom_53 : decode cX8_copyFrom 53 = .ok (.getfield 28, 3) := by decide +kernel
theorem dX8_copyFrom_56 : decode cX8_copyFrom 56 = .ok (.iconst 0, 1) := by decide +kernel
theorem dX8_copyFrom_57 : decode cX8_copyFrom 57 = .ok (.bipush 6, 2) := by decide +kernel
theorem dX8_copyFrom_59 : decode cX8_copyFrom 59 = .ok (.invokestatic 50, 3) := by decide +kernel
theorem dX8_copyFrom_62 : decode cX8_copyFrom 62 = .ok (.aload_n 1, 1) := by decide +kernel
theorem dX8_copyFrom_63 : decode cX8_copyFrom 63 = .ok (.getfield 31, 3) := by decide +kernel
theorem dX8_copyFrom_66 : decode cX8_copyFrom 66 = .ok (.iconst 0, 1) := by decide +kernel
theorem dX8_copyFrom_67 : decode cX8_copyFrom 67 = .ok (.aload_n 0, 1) := by decide +kernel
theorem dX8_copyFrom_68 : decode cX8_copyFrom 68 = .ok (.getfield 31, 3) := by decide +kernel
theorem dX8_copyFrom_71 : decode cX8_copyFrom 71 = .ok (.iconst 0, 1) := by decide +kernel
theorem dX8_copyFrom_72 : decode cX8_copyFrom 72 = .ok (.bipush 6, 2) := by decide +kernel
theorem dX8_copyFrom_74 : decode cX8_copyFrom 74 = .ok (.invokestatic 50, 3) := by decide +kernel
theorem dX8_copyFrom_77 : decode cX8_copyFrom 77 = .ok (.aload_n 1, 1) := by decide +kernel
theorem dX8_copyFrom_78 : decode cX8_copyFrom 78 = .ok (.getfield 34, 3) := by decide +kernel
theorem dX8_copyFrom_81 : decode cX8_copyFrom 81 = .ok (.iconst 0, 1) := by decide +kernel
theorem dX8_copyFrom_82 : decode cX8_copyFrom 82 = .ok (.aload_n 0, 1) := by decide +kernel
theorem dX8_copyFrom_83 : decode cX8_copyFrom 83 = .ok (.getfield 34, 3) := by decide +kernel
theorem dX8_copyFrom_86 : decode cX8_copyFrom 86 = .ok (.iconst 0, 1) := by decide +kernel
theorem dX8_copyFrom_87 : decode cX8_copyFrom 87 = .ok (.iconst 5, 1) := by decide +kernel
theorem dX8_copyFrom_88 : decode cX8_copyFrom 88 = .ok (.invokestatic 50, 3) := by decide +kernel
theorem dX8_copyFrom_91 : decode cX8_copyFrom 91 = .ok (.aload_n 1, 1) := by decide +kernel
theorem dX8_copyFrom_92 : decode cX8_copyFrom 92 = .ok (.getfield 44, 3) := by decide +kernel
theorem dX8_copyFrom_95 : decode cX8_copyFrom 95 = .ok (.iconst 0, 1) := by decide +kernel
theorem dX8_copyFrom_96 : decode cX8_copyFrom 96 = .ok (.aload_n 0, 1) := by decide +kernel
theorem dX8_copyFrom_97 : decode cX8_copyFrom 97 = .ok (.getfield 44, 3) := by decide +kernel
theorem dX8_copyFrom_100 : decode cX8_copyFrom 100 = .ok (.iconst 0, 1) := by decide +kernel
theorem dX8_copyFrom_101 : decode cX8_copyFrom 101 = .ok (.bipush 64, 2) := by decide +kernel
theorem dX8_copyFrom_103 : decode cX8_copyFrom 103 = .ok (.invokestatic 50, 3) := by decide +kernel
theorem dX8_copyFrom_106 : decode cX8_copyFrom 106 = .ok (.aload_n 0, 1) := by decide +kernel
theorem dX8_copyFrom_107 : decode cX8_copyFrom 107 = .ok (.getfield 40, 3) := by decide +kernel
theorem dX8_copyFrom_110 : decode cX8_copyFrom 110 = .ok (.aload_n 1, 1) := by decide +kernel
theorem dX8_copyFrom_111 : decode cX8_copyFrom 111 = .ok (.getfield 40, 3) := by decide +kernel
theorem dX8_copyFrom_114 : decode cX8_copyFrom 114 = .ok (.invokevirtual 56, 3) := by decide +kernel
theorem dX8_copyFrom_117 : decode cX8_copyFrom 117 = .ok (.return_, 1) := by decide +kernel
theorem hd_X6_copyFrom : yX6_copyFrom.cls ≠ "java/lang/invoke/MethodHandle" ∧ yX6_copyFrom.cls ≠ "java/lang/invoke/VarHandle" ∧ (parseMethodDescriptor yX6_copyFrom.desc).map (fun d => d.parameters.length) = some 1 := ⟨by decide +kernel, by decide +kernel, by decide +kernel⟩
set_option maxHeartbeats 4000000 in
set_option maxRecDepth 100000 in
theorem k_tcopy (l : Launch) (D : va_G) (K : Nat → ClassId) (h0 : Nat) (h1 : Nat) (d0 : Nat) (d1 : Nat) (d2 : Nat) (d3 : Nat) (d4 : Nat) (d5 : Nat) (d6 : Nat) (d7 : Nat) (d8 : Nat) (d9 : Nat) (d10 : Nat) (d11 : Nat) (e0 : Nat) (e1 : Nat) (e2 : Nat) (e3 : Nat) (e4 : Nat) (e5 : Nat) (e6 : Nat) (e7 : Nat) (e8 : Nat) (e9 : Nat) (e10 : Nat) (e11 : Nat) : mV (S := mU) l yX8_copyFrom cX8_copyFrom 2 ({ frames := 2, cells := 0, slots := 0, locals := 47 }) D K [(h0, .inr (8, [.int 0, .int 0, .int 0, .int 0, .ref d0, .ref d1, .ref d2, .ref d3, .ref d4, .ref d11])), (d0, .inl (K 0, 8, .inl (fun _ => 0))), (d1, .inl (K 0, 6, .inl (fun _ => 0))), (d2, .inl (K 0, 6, .inl (fun _ => 0))), (d3, .inl (K 0, 5, .inl (fun _ => 0))), (d4, .inr (6, [.ref d5, .ref d6, .ref d7, .ref d8, .ref d9, .ref d10, .int 0, .int 0])), (d5, .inl (K 0, 5, .inl (fun _ => 0))), (d6, .inl (K 0, 5, .inl (fun _ => 0))), (d7, .inl (K 0, 5, .inl (fun _ => 0))), (d8, .inl (K 0, 5, .inl (fun _ => 0))), (d9, .inl (K 0, 6, .inl (fun _ => 0))), (d10, .inl (K 0, 6, .inl (fun _ => 0))), (d11, .inl (K 0, 64, .inl (fun _ => 0))), (h1, .inr (8, [.int 0, .int 0, .int 0, .int 0, .ref e0, .ref e1, .ref e2, .ref e3, .ref e4, .ref e11])), (e0, .inl (K 0, 8, .inl (fun _ => 0))), (e1, .inl (K 0, 6, .inl (fun _ => 0))), (e2, .inl (K 0, 6, .inl (fun _ => 0))), (e3, .inl (K 0, 5, .inl (fun _ => 0))), (e4, .inr (6, [.ref e5, .ref e6, .ref e7, .ref e8, .ref e9, .ref e10, .int 0, .int 0])), (e5, .inl (K 0, 5, .inl (fun _ => 0))), (e6, .inl (K 0, 5, .inl (fun _ => 0))), (e7, .inl (K 0, 5, .inl (fun _ => 0))), (e8, .inl (K 0, 5, .inl (fun _ => 0))), (e9, .inl (K 0, 6, .inl (fun _ => 0))), (e10, .inl (K 0, 6, .inl (fun _ => 0))), (e11, .inl (K 0, 64, .inl (fun _ => 0)))] [.ref h0, .ref h1] (fun u => True) (fun u => []) := by
  refine m_enterV (by decide) (Nat.le_of_ble_eq_true rfl) ?_
  intro p e s m args below meth c A ls E hr hN G hl
  have E : mE p s m meth c cX8_copyFrom args 2 RX8 D K A := E
  have hl : lv_has ls 2 [(0, .ref h0), (1, .ref h1)] := hl
  obtain ⟨H, hH⟩ : ∃ H, H = s.heap := ⟨_, rfl⟩
  obtain ⟨locs, hlo⟩ : ∃ L : List Loc, L = [] := ⟨_, rfl⟩
  rw [← hH, ← hlo] at G
  rw [← hH, ← hlo]
  have G : mG D A s H locs [(h0, .inr (8, [.int 0, .int 0, .int 0, .int 0, .ref d0, .ref d1, .ref d2, .ref d3, .ref d4, .ref d11])), (d0, .inl (K 0, 8, .inl (fun _ => 0))), (d1, .inl (K 0, 6, .inl (fun _ => 0))), (d2, .inl (K 0, 6, .inl (fun _ => 0))), (d3, .inl (K 0, 5, .inl (fun _ => 0))), (d4, .inr (6, [.ref d5, .ref d6, .ref d7, .ref d8, .ref d9, .ref d10, .int 0, .int 0])), (d5, .inl (K 0, 5, .inl (fun _ => 0))), (d6, .inl (K 0, 5, .inl (fun _ => 0))), (d7, .inl (K 0, 5, .inl (fun _ => 0))), (d8, .inl (K 0, 5, .inl (fun _ => 0))), (d9, .inl (K 0, 6, .inl (fun _ => 0))), (d10, .inl (K 0, 6, .inl (fun _ => 0))), (d11, .inl (K 0, 64, .inl (fun _ => 0))), (h1, .inr (8, [.int 0, .int 0, .int 0, .int 0, .ref e0, .ref e1, .ref e2, .ref e3, .ref e4, .ref e11])), (e0, .inl (K 0, 8, .inl (fun _ => 0))), (e1, .inl (K 0, 6, .inl (fun _ => 0))), (e2, .inl (K 0, 6, .inl (fun _ => 0))), (e3, .inl (K 0, 5, .inl (fun _ => 0))), (e4, .inr (6, [.ref e5, .ref e6, .ref e7, .ref e8, .ref e9, .ref e10, .int 0, .int 0])), (e5, .inl (K 0, 5, .inl (fun _ => 0))), (e6, .inl (K 0, 5, .inl (fun _ => 0))), (e7, .inl (K 0, 5, .inl (fun _ => 0))), (e8, .inl (K 0, 5, .inl (fun _ => 0))), (e9, .inl (K 0, 6, .inl (fun _ => 0))), (e10, .inl (K 0, 6, .inl (fun _ => 0))), (e11, .inl (K 0, 64, .inl (fun _ => 0)))] := G
  clear hH hlo
  refine lv_aload_n E.1 E.2.1 dX8_copyFrom_0 rfl (lv_at hl 0 rfl) ?_
  refine lv_aload_n E.1 E.2.1 dX8_copyFrom_1 rfl (lv_at hl 1 rfl) ?_
  refine m_get E G 13 (ci := 8) rfl 0 (C := RX8) (T := TX8) (N := 10) rfl (by decide) mw_fl_8_9 (v := .int 0) rfl dX8_copyFrom_2 ?_
  refine m_put E G 0 (ci := 8) rfl 0 (C := RX8) (T := TX8) (N := 10) rfl (by decide) mw_fl_8_9 rfl rfl rfl (Nat.le_of_ble_eq_true rfl) dX8_copyFrom_5 (fun H locs G => ?_)
  have G : mG D A s H locs [(h0, .inr (8, [.int 0, .int 0, .int 0, .int 0, .ref d0, .ref d1, .ref d2, .ref d3, .ref d4, .ref d11])), (d0, .inl (K 0, 8, .inl (fun _ => 0))), (d1, .inl (K 0, 6, .inl (fun _ => 0))), (d2, .inl (K 0, 6, .inl (fun _ => 0))), (d3, .inl (K 0, 5, .inl (fun _ => 0))), (d4, .inr (6, [.ref d5, .ref d6, .ref d7, .ref d8, .ref d9, .ref d10, .int 0, .int 0])), (d5, .inl (K 0, 5, .inl (fun _ => 0))), (d6, .inl (K 0, 5, .inl (fun _ => 0))), (d7, .inl (K 0, 5, .inl (fun _ => 0))), (d8, .inl (K 0, 5, .inl (fun _ => 0))), (d9, .inl (K 0, 6, .inl (fun _ => 0))), (d10, .inl (K 0, 6, .inl (fun _ => 0))), (d11, .inl (K 0, 64, .inl (fun _ => 0))), (h1, .inr (8, [.int 0, .int 0, .int 0, .int 0, .ref e0, .ref e1, .ref e2, .ref e3, .ref e4, .ref e11])), (e0, .inl (K 0, 8, .inl (fun _ => 0))), (e1, .inl (K 0, 6, .inl (fun _ => 0))), (e2, .inl (K 0, 6, .inl (fun _ => 0))), (e3, .inl (K 0, 5, .inl (fun _ => 0))), (e4, .inr (6, [.ref e5, .ref e6, .ref e7, .ref e8, .ref e9, .ref e10, .int 0, .int 0])), (e5, .inl (K 0, 5, .inl (fun _ => 0))), (e6, .inl (K 0, 5, .inl (fun _ => 0))), (e7, .inl (K 0, 5, .inl (fun _ => 0))), (e8, .inl (K 0, 5, .inl (fun _ => 0))), (e9, .inl (K 0, 6, .inl (fun _ => 0))), (e10, .inl (K 0, 6, .inl (fun _ => 0))), (e11, .inl (K 0, 64, .inl (fun _ => 0)))] := G
  refine lv_aload_n E.1 E.2.1 dX8_copyFrom_8 rfl (lv_at hl 0 rfl) ?_
  refine lv_aload_n E.1 E.2.1 dX8_copyFrom_9 rfl (lv_at hl 1 rfl) ?_
  refine m_get E G 13 (ci := 8) rfl 1 (C := RX8) (T := TX8) (N := 10) rfl (by decide) mw_fl_8_15 (v := .int 0) rfl dX8_copyFrom_10 ?_
  refine m_put E G 0 (ci := 8) rfl 1 (C := RX8) (T := TX8) (N := 10) rfl (by decide) mw_fl_8_15 rfl rfl rfl (Nat.le_of_ble_eq_true rfl) dX8_copyFrom_13 (fun H locs G => ?_)
  have G : mG D A s H locs [(h0, .inr (8, [.int 0, .int 0, .int 0, .int 0, .ref d0, .ref d1, .ref d2, .ref d3, .ref d4, .ref d11])), (d0, .inl (K 0, 8, .inl (fun _ => 0))), (d1, .inl (K 0, 6, .inl (fun _ => 0))), (d2, .inl (K 0, 6, .inl (fun _ => 0))), (d3, .inl (K 0, 5, .inl (fun _ => 0))), (d4, .inr (6, [.ref d5, .ref d6, .ref d7, .ref d8, .ref d9, .ref d10, .int 0, .int 0])), (d5, .inl (K 0, 5, .inl (fun _ => 0))), (d6, .inl (K 0, 5, .inl (fun _ => 0))), (d7, .inl (K 0, 5, .inl (fun _ => 0))), (d8, .inl (K 0, 5, .inl (fun _ => 0))), (d9, .inl (K 0, 6, .inl (fun _ => 0))), (d10, .inl (K 0, 6, .inl (fun _ => 0))), (d11, .inl (K 0, 64, .inl (fun _ => 0))), (h1, .inr (8, [.int 0, .int 0, .int 0, .int 0, .ref e0, .ref e1, .ref e2, .ref e3, .ref e4, .ref e11])), (e0, .inl (K 0, 8, .inl (fun _ => 0))), (e1, .inl (K 0, 6, .inl (fun _ => 0))), (e2, .inl (K 0, 6, .inl (fun _ => 0))), (e3, .inl (K 0, 5, .inl (fun _ => 0))), (e4, .inr (6, [.ref e5, .ref e6, .ref e7, .ref e8, .ref e9, .ref e10, .int 0, .int 0])), (e5, .inl (K 0, 5, .inl (fun _ => 0))), (e6, .inl (K 0, 5, .inl (fun _ => 0))), (e7, .inl (K 0, 5, .inl (fun _ => 0))), (e8, .inl (K 0, 5, .inl (fun _ => 0))), (e9, .inl (K 0, 6, .inl (fun _ => 0))), (e10, .inl (K 0, 6, .inl (fun _ => 0))), (e11, .inl (K 0, 64, .inl (fun _ => 0)))] := G
  refine lv_aload_n E.1 E.2.1 dX8_copyFrom_16 rfl (lv_at hl 0 rfl) ?_
  refine lv_aload_n E.1 E.2.1 dX8_copyFrom_17 rfl (lv_at hl 1 rfl) ?_
  refine m_get E G 13 (ci := 8) rfl 2 (C := RX8) (T := TX8) (N := 10) rfl (by decide) mw_fl_8_18 (v := .int 0) rfl dX8_copyFrom_18 ?_
  refine m_put E G 0 (ci := 8) rfl 2 (C := RX8) (T := TX8) (N := 10) rfl (by decide) mw_fl_8_18 rfl rfl rfl (Nat.le_of_ble_eq_true rfl) dX8_copyFrom_21 (fun H locs G => ?_)
  have G : mG D A s H locs [(h0, .inr (8, [.int 0, .int 0, .int 0, .int 0, .ref d0, .ref d1, .ref d2, .ref d3, .ref d4, .ref d11])), (d0, .inl (K 0, 8, .inl (fun _ => 0))), (d1, .inl (K 0, 6, .inl (fun _ => 0))), (d2, .inl (K 0, 6, .inl (fun _ => 0))), (d3, .inl (K 0, 5, .inl (fun _ => 0))), (d4, .inr (6, [.ref d5, .ref d6, .ref d7, .ref d8, .ref d9, .ref d10, .int 0, .int 0])), (d5, .inl (K 0, 5, .inl (fun _ => 0))), (d6, .inl (K 0, 5, .inl (fun _ => 0))), (d7, .inl (K 0, 5, .inl (fun _ => 0))), (d8, .inl (K 0, 5, .inl (fun _ => 0))), (d9, .inl (K 0, 6, .inl (fun _ => 0))), (d10, .inl (K 0, 6, .inl (fun _ => 0))), (d11, .inl (K 0, 64, .inl (fun _ => 0))), (h1, .inr (8, [.int 0, .int 0, .int 0, .int 0, .ref e0, .ref e1, .ref e2, .ref e3, .ref e4, .ref e11])), (e0, .inl (K 0, 8, .inl (fun _ => 0))), (e1, .inl (K 0, 6, .inl (fun _ => 0))), (e2, .inl (K 0, 6, .inl (fun _ => 0))), (e3, .inl (K 0, 5, .inl (fun _ => 0))), (e4, .inr (6, [.ref e5, .ref e6, .ref e7, .ref e8, .ref e9, .ref e10, .int 0, .int 0])), (e5, .inl (K 0, 5, .inl (fun _ => 0))), (e6, .inl (K 0, 5, .inl (fun _ => 0))), (e7, .inl (K 0, 5, .inl (fun _ => 0))), (e8, .inl (K 0, 5, .inl (fun _ => 0))), (e9, .inl (K 0, 6, .inl (fun _ => 0))), (e10, .inl (K 0, 6, .inl (fun _ => 0))), (e11, .inl (K 0, 64, .inl (fun _ => 0)))] := G
  refine lv_aload_n E.1 E.2.1 dX8_copyFrom_24 rfl (lv_at hl 0 rfl) ?_
  refine lv_aload_n E.1 E.2.1 dX8_copyFrom_25 rfl (lv_at hl 1 rfl) ?_
  refine m_get E G 13 (ci := 8) rfl 3 (C := RX8) (T := TX8) (N := 10) rfl (by decide) mw_fl_8_21 (v := .int 0) rfl dX8_copyFrom_26 ?_
  refine m_put E G 0 (ci := 8) rfl 3 (C := RX8) (T := TX8) (N := 10) rfl (by decide) mw_fl_8_21 rfl rfl rfl (Nat.le_of_ble_eq_true rfl) dX8_copyFrom_29 (fun H locs G => ?_)
  have G : mG D A s H locs [(h0, .inr (8, [.int 0, .int 0, .int 0, .int 0, .ref d0, .ref d1, .ref d2, .ref d3, .ref d4, .ref d11])), (d0, .inl (K 0, 8, .inl (fun _ => 0))), (d1, .inl (K 0, 6, .inl (fun _ => 0))), (d2, .inl (K 0, 6, .inl (fun _ => 0))), (d3, .inl (K 0, 5, .inl (fun _ => 0))), (d4, .inr (6, [.ref d5, .ref d6, .ref d7, .ref d8, .ref d9, .ref d10, .int 0, .int 0])), (d5, .inl (K 0, 5, .inl (fun _ => 0))), (d6, .inl (K 0, 5, .inl (fun _ => 0))), (d7, .inl (K 0, 5, .inl (fun _ => 0))), (d8, .inl (K 0, 5, .inl (fun _ => 0))), (d9, .inl (K 0, 6, .inl (fun _ => 0))), (d10, .inl (K 0, 6, .inl (fun _ => 0))), (d11, .inl (K 0, 64, .inl (fun _ => 0))), (h1, .inr (8, [.int 0, .int 0, .int 0, .int 0, .ref e0, .ref e1, .ref e2, .ref e3, .ref e4, .ref e11])), (e0, .inl (K 0, 8, .inl (fun _ => 0))), (e1, .inl (K 0, 6, .inl (fun _ => 0))), (e2, .inl (K 0, 6, .inl (fun _ => 0))), (e3, .inl (K 0, 5, .inl (fun _ => 0))), (e4, .inr (6, [.ref e5, .ref e6, .ref e7, .ref e8, .ref e9, .ref e10, .int 0, .int 0])), (e5, .inl (K 0, 5, .inl (fun _ => 0))), (e6, .inl (K 0, 5, .inl (fun _ => 0))), (e7, .inl (K 0, 5, .inl (fun _ => 0))), (e8, .inl (K 0, 5, .inl (fun _ => 0))), (e9, .inl (K 0, 6, .inl (fun _ => 0))), (e10, .inl (K 0, 6, .inl (fun _ => 0))), (e11, .inl (K 0, 64, .inl (fun _ => 0)))] := G
  refine lv_aload_n E.1 E.2.1 dX8_copyFrom_32 rfl (lv_at hl 1 rfl) ?_
  refine m_get E G 13 (ci := 8) rfl 4 (C := RX8) (T := TX8) (N := 10) rfl (by decide) mw_fl_8_24 (v := .ref e0) rfl dX8_copyFrom_33 ?_
  refine lv_iconst (v := 0) E.1 E.2.1 dX8_copyFrom_36 (by decide) ?_
  refine lv_aload_n E.1 E.2.1 dX8_copyFrom_37 rfl (lv_at hl 0 rfl) ?_
  refine m_get E G 0 (ci := 8) rfl 4 (C := RX8) (T := TX8) (N := 10) rfl (by decide) mw_fl_8_24 (v := .ref d0) rfl dX8_copyFrom_38 ?_
  refine lv_iconst (v := 0) E.1 E.2.1 dX8_copyFrom_41 (by decide) ?_
  refine lv_bipush (v := 8) E.1 E.2.1 dX8_copyFrom_42 (by decide) ?_
  refine m_copyi E G hl mw_ml_8_50 14 1 rfl rfl (by decide) (by decide) (by decide) (by decide) (by decide) (by decide) (Nat.le_of_ble_eq_true rfl) (by decide) dX8_copyFrom_44 (fun H locs G => ?_)
  obtain ⟨f_1, ef_1⟩ : ∃ f_1 : Nat → Int32, f_1 = (va_cpy (fun _ => 0) (fun _ => 0) (0 : Int32).toNatClampNeg (0 : Int32).toNatClampNeg (8 : Int32).toNatClampNeg) := ⟨_, rfl⟩
  have G : mG D A s H locs [(h0, .inr (8, [.int 0, .int 0, .int 0, .int 0, .ref d0, .ref d1, .ref d2, .ref d3, .ref d4, .ref d11])), (d0, .inl (K 0, 8, .inl f_1)), (d1, .inl (K 0, 6, .inl (fun _ => 0))), (d2, .inl (K 0, 6, .inl (fun _ => 0))), (d3, .inl (K 0, 5, .inl (fun _ => 0))), (d4, .inr (6, [.ref d5, .ref d6, .ref d7, .ref d8, .ref d9, .ref d10, .int 0, .int 0])), (d5, .inl (K 0, 5, .inl (fun _ => 0))), (d6, .inl (K 0, 5, .inl (fun _ => 0))), (d7, .inl (K 0, 5, .inl (fun _ => 0))), (d8, .inl (K 0, 5, .inl (fun _ => 0))), (d9, .inl (K 0, 6, .inl (fun _ => 0))), (d10, .inl (K 0, 6, .inl (fun _ => 0))), (d11, .inl (K 0, 64, .inl (fun _ => 0))), (h1, .inr (8, [.int 0, .int 0, .int 0, .int 0, .ref e0, .ref e1, .ref e2, .ref e3, .ref e4, .ref e11])), (e0, .inl (K 0, 8, .inl (fun _ => 0))), (e1, .inl (K 0, 6, .inl (fun _ => 0))), (e2, .inl (K 0, 6, .inl (fun _ => 0))), (e3, .inl (K 0, 5, .inl (fun _ => 0))), (e4, .inr (6, [.ref e5, .ref e6, .ref e7, .ref e8, .ref e9, .ref e10, .int 0, .int 0])), (e5, .inl (K 0, 5, .inl (fun _ => 0))), (e6, .inl (K 0, 5, .inl (fun _ => 0))), (e7, .inl (K 0, 5, .inl (fun _ => 0))), (e8, .inl (K 0, 5, .inl (fun _ => 0))), (e9, .inl (K 0, 6, .inl (fun _ => 0))), (e10, .inl (K 0, 6, .inl (fun _ => 0))), (e11, .inl (K 0, 64, .inl (fun _ => 0)))] := by subst ef_1; exact G
  clear ef_1
  refine lv_aload_n E.1 E.2.1 dX8_copyFrom_47 rfl (lv_at hl 1 rfl) ?_
  refine m_get E G 13 (ci := 8) rfl 5 (C := RX8) (T := TX8) (N := 10) rfl (by decide) mw_fl_8_28 (v := .ref e1) rfl dX8_copyFrom_48 ?_
  refine lv_iconst (v := 0) E.1 E.2.1 dX8_copyFrom_51 (by decide) ?_
  refine lv_aload_n E.1 E.2.1 dX8_copyFrom_52 rfl (lv_at hl 0 rfl) ?_
  refine m_get E G 0 (ci := 8) rfl 5 (C := RX8) (T := TX8) (N := 10) rfl (by decide) mw_fl_8_28 (v := .ref d1) rfl dX8_copyFrom_53 ?_
  refine lv_iconst (v := 0) E.1 E.2.1 dX8_copyFrom_56 (by decide) ?_
  refine lv_bipush (v := 6) E.1 E.2.1 dX8_copyFrom_57 (by decide) ?_
  refine m_copyi E G hl mw_ml_8_50 15 2 rfl rfl (by decide) (by decide) (by decide) (by decide) (by decide) (by decide) (Nat.le_of_ble_eq_true rfl) (by decide) dX8_copyFrom_59 (fun H locs G => ?_)
  obtain ⟨f_2, ef_2⟩ : ∃ f_2 : Nat → Int32, f_2 = (va_cpy (fun _ => 0) (fun _ => 0) (0 : Int32).toNatClampNeg (0 : Int32).toNatClampNeg (6 : Int32).toNatClampNeg) := ⟨_, rfl⟩
  have G : mG D A s H locs [(h0, .inr (8, [.int 0, .int 0, .int 0, .int 0, .ref d0, .ref d1, .ref d2, .ref d3, .ref d4, .ref d11])), (d0, .inl (K 0, 8, .inl f_1)), (d1, .inl (K 0, 6, .inl f_2)), (d2, .inl (K 0, 6, .inl (fun _ => 0))), (d3, .inl (K 0, 5, .inl (fun _ => 0))), (d4, .inr (6, [.ref d5, .ref d6, .ref d7, .ref d8, .ref d9, .ref d10, .int 0, .int 0])), (d5, .inl (K 0, 5, .inl (fun _ => 0))), (d6, .inl (K 0, 5, .inl (fun _ => 0))), (d7, .inl (K 0, 5, .inl (fun _ => 0))), (d8, .inl (K 0, 5, .inl (fun _ => 0))), (d9, .inl (K 0, 6, .inl (fun _ => 0))), (d10, .inl (K 0, 6, .inl (fun _ => 0))), (d11, .inl (K 0, 64, .inl (fun _ => 0))), (h1, .inr (8, [.int 0, .int 0, .int 0, .int 0, .ref e0, .ref e1, .ref e2, .ref e3, .ref e4, .ref e11])), (e0, .inl (K 0, 8, .inl (fun _ => 0))), (e1, .inl (K 0, 6, .inl (fun _ => 0))), (e2, .inl (K 0, 6, .inl (fun _ => 0))), (e3, .inl (K 0, 5, .inl (fun _ => 0))), (e4, .inr (6, [.ref e5, .ref e6, .ref e7, .ref e8, .ref e9, .ref e10, .int 0, .int 0])), (e5, .inl (K 0, 5, .inl (fun _ => 0))), (e6, .inl (K 0, 5, .inl (fun _ => 0))), (e7, .inl (K 0, 5, .inl (fun _ => 0))), (e8, .inl (K 0, 5, .inl (fun _ => 0))), (e9, .inl (K 0, 6, .inl (fun _ => 0))), (e10, .inl (K 0, 6, .inl (fun _ => 0))), (e11, .inl (K 0, 64, .inl (fun _ => 0)))] := by subst ef_2; exact G
  clear ef_2
  refine lv_aload_n E.1 E.2.1 dX8_copyFrom_62 rfl (lv_at hl 1 rfl) ?_
  refine m_get E G 13 (ci := 8) rfl 6 (C := RX8) (T := TX8) (N := 10) rfl (by decide) mw_fl_8_31 (v := .ref e2) rfl dX8_copyFrom_63 ?_
  refine lv_iconst (v := 0) E.1 E.2.1 dX8_copyFrom_66 (by decide) ?_
  refine lv_aload_n E.1 E.2.1 dX8_copyFrom_67 rfl (lv_at hl 0 rfl) ?_
  refine m_get E G 0 (ci := 8) rfl 6 (C := RX8) (T := TX8) (N := 10) rfl (by decide) mw_fl_8_31 (v := .ref d2) rfl dX8_copyFrom_68 ?_
  refine lv_iconst (v := 0) E.1 E.2.1 dX8_copyFrom_71 (by decide) ?_
  refine lv_bipush (v := 6) E.1 E.2.1 dX8_copyFrom_72 (by decide) ?_
  refine m_copyi E G hl mw_ml_8_50 16 3 rfl rfl (by decide) (by decide) (by decide) (by decide) (by decide) (by decide) (Nat.le_of_ble_eq_true rfl) (by decide) dX8_copyFrom_74 (fun H locs G => ?_)
  obtain ⟨f_3, ef_3⟩ : ∃ f_3 : Nat → Int32, f_3 = (va_cpy (fun _ => 0) (fun _ => 0) (0 : Int32).toNatClampNeg (0 : Int32).toNatClampNeg (6 : Int32).toNatClampNeg) := ⟨_, rfl⟩
  have G : mG D A s H locs [(h0, .inr (8, [.int 0, .int 0, .int 0, .int 0, .ref d0, .ref d1, .ref d2, .ref d3, .ref d4, .ref d11])), (d0, .inl (K 0, 8, .inl f_1)), (d1, .inl (K 0, 6, .inl f_2)), (d2, .inl (K 0, 6, .inl f_3)), (d3, .inl (K 0, 5, .inl (fun _ => 0))), (d4, .inr (6, [.ref d5, .ref d6, .ref d7, .ref d8, .ref d9, .ref d10, .int 0, .int 0])), (d5, .inl (K 0, 5, .inl (fun _ => 0))), (d6, .inl (K 0, 5, .inl (fun _ => 0))), (d7, .inl (K 0, 5, .inl (fun _ => 0))), (d8, .inl (K 0, 5, .inl (fun _ => 0))), (d9, .inl (K 0, 6, .inl (fun _ => 0))), (d10, .inl (K 0, 6, .inl (fun _ => 0))), (d11, .inl (K 0, 64, .inl (fun _ => 0))), (h1, .inr (8, [.int 0, .int 0, .int 0, .int 0, .ref e0, .ref e1, .ref e2, .ref e3, .ref e4, .ref e11])), (e0, .inl (K 0, 8, .inl (fun _ => 0))), (e1, .inl (K 0, 6, .inl (fun _ => 0))), (e2, .inl (K 0, 6, .inl (fun _ => 0))), (e3, .inl (K 0, 5, .inl (fun _ => 0))), (e4, .inr (6, [.ref e5, .ref e6, .ref e7, .ref e8, .ref e9, .ref e10, .int 0, .int 0])), (e5, .inl (K 0, 5, .inl (fun _ => 0))), (e6, .inl (K 0, 5, .inl (fun _ => 0))), (e7, .inl (K 0, 5, .inl (fun _ => 0))), (e8, .inl (K 0, 5, .inl (fun _ => 0))), (e9, .inl (K 0, 6, .inl (fun _ => 0))), (e10, .inl (K 0, 6, .inl (fun _ => 0))), (e11, .inl (K 0, 64, .inl (fun _ => 0)))] := by subst ef_3; exact G
  clear ef_3
  refine lv_aload_n E.1 E.2.1 dX8_copyFrom_77 rfl (lv_at hl 1 rfl) ?_
  refine m_get E G 13 (ci := 8) rfl 7 (C := RX8) (T := TX8) (N := 10) rfl (by decide) mw_fl_8_34 (v := .ref e3) rfl dX8_copyFrom_78 ?_
  refine lv_iconst (v := 0) E.1 E.2.1 dX8_copyFrom_81 (by decide) ?_
  refine lv_aload_n E.1 E.2.1 dX8_copyFrom_82 rfl (lv_at hl 0 rfl) ?_
  refine m_get E G 0 (ci := 8) rfl 7 (C := RX8) (T := TX8) (N := 10) rfl (by decide) mw_fl_8_34 (v := .ref d3) rfl dX8_copyFrom_83 ?_
  refine lv_iconst (v := 0) E.1 E.2.1 dX8_copyFrom_86 (by decide) ?_
  refine lv_iconst (v := 5) E.1 E.2.1 dX8_copyFrom_87 (by decide) ?_
  refine m_copyi E G hl mw_ml_8_50 17 4 rfl rfl (by decide) (by decide) (by decide) (by decide) (by decide) (by decide) (Nat.le_of_ble_eq_true rfl) (by decide) dX8_copyFrom_88 (fun H locs G => ?_)
  obtain ⟨f_4, ef_4⟩ : ∃ f_4 : Nat → Int32, f_4 = (va_cpy (fun _ => 0) (fun _ => 0) (0 : Int32).toNatClampNeg (0 : Int32).toNatClampNeg (5 : Int32).toNatClampNeg) := ⟨_, rfl⟩
  have G : mG D A s H locs [(h0, .inr (8, [.int 0, .int 0, .int 0, .int 0, .ref d0, .ref d1, .ref d2, .ref d3, .ref d4, .ref d11])), (d0, .inl (K 0, 8, .inl f_1)), (d1, .inl (K 0, 6, .inl f_2)), (d2, .inl (K 0, 6, .inl f_3)), (d3, .inl (K 0, 5, .inl f_4)), (d4, .inr (6, [.ref d5, .ref d6, .ref d7, .ref d8, .ref d9, .ref d10, .int 0, .int 0])), (d5, .inl (K 0, 5, .inl (fun _ => 0))), (d6, .inl (K 0, 5, .inl (fun _ => 0))), (d7, .inl (K 0, 5, .inl (fun _ => 0))), (d8, .inl (K 0, 5, .inl (fun _ => 0))), (d9, .inl (K 0, 6, .inl (fun _ => 0))), (d10, .inl (K 0, 6, .inl (fun _ => 0))), (d11, .inl (K 0, 64, .inl (fun _ => 0))), (h1, .inr (8, [.int 0, .int 0, .int 0, .int 0, .ref e0, .ref e1, .ref e2, .ref e3, .ref e4, .ref e11])), (e0, .inl (K 0, 8, .inl (fun _ => 0))), (e1, .inl (K 0, 6, .inl (fun _ => 0))), (e2, .inl (K 0, 6, .inl (fun _ => 0))), (e3, .inl (K 0, 5, .inl (fun _ => 0))), (e4, .inr (6, [.ref e5, .ref e6, .ref e7, .ref e8, .ref e9, .ref e10, .int 0, .int 0])), (e5, .inl (K 0, 5, .inl (fun _ => 0))), (e6, .inl (K 0, 5, .inl (fun _ => 0))), (e7, .inl (K 0, 5, .inl (fun _ => 0))), (e8, .inl (K 0, 5, .inl (fun _ => 0))), (e9, .inl (K 0, 6, .inl (fun _ => 0))), (e10, .inl (K 0, 6, .inl (fun _ => 0))), (e11, .inl (K 0, 64, .inl (fun _ => 0)))] := by subst ef_4; exact G
  clear ef_4
  refine lv_aload_n E.1 E.2.1 dX8_copyFrom_91 rfl (lv_at hl 1 rfl) ?_
  refine m_get E G 13 (ci := 8) rfl 9 (C := RX8) (T := TX8) (N := 10) rfl (by decide) mw_fl_8_44 (v := .ref e11) rfl dX8_copyFrom_92 ?_
  refine lv_iconst (v := 0) E.1 E.2.1 dX8_copyFrom_95 (by decide) ?_
  refine lv_aload_n E.1 E.2.1 dX8_copyFrom_96 rfl (lv_at hl 0 rfl) ?_
  refine m_get E G 0 (ci := 8) rfl 9 (C := RX8) (T := TX8) (N := 10) rfl (by decide) mw_fl_8_44 (v := .ref d11) rfl dX8_copyFrom_97 ?_
  refine lv_iconst (v := 0) E.1 E.2.1 dX8_copyFrom_100 (by decide) ?_
  refine lv_bipush (v := 64) E.1 E.2.1 dX8_copyFrom_101 (by decide) ?_
  refine m_copyi E G hl mw_ml_8_50 25 12 rfl rfl (by decide) (by decide) (by decide) (by decide) (by decide) (by decide) (Nat.le_of_ble_eq_true rfl) (by decide) dX8_copyFrom_103 (fun H locs G => ?_)
  obtain ⟨f_5, ef_5⟩ : ∃ f_5 : Nat → Int32, f_5 = (va_cpy (fun _ => 0) (fun _ => 0) (0 : Int32).toNatClampNeg (0 : Int32).toNatClampNeg (64 : Int32).toNatClampNeg) := ⟨_, rfl⟩
  have G : mG D A s H locs [(h0, .inr (8, [.int 0, .int 0, .int 0, .int 0, .ref d0, .ref d1, .ref d2, .ref d3, .ref d4, .ref d11])), (d0, .inl (K 0, 8, .inl f_1)), (d1, .inl (K 0, 6, .inl f_2)), (d2, .inl (K 0, 6, .inl f_3)), (d3, .inl (K 0, 5, .inl f_4)), (d4, .inr (6, [.ref d5, .ref d6, .ref d7, .ref d8, .ref d9, .ref d10, .int 0, .int 0])), (d5, .inl (K 0, 5, .inl (fun _ => 0))), (d6, .inl (K 0, 5, .inl (fun _ => 0))), (d7, .inl (K 0, 5, .inl (fun _ => 0))), (d8, .inl (K 0, 5, .inl (fun _ => 0))), (d9, .inl (K 0, 6, .inl (fun _ => 0))), (d10, .inl (K 0, 6, .inl (fun _ => 0))), (d11, .inl (K 0, 64, .inl f_5)), (h1, .inr (8, [.int 0, .int 0, .int 0, .int 0, .ref e0, .ref e1, .ref e2, .ref e3, .ref e4, .ref e11])), (e0, .inl (K 0, 8, .inl (fun _ => 0))), (e1, .inl (K 0, 6, .inl (fun _ => 0))), (e2, .inl (K 0, 6, .inl (fun _ => 0))), (e3, .inl (K 0, 5, .inl (fun _ => 0))), (e4, .inr (6, [.ref e5, .ref e6, .ref e7, .ref e8, .ref e9, .ref e10, .int 0, .int 0])), (e5, .inl (K 0, 5, .inl (fun _ => 0))), (e6, .inl (K 0, 5, .inl (fun _ => 0))), (e7, .inl (K 0, 5, .inl (fun _ => 0))), (e8, .inl (K 0, 5, .inl (fun _ => 0))), (e9, .inl (K 0, 6, .inl (fun _ => 0))), (e10, .inl (K 0, 6, .inl (fun _ => 0))), (e11, .inl (K 0, 64, .inl (fun _ => 0)))] := by subst ef_5; exact G
  clear ef_5
  refine lv_aload_n E.1 E.2.1 dX8_copyFrom_106 rfl (lv_at hl 0 rfl) ?_
  refine m_get E G 0 (ci := 8) rfl 8 (C := RX8) (T := TX8) (N := 10) rfl (by decide) mw_fl_8_40 (v := .ref d4) rfl dX8_copyFrom_107 ?_
  refine lv_aload_n E.1 E.2.1 dX8_copyFrom_110 rfl (lv_at hl 1 rfl) ?_
  refine m_get E G 13 (ci := 8) rfl 8 (C := RX8) (T := TX8) (N := 10) rfl (by decide) mw_fl_8_40 (v := .ref e4) rfl dX8_copyFrom_111 ?_
  refine m_vv E G hl (k_scopy l D K d4 e4 d5 d6 d7 d8 d9 d10 e5 e6 e7 e8 e9 e10) (wr := [(h0, .inr (8, [.int 0, .int 0, .int 0, .int 0, .ref d0, .ref d1, .ref d2, .ref d3, .ref d4, .ref d11])), (d0, .inl (K 0, 8, .inl f_1)), (d1, .inl (K 0, 6, .inl f_2)), (d2, .inl (K 0, 6, .inl f_3)), (d3, .inl (K 0, 5, .inl f_4)), (d11, .inl (K 0, 64, .inl f_5)), (h1, .inr (8, [.int 0, .int 0, .int 0, .int 0, .ref e0, .ref e1, .ref e2, .ref e3, .ref e4, .ref e11])), (e0, .inl (K 0, 8, .inl (fun _ => 0))), (e1, .inl (K 0, 6, .inl (fun _ => 0))), (e2, .inl (K 0, 6, .inl (fun _ => 0))), (e3, .inl (K 0, 5, .inl (fun _ => 0))), (e11, .inl (K 0, 64, .inl (fun _ => 0)))]) [5, 6, 7, 8, 9, 10, 11, 18, 19, 20, 21, 22, 23, 24] [0, 1, 2, 3, 4, 12, 13, 14, 15, 16, 17, 25] rfl rfl (by decide) (by decide) (by decide) 0 (ci := 6) rfl rfl rfl 1 rfl mw_code_X6_copyFrom mw_ini_6 mw_ml_8_56 mw_inst_X6_copyFrom mw_sel_X6_copyFrom hd_X6_copyFrom ⟨by decide, by decide⟩ rfl (Nat.le_of_ble_eq_true rfl) ⟨by decide, by decide⟩ dX8_copyFrom_114 (fun u_6 H locs hp G => ?_)
  have G : mG D A s H locs [(h0, .inr (8, [.int 0, .int 0, .int 0, .int 0, .ref d0, .ref d1, .ref d2, .ref d3, .ref d4, .ref d11])), (d0, .inl (K 0, 8, .inl f_1)), (d1, .inl (K 0, 6, .inl f_2)), (d2, .inl (K 0, 6, .inl f_3)), (d3, .inl (K 0, 5, .inl f_4)), (d11, .inl (K 0, 64, .inl f_5)), (h1, .inr (8, [.int 0, .int 0, .int 0, .int 0, .ref e0, .ref e1, .ref e2, .ref e3, .ref e4, .ref e11])), (e0, .inl (K 0, 8, .inl (fun _ => 0))), (e1, .inl (K 0, 6, .inl (fun _ => 0))), (e2, .inl (K 0, 6, .inl (fun _ => 0))), (e3, .inl (K 0, 5, .inl (fun _ => 0))), (e11, .inl (K 0, 64, .inl (fun _ => 0))), (e4, .inr (6, [.ref e5, .ref e6, .ref e7, .ref e8, .ref e9, .ref e10, .int 0, .int 0]))] := G
  exact m_retv E G hr (fun _ => 0, fun _ _ => 0, fun _ _ => none) trivial [] (by decide) rfl (by decide) (by decide) dX8_copyFrom_117
