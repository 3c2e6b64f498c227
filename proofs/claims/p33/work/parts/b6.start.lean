theorem mw_cl_L_10 : (Cond.classLink RL 10 RX11 : Cond) ∈ cw := cw_of (List.mem_append_right _ (List.mem_append_right _ (List.mem_append_right _ (List.mem_append_right _ (List.mem_append_right _ (List.mem_append_left _ (List.mem_of_getElem? (i := 101) (by decide +kernel)))))))) (by decide +kernel)
theorem mw_cl_L_7 : (Cond.classLink RL 7 RX10 : Cond) ∈ cw := cw_of (List.mem_append_right _ (List.mem_append_left _ (List.mem_of_getElem? (i := 21) (by decide +kernel)))) (by decide +kernel)
theorem mw_code_X10_init : (Cond.code yX10_init cX10_init 2 none : Cond) ∈ cw := cw_of (List.mem_append_right _ (List.mem_append_left _ (List.mem_of_getElem? (i := 25) rfl))) (by decide +kernel)
theorem mw_code_X11_init : (Cond.code yX11_init cX11_init 1 none : Cond) ∈ cw := cw_of (List.mem_append_right _ (List.mem_append_right _ (List.mem_append_right _ (List.mem_append_right _ (List.mem_append_right _ (List.mem_append_left _ (List.mem_of_getElem? (i := 105) rfl))))))) (by decide +kernel)
theorem mw_inst_X10_init : (Cond.instanceMethod yX10_init : Cond) ∈ cw := cw_of (List.mem_append_right _ (List.mem_append_left _ (List.mem_of_getElem? (i := 24) (by decide +kernel)))) (by decide +kernel)
theorem mw_inst_X11_init : (Cond.instanceMethod yX11_init : Cond) ∈ cw := cw_of (List.mem_append_right _ (List.mem_append_right _ (List.mem_append_right _ (List.mem_append_right _ (List.mem_append_right _ (List.mem_append_left _ (List.mem_of_getElem? (i := 104) (by decide +kernel)))))))) (by decide +kernel)
theorem mw_insta_10 : (Cond.instantiable RX10 17 : Cond) ∈ cw := cw_of (List.mem_append_right _ (List.mem_append_left _ (List.mem_of_getElem? (i := 22) (by decide +kernel)))) (by decide +kernel)
theorem mw_insta_11 : (Cond.instantiable RX11 37 : Cond) ∈ cw := cw_of (List.mem_append_right _ (List.mem_append_right _ (List.mem_append_right _ (List.mem_append_right _ (List.mem_append_right _ (List.mem_append_left _ (List.mem_of_getElem? (i := 102) (by decide +kernel)))))))) (by decide +kernel)
theorem mw_ml_L_12 : (Cond.methodLink RL 12 yX11_init : Cond) ∈ cw := cw_of (List.mem_append_right _ (List.mem_append_right _ (List.mem_append_right _ (List.mem_append_right _ (List.mem_append_right _ (List.mem_append_left _ (List.mem_of_getElem? (i := 103) (by decide +kernel)))))))) (by decide +kernel)
theorem mw_ml_L_9 : (Cond.methodLink RL 9 yX10_init : Cond) ∈ cw := cw_of (List.mem_append_right _ (List.mem_append_left _ (List.mem_of_getElem? (i := 23) (by decide +kernel)))) (by decide +kernel)
theorem dL_law_0 : decode code 0 = .ok (.new 7, 3) := by decide +kernel
theorem dL_law_3 : decode code 3 = .ok (.dup, 1) := by decide +kernel
theorem dL_law_4 : decode code 4 = .ok (.invokespecial 9, 3) := by decide +kernel
theorem dL_law_7 : decode code 7 = .ok (.astore_n 1, 1) := by decide +kernel
theorem dL_law_8 : decode code 8 = .ok (.new 10, 3) := by decide +kernel
theorem dL_law_11 : decode code 11 = .ok (.dup, 1) := by decide +kernel
theorem dL_law_12 : decode code 12 = .ok (.invokespecial 12, 3) := by decide +kernel
theorem dL_law_15 : decode code 15 = .ok (.astore_n 2, 1) := by decide +kernel
theorem dL_law_16 : decode code 16 = .ok (.iconst 0, 1) := by decide +kernel
theorem dL_law_17 : decode code 17 = .ok (.istore_n 3, 1) := by decide +kernel
theorem hd_X10_init : yX10_init.cls ≠ "java/lang/invoke/MethodHandle" ∧ yX10_init.cls ≠ "java/lang/invoke/VarHandle" ∧ (parseMethodDescriptor yX10_init.desc).map (fun d => d.parameters.length) = some 0 := ⟨by decide +kernel, by decide +kernel, by decide +kernel⟩
theorem hd_X11_init : yX11_init.cls ≠ "java/lang/invoke/MethodHandle" ∧ yX11_init.cls ≠ "java/lang/invoke/VarHandle" ∧ (parseMethodDescriptor yX11_init.desc).map (fun d => d.parameters.length) = some 0 := ⟨by decide +kernel, by decide +kernel, by decide +kernel⟩
set_option maxHeartbeats 8000000 in
set_option maxRecDepth 100000 in
theorem whole_start {p : Program} {e : Env} {s : State} {m : MethodId} {below : List Frame} {meth : Method} {c : Code} (l : Launch) {b L : Nat} {xs : Nat → Int32} (hL : L ≤ 3072) (C0 : lw_At p s m meth c b L xs) : W p l e room_1 s m #[Value.ref b] below meth c s.heap [] 0 0 (lw_Z below #[Value.ref b] s) (entryFrame m ([Value.ref b] : List Value).toArray 4) := by
  obtain ⟨hx, hb, hr, hml, hown, hts0, hX, hbl, hlocks, hgv⟩ := id C0
  have hts : ∀ w ∈ cw, w.before #[Value.ref b] s = true := fun w hw => hts0 w (List.mem_filter.mp hw).1
  obtain ⟨c0, iS0, hKn0⟩ := u_known (C := RX0) (T := TX0) (N := 3) (n := 3) hts i_X0 (hts _ mw_insta_0)
  obtain ⟨c1, iS1, hKn1⟩ := u_known (C := RX1) (T := TX1) (N := 6) (n := 6) hts i_X1 (hts _ mw_insta_1)
  obtain ⟨c2, iS2, hKn2⟩ := u_known (C := RX2) (T := TX2) (N := 5) (n := 5) hts i_X2 (hts _ mw_insta_2)
  obtain ⟨c3, iS3, hKn3⟩ := u_known (C := RX3) (T := TX3) (N := 4) (n := 4) hts i_X3 (hts _ mw_insta_3)
  obtain ⟨c4, iS4, hKn4⟩ := u_known (C := RX4) (T := TX4) (N := 6) (n := 6) hts i_X4 (hts _ mw_insta_4)
  obtain ⟨c5, iS5, hKn5⟩ := u_known (C := RX5) (T := TX5) (N := 9) (n := 9) hts i_X5 (hts _ mw_insta_5)
  obtain ⟨c6, iS6, hKn6⟩ := u_known (C := RX6) (T := TX6) (N := 8) (n := 8) hts i_X6 (hts _ mw_insta_6)
  obtain ⟨c7, iS7, hKn7⟩ := u_known (C := RX7) (T := TX7) (N := 7) (n := 7) hts i_X7 (hts _ mw_insta_7)
  obtain ⟨c8, iS8, hKn8⟩ := u_known (C := RX8) (T := TX8) (N := 10) (n := 10) hts i_X8 (hts _ mw_insta_8)
  obtain ⟨c9, iS9, hKn9⟩ := u_known (C := RX9) (T := TX9) (N := 3) (n := 3) hts i_X9 (hts _ mw_insta_9)
  obtain ⟨c10, iS10, hKn10⟩ := u_known (C := RX10) (T := TX10) (N := 17) (n := 17) hts i_X10 (hts _ mw_insta_10)
  obtain ⟨c11, iS11, hKn11⟩ := u_known (C := RX11) (T := TX11) (N := 37) (n := 37) hts i_X11 (hts _ mw_insta_11)
  obtain ⟨dC, dI, hKc⟩ : ∃ (dC : Nat → ClassId) (dI : Nat → Nat → Nat), ∀ (k : Nat) (q : vw_C), classes[k]? = some q → u_Kn s q.1 q.2.1 q.2.2 (dC k) (dI k) := by
    refine ⟨fun k => [c0, c1, c2, c3, c4, c5, c6, c7, c8, c9, c10, c11].getD k 0, fun k => ([iS0, iS1, iS2, iS3, iS4, iS5, iS6, iS7, iS8, iS9, iS10, iS11] : List (Nat → Nat)).getD k (fun _ => 0), ?_⟩
    intro k q hq
    match k, hq with
    | 0, hq => cases hq; exact hKn0
    | 1, hq => cases hq; exact hKn1
    | 2, hq => cases hq; exact hKn2
    | 3, hq => cases hq; exact hKn3
    | 4, hq => cases hq; exact hKn4
    | 5, hq => cases hq; exact hKn5
    | 6, hq => cases hq; exact hKn6
    | 7, hq => cases hq; exact hKn7
    | 8, hq => cases hq; exact hKn8
    | 9, hq => cases hq; exact hKn9
    | 10, hq => cases hq; exact hKn10
    | 11, hq => cases hq; exact hKn11
    | k + 12, hq => simp [classes] at hq
  obtain ⟨k0, hk0a, hk0b⟩ := arr_known (hts _ mw_aInt) (fun _ h => by cases h)
  obtain ⟨k1, hk1a, hk1b⟩ := arr_known (hts _ mw_aByte) (fun _ h => by cases h)
  obtain ⟨k2, hk2a, hk2b⟩ := arr_known (hts _ mw_aLong) (fun _ h => by cases h)
  obtain ⟨k3, hk3a, hk3b⟩ := arr_known (hts _ mw_aBool) (fun _ h => by cases h)
  obtain ⟨k4, hk4a, hk4b⟩ := arr_knownO (hts _ mw_ao_4)
  obtain ⟨k5, hk5a, hk5b⟩ := arr_knownO (hts _ mw_ao_2)
  obtain ⟨k6, hk6a, hk6b⟩ := arr_knownO (hts _ mw_ao_6)
  obtain ⟨A, hAe⟩ : ∃ A : Nat → Prop, A = (fun q : Nat => s.heap.size ≤ q) := ⟨_, rfl⟩
  have hA : ∀ a : Nat, a < s.heap.size → ¬ A a := by rw [hAe]; exact fun a h => Nat.not_le.mpr h
  have hbA : ¬ A b := hA b hbl
  have hge : ∀ q : Nat, A q → s.heap.size ≤ q := by rw [hAe]; exact fun _ h => h
  have fl := flat_of_before _ hgv
  obtain ⟨adK, adV, hS0, hE0⟩ := vk_Sof (args := #[Value.ref b]) (s := s) (N := 2) (tm := tmS) (len := sLen) (byt := sByt) (A := A) (by decide) (fun i hi => fl _ (st_ex i hi)) (fun i hi => fl _ (st_co i hi)) (fun i hi => fl _ (st_ar i hi)) (fun i hi => fl _ (st_le i hi)) (fun i hi j hj => fl _ (st_el i hi j hj)) (fun i j hi hj hij => by
    rcases (show i = 0 ∧ j = 1 ∨ i = 1 ∧ j = 0 by omega) with ⟨rfl, rfl⟩ | ⟨rfl, rfl⟩
    · exact Or.inl (fl _ st_ne)
    · exact Or.inr (fl _ st_ne)) hA
  obtain ⟨vF, hvF, hrF⟩ := Cond.isRef_spec (fl _ st_fm)
  obtain ⟨t0, a0, hkF⟩ : ∃ t a : Nat, (if t = 0 then Value.null else Value.ref a) = vF := by
    cases vF with
    | null => exact ⟨0, 0, rfl⟩
    | ref a => exact ⟨1, a, rfl⟩
    | _ => exact absurd hrF (by simp [Value.isRef])
  obtain ⟨K, hK, hKS, hKV, hKF⟩ : ∃ K : Nat → ClassId, va_K (dC, dI) classes (tyK K) s ∧ (∀ i, i < 2 → kS K i = adK i) ∧ (∀ i, i < 2 → kV K i = adV i) ∧ kF K = vF := by
    refine ⟨fun k => if k < 7 then [k0, k1, k2, k3, k4, k5, k6].getD k 0 else if k < 110 then adK (k - 100) else if k < 120 then adV (k - 110) else if k = 120 then t0 else a0, ⟨hKc, ?_⟩, ?_, ?_, ?_⟩
    · intro k q hq
      match k, hq with
      | 0, hq => cases hq; exact ⟨hk0a, hk0b⟩
      | 1, hq => cases hq; exact ⟨hk1a, hk1b⟩
      | 2, hq => cases hq; exact ⟨hk2a, hk2b⟩
      | 3, hq => cases hq; exact ⟨hk3a, hk3b⟩
      | 4, hq => cases hq; exact ⟨hk4a, hk4b⟩
      | 5, hq => cases hq; exact ⟨hk5a, hk5b⟩
      | 6, hq => cases hq; exact ⟨hk6a, hk6b⟩
      | k + 7, hq => simp [tyK] at hq
    · intro i hi
      show (if 100 + i < 7 then _ else if 100 + i < 110 then adK (100 + i - 100) else _) = adK i
      rw [if_neg (by omega), if_pos (by omega), Nat.add_sub_cancel_left]
    · intro i hi
      show (if 110 + i < 7 then _ else if 110 + i < 110 then _ else if 110 + i < 120 then adV (110 + i - 110) else _) = adV i
      rw [if_neg (by omega), if_neg (by omega), if_pos (by omega), Nat.add_sub_cancel_left]
    · exact hkF
  obtain ⟨D, hDD⟩ : ∃ D : va_G, D = (dC, dI) := ⟨_, rfl⟩
  rw [← hDD] at hK
  have hsP : sP K A s := ⟨vk_S_cg hS0 hKS hKV, vk_R.of (hts0 _ tb_s0) (by rw [hKS 0 (by decide)]; exact hE0 0 (by decide)), vk_R.of (hts0 _ tb_s1) (by rw [hKS 1 (by decide)]; exact hE0 1 (by decide)), va_Zof (hts0 _ tb_l0) (hts0 _ tb_i0) (va_eqi (fl _ st_cs)) hA, va_Zof (hts0 _ tb_l1) (hts0 _ tb_i1) (by rw [hKF]; exact hvF) hA⟩
  have E : mE p s m meth c code #[Value.ref b] 4 RL D K A := ⟨hx, hb, hml, hown, hts, hK, by rw [hAe]; exact fun _ h => h, hlocks, hsP⟩
  have G : mG D A s s.heap [] [] := ⟨fun k q h => by simp at h, ⟨fun i j p q h => by simp at h, fun k q h => by simp at h⟩, va_S.rf⟩
  have hl := lv_entry ([.ref b]) (n := 4) (Nat.le_of_ble_eq_true rfl)
  rw [lg_entry_eq]
  generalize (lg_sl ([.ref b]) ++ List.replicate (4 - (lg_sl ([.ref b])).length) Slot.unset).toArray = ls at hl ⊢
  have hl : lv_has ls 4 [(0, .ref b)] := hl
  obtain ⟨H, hH⟩ : ∃ H, H = s.heap := ⟨_, rfl⟩
  obtain ⟨locs, hlo⟩ : ∃ L : List Loc, L = [] := ⟨_, rfl⟩
  rw [← hH, ← hlo] at G
  rw [← hH, ← hlo]
  clear hH hlo
  refine m_new E G 10 (C := RX10) (T := TX10) (N := 17) rfl fr_X10 mw_cl_L_7 mw_insta_10 mw_ini_10 (by decide) (by decide) dL_law_0 (fun q0 H G => ?_)
  have G : mG D A s H locs ((q0, .inr (10, [.null, .null, .null, .null, .null, .int 0, .null, .null, .null, .int 0, .null, .null, .null, .null, .null, .null, .null])) :: []) := G
  refine lv_dup E.1 E.2.1 dL_law_3 rfl ?_
  refine n_ii E G hl (n_LT l D K q0) rfl mw_code_X10_init mw_ini_10 mw_ml_L_9 mw_inst_X10_init hd_X10_init ⟨by decide, by decide⟩ rfl (Nat.le_of_ble_eq_true rfl) ⟨by decide, by decide⟩ dL_law_4 (fun g0 H locs hpg0 G => ?_)
  have G : mG D A s H locs (Bk K 0 386 g0) := G
  refine lv_astore_n (lv' := [(1, .ref q0), (0, .ref b)]) E.1 E.2.1 dL_law_7 rfl hl (by decide) rfl (fun ls hl => ?_)
  refine m_new E G 11 (C := RX11) (T := TX11) (N := 37) rfl fr_X11 mw_cl_L_10 mw_insta_11 mw_ini_11 (by decide) (by decide) dL_law_8 (fun q1 H G => ?_)
  have G : mG D A s H locs ((q1, .inr (11, [.null, .int 0, .int 0, .null, .null, .null, .null, .null, .int 0, .int 0, .int 0, .int 0, .int 0, .int 0, .int 0, .null, .int 0, .null, .int 0, .null, .null, .int 0, .int 0, .null, .null, .null, .int 0, .null, .null, .null, .null, .null, .long 0, .null, .null, .null, .null])) :: Bk K 0 386 g0) := G.pm (pm_f _ _)
  refine lv_dup E.1 E.2.1 dL_law_11 rfl ?_
  refine n_ii E G hl (n_Model l D K q1) rfl mw_code_X11_init mw_ini_11 mw_ml_L_12 mw_inst_X11_init hd_X11_init ⟨by decide, by decide⟩ rfl (Nat.le_of_ble_eq_true rfl) ⟨by decide, by decide⟩ dL_law_12 (fun g1 H locs hpg1 G => ?_)
  have G : mG D A s H locs (Bk K 0 386 g0 ++ Bk K 386 23 g1) := G
  refine lv_astore_n (lv' := [(2, .ref q1), (1, .ref q0), (0, .ref b)]) E.1 E.2.1 dL_law_15 rfl hl (by decide) rfl (fun ls hl => ?_)
  refine lv_iconst (v := 0) E.1 E.2.1 dL_law_16 (by decide) ?_
  refine lv_istore_n (lv' := [(3, .int 0), (2, .ref q1), (1, .ref q0), (0, .ref b)]) E.1 E.2.1 dL_law_17 rfl hl (by decide) rfl (fun ls hl => ?_)
  refine W.widen (k := 600000) (n := 7302250) (by decide) (by decide) ?_
  obtain ⟨ad, h1, h2⟩ : ∃ ad : Nat → Nat, (∀ i, i < 386 → g0 (0 + i) = ad (0 + i)) ∧ (∀ i, i < 23 → g1 (386 + i) = ad (386 + i)) := ⟨fun j => if j < 386 then g0 j else g1 j, fun i hi => (if_pos (by omega)).symm, fun i hi => (if_neg (by omega)).symm⟩
  have b1 : Bk K 0 386 g0 = Bk K 0 386 ad := Bk_cc 0 386 (by decide +kernel) h1
  have b2 : Bk K 386 23 g1 = Bk K 386 23 ad := Bk_cc 386 23 (by decide +kernel) h2
  have b3 : Bk K 0 409 ad = Bk K 0 386 ad ++ Bk K 386 23 ad := Bk_split 0 386 23
  rw [b1, b2, ← b3] at G
  have G := mG_wd G
  have e0 : q0 = ad 0 := hpg0.symm.trans (h1 0 (by decide))
  have e1 : q1 = ad 386 := hpg1.symm.trans (h2 0 (by decide))
  rw [e0, e1] at hl
  exact law_loop l hL E hX hbl hbA hr hge 3073 Z0 0 H locs ls G jj_Z0 (by decide) (by have e : (0 : Int32).toInt = 0 := (by decide); omega) hl
