theorem dX7_append_0 : decode cX7_append 0 = .ok (.bipush 24, 2) := by decide +kernel
theorem dX7_append_2 : decode cX7_append 2 = .ok (.istore_n 2, 1) := by decide +kernel
theorem dX7_append_3 : decode cX7_append 3 = .ok (.iload_n 2, 1) := by decide +kernel
theorem dX7_append_4 : decode cX7_append 4 = .ok (.ifCond .lt 42, 3) := by decide +kernel
theorem dX7_append_7 : decode cX7_append 7 = .ok (.aload_n 0, 1) := by decide +kernel
theorem dX7_append_8 : decode cX7_append 8 = .ok (.getfield 15, 3) := by decide +kernel
theorem dX7_append_11 : decode cX7_append 11 = .ok (.sipush 400, 3) := by decide +kernel
theorem dX7_append_14 : decode cX7_append 14 = .ok (.if_icmp .ge 26, 3) := by decide +kernel
theorem dX7_append_17 : decode cX7_append 17 = .ok (.aload_n 0, 1) := by decide +kernel
theorem dX7_append_18 : decode cX7_append 18 = .ok (.getfield 9, 3) := by decide +kernel
theorem dX7_append_21 : decode cX7_append 21 = .ok (.aload_n 0, 1) := by decide +kernel
theorem dX7_append_22 : decode cX7_append 22 = .ok (.getfield 15, 3) := by decide +kernel
theorem dX7_append_25 : decode cX7_append 25 = .ok (.iload_n 1, 1) := by decide +kernel
theorem dX7_append_26 : decode cX7_append 26 = .ok (.iload_n 2, 1) := by decide +kernel
theorem dX7_append_27 : decode cX7_append 27 = .ok (.ishr, 1) := by decide +kernel
theorem dX7_append_28 : decode cX7_append 28 = .ok (.i2b, 1) := by decide +kernel
theorem dX7_append_29 : decode cX7_append 29 = .ok (.bastore, 1) := by decide +kernel
theorem dX7_append_30 : decode cX7_append 30 = .ok (.aload_n 0, 1) := by decide +kernel
theorem dX7_append_31 : decode cX7_append 31 = .ok (.dup, 1) := by decide +kernel
theorem dX7_append_32 : decode cX7_append 32 = .ok (.getfield 15, 3) := by decide +kernel
theorem dX7_append_35 : decode cX7_append 35 = .ok (.iconst 1, 1) := by decide +kernel
theorem dX7_append_36 : decode cX7_append 36 = .ok (.iadd, 1) := by decide +kernel
theorem dX7_append_37 : decode cX7_append 37 = .ok (.putfield 15, 3) := by decide +kernel
theorem dX7_append_40 : decode cX7_append 40 = .ok (.iinc 2 (-8), 3) := by decide +kernel
theorem dX7_append_43 : decode cX7_append 43 = .ok (.goto (-40), 3) := by decide +kernel
theorem dX7_append_46 : decode cX7_append 46 = .ok (.return_, 1) := by decide +kernel
set_option maxHeartbeats 4000000 in
set_option maxRecDepth 100000 in
theorem k_append_0 (l : Launch) (D : va_G) (K : Nat → ClassId) (tp : Nat) (bt : Nat) (f0 : Nat → Int32) (p1 : Int32) : mV (S := mU) l yX7_append cX7_append 3 ({ frames := 0, cells := 0, slots := 0, locals := 0 }) D K [(tp, .inr (7, [.ref bt, .int 0, .int 0, .int 40, .int 0, .int 0, .int 0])), (bt, .inl (K 1, 400, .inl f0))] [.ref tp, .int p1] (fun u => True) (fun u => [(tp, .inr (7, [.ref bt, .int 4, .int 0, .int 40, .int 0, .int 0, .int 0])), (bt, .inl (K 1, 400, .inl (u.2.1 0)))]) := by
  refine m_enterV (by decide) (Nat.le_of_ble_eq_true rfl) ?_
  intro p e s m args below meth c A ls E hr hN G hl
  have E : mE p s m meth c cX7_append args 3 RX7 D K A := E
  have hl : lv_has ls 3 [(0, .ref tp), (1, .int p1)] := hl
  obtain ⟨H, hH⟩ : ∃ H, H = s.heap := ⟨_, rfl⟩
  obtain ⟨locs, hlo⟩ : ∃ L : List Loc, L = [] := ⟨_, rfl⟩
  rw [← hH, ← hlo] at G
  rw [← hH, ← hlo]
  have G : mG D A s H locs [(tp, .inr (7, [.ref bt, .int 0, .int 0, .int 40, .int 0, .int 0, .int 0])), (bt, .inl (K 1, 400, .inl f0))] := G
  clear hH hlo
  refine lv_bipush (v := 24) E.1 E.2.1 dX7_append_0 (by decide) ?_
  refine lv_istore_n (lv' := [(2, .int 24), (0, .ref tp), (1, .int p1)]) E.1 E.2.1 dX7_append_2 rfl hl (by decide) rfl (fun ls hl => ?_)
  refine lv_iload_n E.1 E.2.1 dX7_append_3 rfl (lv_at hl 0 rfl) ?_
  refine lv_if_lt (tgt := 46) E.1 E.2.1 dX7_append_4 (by decide) (fun h => absurd h (by decide)) (fun _ => ?_)
  refine lv_aload_n E.1 E.2.1 dX7_append_7 rfl (lv_at hl 1 rfl) ?_
  refine m_get E G 0 (ci := 7) rfl 1 (C := RX7) (T := TX7) (N := 7) rfl (by decide) mw_fl_7_15 (v := .int 0) rfl dX7_append_8 ?_
  refine lv_sipush (v := 400) E.1 E.2.1 dX7_append_11 (by decide) ?_
  refine lv_icmp_ge (tgt := 40) E.1 E.2.1 dX7_append_14 (by decide) (fun h => absurd h (by decide)) (fun _ => ?_)
  refine lv_aload_n E.1 E.2.1 dX7_append_17 rfl (lv_at hl 1 rfl) ?_
  refine m_get E G 0 (ci := 7) rfl 0 (C := RX7) (T := TX7) (N := 7) rfl (by decide) mw_fl_7_9 (v := .ref bt) rfl dX7_append_18 ?_
  refine lv_aload_n E.1 E.2.1 dX7_append_21 rfl (lv_at hl 1 rfl) ?_
  refine m_get E G 0 (ci := 7) rfl 1 (C := RX7) (T := TX7) (N := 7) rfl (by decide) mw_fl_7_15 (v := .int 0) rfl dX7_append_22 ?_
  refine lv_iload_n E.1 E.2.1 dX7_append_25 rfl (lv_at hl 2 rfl) ?_
  refine lv_iload_n E.1 E.2.1 dX7_append_26 rfl (lv_at hl 0 rfl) ?_
  refine lv_ishr E.1 E.2.1 dX7_append_27 ?_
  refine lv_i2b E.1 E.2.1 dX7_append_28 rfl ?_
  refine m_bast E G 1 rfl (by unfold vp_in; decide) dX7_append_29 (fun H locs G => ?_)
  obtain ⟨f_1, ef_1⟩ : ∃ f_1 : Nat → Int32, f_1 = (upd f0 (0 : Int32).toNatClampNeg (vp_nar .byte ((p1 >>> ((24 : Int32) &&& 31)).toInt8.toInt32))) := ⟨_, rfl⟩
  have G : mG D A s H locs [(tp, .inr (7, [.ref bt, .int 0, .int 0, .int 40, .int 0, .int 0, .int 0])), (bt, .inl (K 1, 400, .inl f_1))] := by subst ef_1; exact G
  clear ef_1
  refine lv_aload_n E.1 E.2.1 dX7_append_30 rfl (lv_at hl 1 rfl) ?_
  refine lv_dup E.1 E.2.1 dX7_append_31 rfl ?_
  refine m_get E G 0 (ci := 7) rfl 1 (C := RX7) (T := TX7) (N := 7) rfl (by decide) mw_fl_7_15 (v := .int 0) rfl dX7_append_32 ?_
  refine lv_iconst (v := 1) E.1 E.2.1 dX7_append_35 (by decide) ?_
  refine lv_iadd E.1 E.2.1 dX7_append_36 ?_
  refine m_ci 1 (by decide) ?_
  refine m_put E G 0 (ci := 7) rfl 1 (C := RX7) (T := TX7) (N := 7) rfl (by decide) mw_fl_7_15 rfl rfl rfl (Nat.le_of_ble_eq_true rfl) dX7_append_37 (fun H locs G => ?_)
  have G : mG D A s H locs [(tp, .inr (7, [.ref bt, .int 1, .int 0, .int 40, .int 0, .int 0, .int 0])), (bt, .inl (K 1, 400, .inl f_1))] := G
  refine lv_iinc (v := 16) (lv' := [(2, .int 16), (0, .ref tp), (1, .int p1)]) E.1 E.2.1 dX7_append_40 hl (k := 0) rfl (by decide) (by decide) rfl (fun ls hl => ?_)
  refine lv_goto (tgt := 3) E.1 E.2.1 dX7_append_43 (by decide) ?_
  refine lv_iload_n E.1 E.2.1 dX7_append_3 rfl (lv_at hl 0 rfl) ?_
  refine lv_if_lt (tgt := 46) E.1 E.2.1 dX7_append_4 (by decide) (fun h => absurd h (by decide)) (fun _ => ?_)
  refine lv_aload_n E.1 E.2.1 dX7_append_7 rfl (lv_at hl 1 rfl) ?_
  refine m_get E G 0 (ci := 7) rfl 1 (C := RX7) (T := TX7) (N := 7) rfl (by decide) mw_fl_7_15 (v := .int 1) rfl dX7_append_8 ?_
  refine lv_sipush (v := 400) E.1 E.2.1 dX7_append_11 (by decide) ?_
  refine lv_icmp_ge (tgt := 40) E.1 E.2.1 dX7_append_14 (by decide) (fun h => absurd h (by decide)) (fun _ => ?_)
  refine lv_aload_n E.1 E.2.1 dX7_append_17 rfl (lv_at hl 1 rfl) ?_
  refine m_get E G 0 (ci := 7) rfl 0 (C := RX7) (T := TX7) (N := 7) rfl (by decide) mw_fl_7_9 (v := .ref bt) rfl dX7_append_18 ?_
  refine lv_aload_n E.1 E.2.1 dX7_append_21 rfl (lv_at hl 1 rfl) ?_
  refine m_get E G 0 (ci := 7) rfl 1 (C := RX7) (T := TX7) (N := 7) rfl (by decide) mw_fl_7_15 (v := .int 1) rfl dX7_append_22 ?_
  refine lv_iload_n E.1 E.2.1 dX7_append_25 rfl (lv_at hl 2 rfl) ?_
  refine lv_iload_n E.1 E.2.1 dX7_append_26 rfl (lv_at hl 0 rfl) ?_
  refine lv_ishr E.1 E.2.1 dX7_append_27 ?_
  refine lv_i2b E.1 E.2.1 dX7_append_28 rfl ?_
  refine m_bast E G 1 rfl (by unfold vp_in; decide) dX7_append_29 (fun H locs G => ?_)
  obtain ⟨f_2, ef_2⟩ : ∃ f_2 : Nat → Int32, f_2 = (upd f_1 (1 : Int32).toNatClampNeg (vp_nar .byte ((p1 >>> ((16 : Int32) &&& 31)).toInt8.toInt32))) := ⟨_, rfl⟩
  have G : mG D A s H locs [(tp, .inr (7, [.ref bt, .int 1, .int 0, .int 40, .int 0, .int 0, .int 0])), (bt, .inl (K 1, 400, .inl f_2))] := by subst ef_2; exact G
  clear ef_2
  refine lv_aload_n E.1 E.2.1 dX7_append_30 rfl (lv_at hl 1 rfl) ?_
  refine lv_dup E.1 E.2.1 dX7_append_31 rfl ?_
  refine m_get E G 0 (ci := 7) rfl 1 (C := RX7) (T := TX7) (N := 7) rfl (by decide) mw_fl_7_15 (v := .int 1) rfl dX7_append_32 ?_
  refine lv_iconst (v := 1) E.1 E.2.1 dX7_append_35 (by decide) ?_
  refine lv_iadd E.1 E.2.1 dX7_append_36 ?_
  refine m_ci 2 (by decide) ?_
  refine m_put E G 0 (ci := 7) rfl 1 (C := RX7) (T := TX7) (N := 7) rfl (by decide) mw_fl_7_15 rfl rfl rfl (Nat.le_of_ble_eq_true rfl) dX7_append_37 (fun H locs G => ?_)
  have G : mG D A s H locs [(tp, .inr (7, [.ref bt, .int 2, .int 0, .int 40, .int 0, .int 0, .int 0])), (bt, .inl (K 1, 400, .inl f_2))] := G
  refine lv_iinc (v := 8) (lv' := [(2, .int 8), (0, .ref tp), (1, .int p1)]) E.1 E.2.1 dX7_append_40 hl (k := 0) rfl (by decide) (by decide) rfl (fun ls hl => ?_)
  refine lv_goto (tgt := 3) E.1 E.2.1 dX7_append_43 (by decide) ?_
  refine lv_iload_n E.1 E.2.1 dX7_append_3 rfl (lv_at hl 0 rfl) ?_
  refine lv_if_lt (tgt := 46) E.1 E.2.1 dX7_append_4 (by decide) (fun h => absurd h (by decide)) (fun _ => ?_)
  refine lv_aload_n E.1 E.2.1 dX7_append_7 rfl (lv_at hl 1 rfl) ?_
  refine m_get E G 0 (ci := 7) rfl 1 (C := RX7) (T := TX7) (N := 7) rfl (by decide) mw_fl_7_15 (v := .int 2) rfl dX7_append_8 ?_
  refine lv_sipush (v := 400) E.1 E.2.1 dX7_append_11 (by decide) ?_
  refine lv_icmp_ge (tgt := 40) E.1 E.2.1 dX7_append_14 (by decide) (fun h => absurd h (by decide)) (fun _ => ?_)
  refine lv_aload_n E.1 E.2.1 dX7_append_17 rfl (lv_at hl 1 rfl) ?_
  refine m_get E G 0 (ci := 7) rfl 0 (C := RX7) (T := TX7) (N := 7) rfl (by decide) mw_fl_7_9 (v := .ref bt) rfl dX7_append_18 ?_
  refine lv_aload_n E.1 E.2.1 dX7_append_21 rfl (lv_at hl 1 rfl) ?_
  refine m_get E G 0 (ci := 7) rfl 1 (C := RX7) (T := TX7) (N := 7) rfl (by decide) mw_fl_7_15 (v := .int 2) rfl dX7_append_22 ?_
  refine lv_iload_n E.1 E.2.1 dX7_append_25 rfl (lv_at hl 2 rfl) ?_
  refine lv_iload_n E.1 E.2.1 dX7_append_26 rfl (lv_at hl 0 rfl) ?_
  refine lv_ishr E.1 E.2.1 dX7_append_27 ?_
  refine lv_i2b E.1 E.2.1 dX7_append_28 rfl ?_
  refine m_bast E G 1 rfl (by unfold vp_in; decide) dX7_append_29 (fun H locs G => ?_)
  obtain ⟨f_3, ef_3⟩ : ∃ f_3 : Nat → Int32, f_3 = (upd f_2 (2 : Int32).toNatClampNeg (vp_nar .byte ((p1 >>> ((8 : Int32) &&& 31)).toInt8.toInt32))) := ⟨_, rfl⟩
  have G : mG D A s H locs [(tp, .inr (7, [.ref bt, .int 2, .int 0, .int 40, .int 0, .int 0, .int 0])), (bt, .inl (K 1, 400, .inl f_3))] := by subst ef_3; exact G
  clear ef_3
  refine lv_aload_n E.1 E.2.1 dX7_append_30 rfl (lv_at hl 1 rfl) ?_
  refine lv_dup E.1 E.2.1 dX7_append_31 rfl ?_
  refine m_get E G 0 (ci := 7) rfl 1 (C := RX7) (T := TX7) (N := 7) rfl (by decide) mw_fl_7_15 (v := .int 2) rfl dX7_append_32 ?_
  refine lv_iconst (v := 1) E.1 E.2.1 dX7_append_35 (by decide) ?_
  refine lv_iadd E.1 E.2.1 dX7_append_36 ?_
  refine m_ci 3 (by decide) ?_
  refine m_put E G 0 (ci := 7) rfl 1 (C := RX7) (T := TX7) (N := 7) rfl (by decide) mw_fl_7_15 rfl rfl rfl (Nat.le_of_ble_eq_true rfl) dX7_append_37 (fun H locs G => ?_)
  have G : mG D A s H locs [(tp, .inr (7, [.ref bt, .int 3, .int 0, .int 40, .int 0, .int 0, .int 0])), (bt, .inl (K 1, 400, .inl f_3))] := G
  refine lv_iinc (v := 0) (lv' := [(2, .int 0), (0, .ref tp), (1, .int p1)]) E.1 E.2.1 dX7_append_40 hl (k := 0) rfl (by decide) (by decide) rfl (fun ls hl => ?_)
  refine lv_goto (tgt := 3) E.1 E.2.1 dX7_append_43 (by decide) ?_
  refine lv_iload_n E.1 E.2.1 dX7_append_3 rfl (lv_at hl 0 rfl) ?_
  refine lv_if_lt (tgt := 46) E.1 E.2.1 dX7_append_4 (by decide) (fun h => absurd h (by decide)) (fun _ => ?_)
  refine lv_aload_n E.1 E.2.1 dX7_append_7 rfl (lv_at hl 1 rfl) ?_
  refine m_get E G 0 (ci := 7) rfl 1 (C := RX7) (T := TX7) (N := 7) rfl (by decide) mw_fl_7_15 (v := .int 3) rfl dX7_append_8 ?_
  refine lv_sipush (v := 400) E.1 E.2.1 dX7_append_11 (by decide) ?_
  refine lv_icmp_ge (tgt := 40) E.1 E.2.1 dX7_append_14 (by decide) (fun h => absurd h (by decide)) (fun _ => ?_)
  refine lv_aload_n E.1 E.2.1 dX7_append_17 rfl (lv_at hl 1 rfl) ?_
  refine m_get E G 0 (ci := 7) rfl 0 (C := RX7) (T := TX7) (N := 7) rfl (by decide) mw_fl_7_9 (v := .ref bt) rfl dX7_append_18 ?_
  refine lv_aload_n E.1 E.2.1 dX7_append_21 rfl (lv_at hl 1 rfl) ?_
  refine m_get E G 0 (ci := 7) rfl 1 (C := RX7) (T := TX7) (N := 7) rfl (by decide) mw_fl_7_15 (v := .int 3) rfl dX7_append_22 ?_
  refine lv_iload_n E.1 E.2.1 dX7_append_25 rfl (lv_at hl 2 rfl) ?_
  refine lv_iload_n E.1 E.2.1 dX7_append_26 rfl (lv_at hl 0 rfl) ?_
  refine lv_ishr E.1 E.2.1 dX7_append_27 ?_
  refine lv_i2b E.1 E.2.1 dX7_append_28 rfl ?_
  refine m_bast E G 1 rfl (by unfold vp_in; decide) dX7_append_29 (fun H locs G => ?_)
  obtain ⟨f_4, ef_4⟩ : ∃ f_4 : Nat → Int32, f_4 = (upd f_3 (3 : Int32).toNatClampNeg (vp_nar .byte ((p1 >>> ((0 : Int32) &&& 31)).toInt8.toInt32))) := ⟨_, rfl⟩
  have G : mG D A s H locs [(tp, .inr (7, [.ref bt, .int 3, .int 0, .int 40, .int 0, .int 0, .int 0])), (bt, .inl (K 1, 400, .inl f_4))] := by subst ef_4; exact G
  clear ef_4
  refine lv_aload_n E.1 E.2.1 dX7_append_30 rfl (lv_at hl 1 rfl) ?_
  refine lv_dup E.1 E.2.1 dX7_append_31 rfl ?_
  refine m_get E G 0 (ci := 7) rfl 1 (C := RX7) (T := TX7) (N := 7) rfl (by decide) mw_fl_7_15 (v := .int 3) rfl dX7_append_32 ?_
  refine lv_iconst (v := 1) E.1 E.2.1 dX7_append_35 (by decide) ?_
  refine lv_iadd E.1 E.2.1 dX7_append_36 ?_
  refine m_ci 4 (by decide) ?_
  refine m_put E G 0 (ci := 7) rfl 1 (C := RX7) (T := TX7) (N := 7) rfl (by decide) mw_fl_7_15 rfl rfl rfl (Nat.le_of_ble_eq_true rfl) dX7_append_37 (fun H locs G => ?_)
  have G : mG D A s H locs [(tp, .inr (7, [.ref bt, .int 4, .int 0, .int 40, .int 0, .int 0, .int 0])), (bt, .inl (K 1, 400, .inl f_4))] := G
  refine lv_iinc (v := (-8)) (lv' := [(2, .int (-8)), (0, .ref tp), (1, .int p1)]) E.1 E.2.1 dX7_append_40 hl (k := 0) rfl (by decide) (by decide) rfl (fun ls hl => ?_)
  refine lv_goto (tgt := 3) E.1 E.2.1 dX7_append_43 (by decide) ?_
  refine lv_iload_n E.1 E.2.1 dX7_append_3 rfl (lv_at hl 0 rfl) ?_
  refine lv_if_lt (tgt := 46) E.1 E.2.1 dX7_append_4 (by decide) (fun _ => ?_) (fun h => absurd (by decide) h)
  exact m_retv E G hr (fun _ => 0, fun k => ([f_4] : List (Nat → Int32)).getD k (fun _ => 0), fun _ _ => none) trivial [0, 1] (by decide) rfl (by decide) (by decide) dX7_append_46
set_option maxHeartbeats 4000000 in
set_option maxRecDepth 100000 in
theorem k_append_4 (l : Launch) (D : va_G) (K : Nat → ClassId) (tp : Nat) (bt : Nat) (f0 : Nat → Int32) (p1 : Int32) : mV (S := mU) l yX7_append cX7_append 3 ({ frames := 0, cells := 0, slots := 0, locals := 0 }) D K [(tp, .inr (7, [.ref bt, .int 4, .int 0, .int 40, .int 0, .int 0, .int 0])), (bt, .inl (K 1, 400, .inl f0))] [.ref tp, .int p1] (fun u => True) (fun u => [(tp, .inr (7, [.ref bt, .int 8, .int 0, .int 40, .int 0, .int 0, .int 0])), (bt, .inl (K 1, 400, .inl (u.2.1 0)))]) := by
  refine m_enterV (by decide) (Nat.le_of_ble_eq_true rfl) ?_
  intro p e s m args below meth c A ls E hr hN G hl
  have E : mE p s m meth c cX7_append args 3 RX7 D K A := E
  have hl : lv_has ls 3 [(0, .ref tp), (1, .int p1)] := hl
  obtain ⟨H, hH⟩ : ∃ H, H = s.heap := ⟨_, rfl⟩
  obtain ⟨locs, hlo⟩ : ∃ L : List Loc, L = [] := ⟨_, rfl⟩
  rw [← hH, ← hlo] at G
  rw [← hH, ← hlo]
  have G : mG D A s H locs [(tp, .inr (7, [.ref bt, .int 4, .int 0, .int 40, .int 0, .int 0, .int 0])), (bt, .inl (K 1, 400, .inl f0))] := G
  clear hH hlo
  refine lv_bipush (v := 24) E.1 E.2.1 dX7_append_0 (by decide) ?_
  refine lv_istore_n (lv' := [(2, .int 24), (0, .ref tp), (1, .int p1)]) E.1 E.2.1 dX7_append_2 rfl hl (by decide) rfl (fun ls hl => ?_)
  refine lv_iload_n E.1 E.2.1 dX7_append_3 rfl (lv_at hl 0 rfl) ?_
  refine lv_if_lt (tgt := 46) E.1 E.2.1 dX7_append_4 (by decide) (fun h => absurd h (by decide)) (fun _ => ?_)
  refine lv_aload_n E.1 E.2.1 dX7_append_7 rfl (lv_at hl 1 rfl) ?_
  refine m_get E G 0 (ci := 7) rfl 1 (C := RX7) (T := TX7) (N := 7) rfl (by decide) mw_fl_7_15 (v := .int 4) rfl dX7_append_8 ?_
  refine lv_sipush (v := 400) E.1 E.2.1 dX7_append_11 (by decide) ?_
  refine lv_icmp_ge (tgt := 40) E.1 E.2.1 dX7_append_14 (by decide) (fun h => absurd h (by decide)) (fun _ => ?_)
  refine lv_aload_n E.1 E.2.1 dX7_append_17 rfl (lv_at hl 1 rfl) ?_
  refine m_get E G 0 (ci := 7) rfl 0 (C := RX7) (T := TX7) (N := 7) rfl (by decide) mw_fl_7_9 (v := .ref bt) rfl dX7_append_18 ?_
  refine lv_aload_n E.1 E.2.1 dX7_append_21 rfl (lv_at hl 1 rfl) ?_
  refine m_get E G 0 (ci := 7) rfl 1 (C := RX7) (T := TX7) (N := 7) rfl (by decide) mw_fl_7_15 (v := .int 4) rfl dX7_append_22 ?_
  refine lv_iload_n E.1 E.2.1 dX7_append_25 rfl (lv_at hl 2 rfl) ?_
  refine lv_iload_n E.1 E.2.1 dX7_append_26 rfl (lv_at hl 0 rfl) ?_
  refine lv_ishr E.1 E.2.1 dX7_append_27 ?_
  refine lv_i2b E.1 E.2.1 dX7_append_28 rfl ?_
  refine m_bast E G 1 rfl (by unfold vp_in; decide) dX7_append_29 (fun H locs G => ?_)
  obtain ⟨f_1, ef_1⟩ : ∃ f_1 : Nat → Int32, f_1 = (upd f0 (4 : Int32).toNatClampNeg (vp_nar .byte ((p1 >>> ((24 : Int32) &&& 31)).toInt8.toInt32))) := ⟨_, rfl⟩
  have G : mG D A s H locs [(tp, .inr (7, [.ref bt, .int 4, .int 0, .int 40, .int 0, .int 0, .int 0])), (bt, .inl (K 1, 400, .inl f_1))] := by subst ef_1; exact G
  clear ef_1
  refine lv_aload_n E.1 E.2.1 dX7_append_30 rfl (lv_at hl 1 rfl) ?_
  refine lv_dup E.1 E.2.1 dX7_append_31 rfl ?_
  refine m_get E G 0 (ci := 7) rfl 1 (C := RX7) (T := TX7) (N := 7) rfl (by decide) mw_fl_7_15 (v := .int 4) rfl dX7_append_32 ?_
  refine lv_iconst (v := 1) E.1 E.2.1 dX7_append_35 (by decide) ?_
  refine lv_iadd E.1 E.2.1 dX7_append_36 ?_
  refine m_ci 5 (by decide) ?_
  refine m_put E G 0 (ci := 7) rfl 1 (C := RX7) (T := TX7) (N := 7) rfl (by decide) mw_fl_7_15 rfl rfl rfl (Nat.le_of_ble_eq_true rfl) dX7_append_37 (fun H locs G => ?_)
  have G : mG D A s H locs [(tp, .inr (7, [.ref bt, .int 5, .int 0, .int 40, .int 0, .int 0, .int 0])), (bt, .inl (K 1, 400, .inl f_1))] := G
  refine lv_iinc (v := 16) (lv' := [(2, .int 16), (0, .ref tp), (1, .int p1)]) E.1 E.2.1 dX7_append_40 hl (k := 0) rfl (by decide) (by decide) rfl (fun ls hl => ?_)
  refine lv_goto (tgt := 3) E.1 E.2.1 dX7_append_43 (by decide) ?_
  refine lv_iload_n E.1 E.2.1 dX7_append_3 rfl (lv_at hl 0 rfl) ?_
  refine lv_if_lt (tgt := 46) E.1 E.2.1 dX7_append_4 (by decide) (fun h => absurd h (by decide)) (fun _ => ?_)
  refine lv_aload_n E.1 E.2.1 dX7_append_7 rfl (lv_at hl 1 rfl) ?_
  refine m_get E G 0 (ci := 7) rfl 1 (C := RX7) (T := TX7) (N := 7) rfl (by decide) mw_fl_7_15 (v := .int 5) rfl dX7_append_8 ?_
  refine lv_sipush (v := 400) E.1 E.2.1 dX7_append_11 (by decide) ?_
  refine lv_icmp_ge (tgt := 40) E.1 E.2.1 dX7_append_14 (by decide) (fun h => absurd h (by decide)) (fun _ => ?_)
  refine lv_aload_n E.1 E.2.1 dX7_append_17 rfl (lv_at hl 1 rfl) ?_
  refine m_get E G 0 (ci := 7) rfl 0 (C := RX7) (T := TX7) (N := 7) rfl (by decide) mw_fl_7_9 (v := .ref bt) rfl dX7_append_18 ?_
  refine lv_aload_n E.1 E.2.1 dX7_append_21 rfl (lv_at hl 1 rfl) ?_
  refine m_get E G 0 (ci := 7) rfl 1 (C := RX7) (T := TX7) (N := 7) rfl (by decide) mw_fl_7_15 (v := .int 5) rfl dX7_append_22 ?_
  refine lv_iload_n E.1 E.2.1 dX7_append_25 rfl (lv_at hl 2 rfl) ?_
  refine lv_iload_n E.1 E.2.1 dX7_append_26 rfl (lv_at hl 0 rfl) ?_
  refine lv_ishr E.1 E.2.1 dX7_append_27 ?_
  refine lv_i2b E.1 E.2.1 dX7_append_28 rfl ?_
  refine m_bast E G 1 rfl (by unfold vp_in; decide) dX7_append_29 (fun H locs G => ?_)
  obtain ⟨f_2, ef_2⟩ : ∃ f_2 : Nat → Int32, f_2 = (upd f_1 (5 : Int32).toNatClampNeg (vp_nar .byte ((p1 >>> ((16 : Int32) &&& 31)).toInt8.toInt32))) := ⟨_, rfl⟩
  have G : mG D A s H locs [(tp, .inr (7, [.ref bt, .int 5, .int 0, .int 40, .int 0, .int 0, .int 0])), (bt, .inl (K 1, 400, .inl f_2))] := by subst ef_2; exact G
  clear ef_2
  refine lv_aload_n E.1 E.2.1 dX7_append_30 rfl (lv_at hl 1 rfl) ?_
  refine lv_dup E.1 E.2.1 dX7_append_31 rfl ?_
  refine m_get E G 0 (ci := 7) rfl 1 (C := RX7) (T := TX7) (N := 7) rfl (by decide) mw_fl_7_15 (v := .int 5) rfl dX7_append_32 ?_
  refine lv_iconst (v := 1) E.1 E.2.1 dX7_append_35 (by decide) ?_
  refine lv_iadd E.1 E.2.1 dX7_append_36 ?_
  refine m_ci 6 (by decide) ?_
  refine m_put E G 0 (ci := 7) rfl 1 (C := RX7) (T := TX7) (N := 7) rfl (by decide) mw_fl_7_15 rfl rfl rfl (Nat.le_of_ble_eq_true rfl) dX7_append_37 (fun H locs G => ?_)
  have G : mG D A s H locs [(tp, .inr (7, [.ref bt, .int 6, .int 0, .int 40, .int 0, .int 0, .int 0])), (bt, .inl (K 1, 400, .inl f_2))] := G
  refine lv_iinc (v := 8) (lv' := [(2, .int 8), (0, .ref tp), (1, .int p1)]) E.1 E.2.1 dX7_append_40 hl (k := 0) rfl (by decide) (by decide) rfl (fun ls hl => ?_)
  refine lv_goto (tgt := 3) E.1 E.2.1 dX7_append_43 (by decide) ?_
  refine lv_iload_n E.1 E.2.1 dX7_append_3 rfl (lv_at hl 0 rfl) ?_
  refine lv_if_lt (tgt := 46) E.1 E.2.1 dX7_append_4 (by decide) (fun h => absurd h (by decide)) (fun _ => ?_)
  refine lv_aload_n E.1 E.2.1 dX7_append_7 rfl (lv_at hl 1 rfl) ?_
  refine m_get E G 0 (ci := 7) rfl 1 (C := RX7) (T := TX7) (N := 7) rfl (by decide) mw_fl_7_15 (v := .int 6) rfl dX7_append_8 ?_
  refine lv_sipush (v := 400) E.1 E.2.1 dX7_append_11 (by decide) ?_
  refine lv_icmp_ge (tgt := 40) E.1 E.2.1 dX7_append_14 (by decide) (fun h => absurd h (by decide)) (fun _ => ?_)
  refine lv_aload_n E.1 E.2.1 dX7_append_17 rfl (lv_at hl 1 rfl) ?_
  refine m_get E G 0 (ci := 7) rfl 0 (C := RX7) (T := TX7) (N := 7) rfl (by decide) mw_fl_7_9 (v := .ref bt) rfl dX7_append_18 ?_
  refine lv_aload_n E.1 E.2.1 dX7_append_21 rfl (lv_at hl 1 rfl) ?_
  refine m_get E G 0 (ci := 7) rfl 1 (C := RX7) (T := TX7) (N := 7) rfl (by decide) mw_fl_7_15 (v := .int 6) rfl dX7_append_22 ?_
  refine lv_iload_n E.1 E.2.1 dX7_append_25 rfl (lv_at hl 2 rfl) ?_
  refine lv_iload_n E.1 E.2.1 dX7_append_26 rfl (lv_at hl 0 rfl) ?_
  refine lv_ishr E.1 E.2.1 dX7_append_27 ?_
  refine lv_i2b E.1 E.2.1 dX7_append_28 rfl ?_
  refine m_bast E G 1 rfl (by unfold vp_in; decide) dX7_append_29 (fun H locs G => ?_)
  obtain ⟨f_3, ef_3⟩ : ∃ f_3 : Nat → Int32, f_3 = (upd f_2 (6 : Int32).toNatClampNeg (vp_nar .byte ((p1 >>> ((8 : Int32) &&& 31)).toInt8.toInt32))) := ⟨_, rfl⟩
  have G : mG D A s H locs [(tp, .inr (7, [.ref bt, .int 6, .int 0, .int 40, .int 0, .int 0, .int 0])), (bt, .inl (K 1, 400, .inl f_3))] := by subst ef_3; exact G
  clear ef_3
  refine lv_aload_n E.1 E.2.1 dX7_append_30 rfl (lv_at hl 1 rfl) ?_
  refine lv_dup E.1 E.2.1 dX7_append_31 rfl ?_
  refine m_get E G 0 (ci := 7) rfl 1 (C := RX7) (T := TX7) (N := 7) rfl (by decide) mw_fl_7_15 (v := .int 6) rfl dX7_append_32 ?_
  refine lv_iconst (v := 1) E.1 E.2.1 dX7_append_35 (by decide) ?_
  refine lv_iadd E.1 E.2.1 dX7_append_36 ?_
  refine m_ci 7 (by decide) ?_
  refine m_put E G 0 (ci := 7) rfl 1 (C := RX7) (T := TX7) (N := 7) rfl (by decide) mw_fl_7_15 rfl rfl rfl (Nat.le_of_ble_eq_true rfl) dX7_append_37 (fun H locs G => ?_)
  have G : mG D A s H locs [(tp, .inr (7, [.ref bt, .int 7, .int 0, .int 40, .int 0, .int 0, .int 0])), (bt, .inl (K 1, 400, .inl f_3))] := G
  refine lv_iinc (v := 0) (lv' := [(2, .int 0), (0, .ref tp), (1, .int p1)]) E.1 E.2.1 dX7_append_40 hl (k := 0) rfl (by decide) (by decide) rfl (fun ls hl => ?_)
  refine lv_goto (tgt := 3) E.1 E.2.1 dX7_append_43 (by decide) ?_
  refine lv_iload_n E.1 E.2.1 dX7_append_3 rfl (lv_at hl 0 rfl) ?_
  refine lv_if_lt (tgt := 46) E.1 E.2.1 dX7_append_4 (by decide) (fun h => absurd h (by decide)) (fun _ => ?_)
  refine lv_aload_n E.1 E.2.1 dX7_append_7 rfl (lv_at hl 1 rfl) ?_
  refine m_get E G 0 (ci := 7) rfl 1 (C := RX7) (T := TX7) (N := 7) rfl (by decide) mw_fl_7_15 (v := .int 7) rfl dX7_append_8 ?_
  refine lv_sipush (v := 400) E.1 E.2.1 dX7_append_11 (by decide) ?_
  refine lv_icmp_ge (tgt := 40) E.1 E.2.1 dX7_append_14 (by decide) (fun h => absurd h (by decide)) (fun _ => ?_)
  refine lv_aload_n E.1 E.2.1 dX7_append_17 rfl (lv_at hl 1 rfl) ?_
  refine m_get E G 0 (ci := 7) rfl 0 (C := RX7) (T := TX7) (N := 7) rfl (by decide) mw_fl_7_9 (v := .ref bt) rfl dX7_append_18 ?_
  refine lv_aload_n E.1 E.2.1 dX7_append_21 rfl (lv_at hl 1 rfl) ?_
  refine m_get E G 0 (ci := 7) rfl 1 (C := RX7) (T := TX7) (N := 7) rfl (by decide) mw_fl_7_15 (v := .int 7) rfl dX7_append_22 ?_
  refine lv_iload_n E.1 E.2.1 dX7_append_25 rfl (lv_at hl 2 rfl) ?_
  refine lv_iload_n E.1 E.2.1 dX7_append_26 rfl (lv_at hl 0 rfl) ?_
  refine lv_ishr E.1 E.2.1 dX7_append_27 ?_
  refine lv_i2b E.1 E.2.1 dX7_append_28 rfl ?_
  refine m_bast E G 1 rfl (by unfold vp_in; decide) dX7_append_29 (fun H locs G => ?_)
  obtain ⟨f_4, ef_4⟩ : ∃ f_4 : Nat → Int32, f_4 = (upd f_3 (7 : Int32).toNatClampNeg (vp_nar .byte ((p1 >>> ((0 : Int32) &&& 31)).toInt8.toInt32))) := ⟨_, rfl⟩
  have G : mG D A s H locs [(tp, .inr (7, [.ref bt, .int 7, .int 0, .int 40, .int 0, .int 0, .int 0])), (bt, .inl (K 1, 400, .inl f_4))] := by subst ef_4; exact G
  clear ef_4
  refine lv_aload_n E.1 E.2.1 dX7_append_30 rfl (lv_at hl 1 rfl) ?_
  refine lv_dup E.1 E.2.1 dX7_append_31 rfl ?_
  refine m_get E G 0 (ci := 7) rfl 1 (C := RX7) (T := TX7) (N := 7) rfl (by decide) mw_fl_7_15 (v := .int 7) rfl dX7_append_32 ?_
  refine lv_iconst (v := 1) E.1 E.2.1 dX7_append_35 (by decide) ?_
  refine lv_iadd E.1 E.2.1 dX7_append_36 ?_
  refine m_ci 8 (by decide) ?_
  refine m_put E G 0 (ci := 7) rfl 1 (C := RX7) (T := TX7) (N := 7) rfl (by decide) mw_fl_7_15 rfl rfl rfl (Nat.le_of_ble_eq_true rfl) dX7_append_37 (fun H locs G => ?_)
  have G : mG D A s H locs [(tp, .inr (7, [.ref bt, .int 8, .int 0, .int 40, .int 0, .int 0, .int 0])), (bt, .inl (K 1, 400, .inl f_4))] := G
  refine lv_iinc (v := (-8)) (lv' := [(2, .int (-8)), (0, .ref tp), (1, .int p1)]) E.1 E.2.1 dX7_append_40 hl (k := 0) rfl (by decide) (by decide) rfl (fun ls hl => ?_)
  refine lv_goto (tgt := 3) E.1 E.2.1 dX7_append_43 (by decide) ?_
  refine lv_iload_n E.1 E.2.1 dX7_append_3 rfl (lv_at hl 0 rfl) ?_
  refine lv_if_lt (tgt := 46) E.1 E.2.1 dX7_append_4 (by decide) (fun _ => ?_) (fun h => absurd (by decide) h)
  exact m_retv E G hr (fun _ => 0, fun k => ([f_4] : List (Nat → Int32)).getD k (fun _ => 0), fun _ _ => none) trivial [0, 1] (by decide) rfl (by decide) (by decide) dX7_append_46
set_option maxHeartbeats 4000000 in
set_option maxRecDepth 100000 in
theorem k_append_8 (l : Launch) (D : va_G) (K : Nat → ClassId) (tp : Nat) (bt : Nat) (f0 : Nat → Int32) (p1 : Int32) : mV (S := mU) l yX7_append cX7_append 3 ({ frames := 0, cells := 0, slots := 0, locals := 0 }) D K [(tp, .inr (7, [.ref bt, .int 8, .int 0, .int 40, .int 0, .int 0, .int 0])), (bt, .inl (K 1, 400, .inl f0))] [.ref tp, .int p1] (fun u => True) (fun u => [(tp, .inr (7, [.ref bt, .int 12, .int 0, .int 40, .int 0, .int 0, .int 0])), (bt, .inl (K 1, 400, .inl (u.2.1 0)))]) := by
  refine m_enterV (by decide) (Nat.le_of_ble_eq_true rfl) ?_
  intro p e s m args below meth c A ls E hr hN G hl
  have E : mE p s m meth c cX7_append args 3 RX7 D K A := E
  have hl : lv_has ls 3 [(0, .ref tp), (1, .int p1)] := hl
  obtain ⟨H, hH⟩ : ∃ H, H = s.heap := ⟨_, rfl⟩
  obtain ⟨locs, hlo⟩ : ∃ L : List Loc, L = [] := ⟨_, rfl⟩
  rw [← hH, ← hlo] at G
  rw [← hH, ← hlo]
  have G : mG D A s H locs [(tp, .inr (7, [.ref bt, .int 8, .int 0, .int 40, .int 0, .int 0, .int 0])), (bt, .inl (K 1, 400, .inl f0))] := G
  clear hH hlo
  refine lv_bipush (v := 24) E.1 E.2.1 dX7_append_0 (by decide) ?_
  refine lv_istore_n (lv' := [(2, .int 24), (0, .ref tp), (1, .int p1)]) E.1 E.2.1 dX7_append_2 rfl hl (by decide) rfl (fun ls hl => ?_)
  refine lv_iload_n E.1 E.2.1 dX7_append_3 rfl (lv_at hl 0 rfl) ?_
  refine lv_if_lt (tgt := 46) E.1 E.2.1 dX7_append_4 (by decide) (fun h => absurd h (by decide)) (fun _ => ?_)
  refine lv_aload_n E.1 E.2.1 dX7_append_7 rfl (lv_at hl 1 rfl) ?_
  refine m_get E G 0 (ci := 7) rfl 1 (C := RX7) (T := TX7) (N := 7) rfl (by decide) mw_fl_7_15 (v := .int 8) rfl dX7_append_8 ?_
  refine lv_sipush (v := 400) E.1 E.2.1 dX7_append_11 (by decide) ?_
  refine lv_icmp_ge (tgt := 40) E.1 E.2.1 dX7_append_14 (by decide) (fun h => absurd h (by decide)) (fun _ => ?_)
  refine lv_aload_n E.1 E.2.1 dX7_append_17 rfl (lv_at hl 1 rfl) ?_
  refine m_get E G 0 (ci := 7) rfl 0 (C := RX7) (T := TX7) (N := 7) rfl (by decide) mw_fl_7_9 (v := .ref bt) rfl dX7_append_18 ?_
  refine lv_aload_n E.1 E.2.1 dX7_append_21 rfl (lv_at hl 1 rfl) ?_
  refine m_get E G 0 (ci := 7) rfl 1 (C := RX7) (T := TX7) (N := 7) rfl (by decide) mw_fl_7_15 (v := .int 8) rfl dX7_append_22 ?_
  refine lv_iload_n E.1 E.2.1 dX7_append_25 rfl (lv_at hl 2 rfl) ?_
  refine lv_iload_n E.1 E.2.1 dX7_append_26 rfl (lv_at hl 0 rfl) ?_
  refine lv_ishr E.1 E.2.1 dX7_append_27 ?_
  refine lv_i2b E.1 E.2.1 dX7_append_28 rfl ?_
  refine m_bast E G 1 rfl (by unfold vp_in; decide) dX7_append_29 (fun H locs G => ?_)
  obtain ⟨f_1, ef_1⟩ : ∃ f_1 : Nat → Int32, f_1 = (upd f0 (8 : Int32).toNatClampNeg (vp_nar .byte ((p1 >>> ((24 : Int32) &&& 31)).toInt8.toInt32))) := ⟨_, rfl⟩
  have G : mG D A s H locs [(tp, .inr (7, [.ref bt, .int 8, .int 0, .int 40, .int 0, .int 0, .int 0])), (bt, .inl (K 1, 400, .inl f_1))] := by subst ef_1; exact G
  clear ef_1
  refine lv_aload_n E.1 E.2.1 dX7_append_30 rfl (lv_at hl 1 rfl) ?_
  refine lv_dup E.1 E.2.1 dX7_append_31 rfl ?_
  refine m_get E G 0 (ci := 7) rfl 1 (C := RX7) (T := TX7) (N := 7) rfl (by decide) mw_fl_7_15 (v := .int 8) rfl dX7_append_32 ?_
  refine lv_iconst (v := 1) E.1 E.2.1 dX7_append_35 (by decide) ?_
  refine lv_iadd E.1 E.2.1 dX7_append_36 ?_
  refine m_ci 9 (by decide) ?_
  refine m_put E G 0 (ci := 7) rfl 1 (C := RX7) (T := TX7) (N := 7) rfl (by decide) mw_fl_7_15 rfl rfl rfl (Nat.le_of_ble_eq_true rfl) dX7_append_37 (fun H locs G => ?_)
  have G : mG D A s H locs [(tp, .inr (7, [.ref bt, .int 9, .int 0, .int 40, .int 0, .int 0, .int 0])), (bt, .inl (K 1, 400, .inl f_1))] := G
  refine lv_iinc (v := 16) (lv' := [(2, .int 16), (0, .ref tp), (1, .int p1)]) E.1 E.2.1 dX7_append_40 hl (k := 0) rfl (by decide) (by decide) rfl (fun ls hl => ?_)
  refine lv_goto (tgt := 3) E.1 E.2.1 dX7_append_43 (by decide) ?_
  refine lv_iload_n E.1 E.2.1 dX7_append_3 rfl (lv_at hl 0 rfl) ?_
  refine lv_if_lt (tgt := 46) E.1 E.2.1 dX7_append_4 (by decide) (fun h => absurd h (by decide)) (fun _ => ?_)
  refine lv_aload_n E.1 E.2.1 dX7_append_7 rfl (lv_at hl 1 rfl) ?_
  refine m_get E G 0 (ci := 7) rfl 1 (C := RX7) (T := TX7) (N := 7) rfl (by decide) mw_fl_7_15 (v := .int 9) rfl dX7_append_8 ?_
  refine lv_sipush (v := 400) E.1 E.2.1 dX7_append_11 (by decide) ?_
  refine lv_icmp_ge (tgt := 40) E.1 E.2.1 dX7_append_14 (by decide) (fun h => absurd h (by decide)) (fun _ => ?_)
  refine lv_aload_n E.1 E.2.1 dX7_append_17 rfl (lv_at hl 1 rfl) ?_
  refine m_get E G 0 (ci := 7) rfl 0 (C := RX7) (T := TX7) (N := 7) rfl (by decide) mw_fl_7_9 (v := .ref bt) rfl dX7_append_18 ?_
  refine lv_aload_n E.1 E.2.1 dX7_append_21 rfl (lv_at hl 1 rfl) ?_
  refine m_get E G 0 (ci := 7) rfl 1 (C := RX7) (T := TX7) (N := 7) rfl (by decide) mw_fl_7_15 (v := .int 9) rfl dX7_append_22 ?_
  refine lv_iload_n E.1 E.2.1 dX7_append_25 rfl (lv_at hl 2 rfl) ?_
  refine lv_iload_n E.1 E.2.1 dX7_append_26 rfl (lv_at hl 0 rfl) ?_
  refine lv_ishr E.1 E.2.1 dX7_append_27 ?_
  refine lv_i2b E.1 E.2.1 dX7_append_28 rfl ?_
  refine m_bast E G 1 rfl (by unfold vp_in; decide) dX7_append_29 (fun H locs G => ?_)
  obtain ⟨f_2, ef_2⟩ : ∃ f_2 : Nat → Int32, f_2 = (upd f_1 (9 : Int32).toNatClampNeg (vp_nar .byte ((p1 >>> ((16 : Int32) &&& 31)).toInt8.toInt32))) := ⟨_, rfl⟩
  have G : mG D A s H locs [(tp, .inr (7, [.ref bt, .int 9, .int 0, .int 40, .int 0, .int 0, .int 0])), (bt, .inl (K 1, 400, .inl f_2))] := by subst ef_2; exact G
  clear ef_2
  refine lv_aload_n E.1 E.2.1 dX7_append_30 rfl (lv_at hl 1 rfl) ?_
  refine lv_dup E.1 E.2.1 dX7_append_31 rfl ?_
  refine m_get E G 0 (ci := 7) rfl 1 (C := RX7) (T := TX7) (N := 7) rfl (by decide) mw_fl_7_15 (v := .int 9) rfl dX7_append_32 ?_
  refine lv_iconst (v := 1) E.1 E.2.1 dX7_append_35 (by decide) ?_
  refine lv_iadd E.1 E.2.1 dX7_append_36 ?_
  refine m_ci 10 (by decide) ?_
  refine m_put E G 0 (ci := 7) rfl 1 (C := RX7) (T := TX7) (N := 7) rfl (by decide) mw_fl_7_15 rfl rfl rfl (Nat.le_of_ble_eq_true rfl) dX7_append_37 (fun H locs G => ?_)
  have G : mG D A s H locs [(tp, .inr (7, [.ref bt, .int 10, .int 0, .int 40, .int 0, .int 0, .int 0])), (bt, .inl (K 1, 400, .inl f_2))] := G
  refine lv_iinc (v := 8) (lv' := [(2, .int 8), (0, .ref tp), (1, .int p1)]) E.1 E.2.1 dX7_append_40 hl (k := 0) rfl (by decide) (by decide) rfl (fun ls hl => ?_)
  refine lv_goto (tgt := 3) E.1 E.2.1 dX7_append_43 (by decide) ?_
  refine lv_iload_n E.1 E.2.1 dX7_append_3 rfl (lv_at hl 0 rfl) ?_
  refine lv_if_lt (tgt := 46) E.1 E.2.1 dX7_append_4 (by decide) (fun h => absurd h (by decide)) (fun _ => ?_)
  refine lv_aload_n E.1 E.2.1 dX7_append_7 rfl (lv_at hl 1 rfl) ?_
  refine m_get E G 0 (ci := 7) rfl 1 (C := RX7) (T := TX7) (N := 7) rfl (by decide) mw_fl_7_15 (v := .int 10) rfl dX7_append_8 ?_
  refine lv_sipush (v := 400) E.1 E.2.1 dX7_append_11 (by decide) ?_
  refine lv_icmp_ge (tgt := 40) E.1 E.2.1 dX7_append_14 (by decide) (fun h => absurd h (by decide)) (fun _ => ?_)
  refine lv_aload_n E.1 E.2.1 dX7_append_17 rfl (lv_at hl 1 rfl) ?_
  refine m_get E G 0 (ci := 7) rfl 0 (C := RX7) (T := TX7) (N := 7) rfl (by decide) mw_fl_7_9 (v := .ref bt) rfl dX7_append_18 ?_
  refine lv_aload_n E.1 E.2.1 dX7_append_21 rfl (lv_at hl 1 rfl) ?_
  refine m_get E G 0 (ci := 7) rfl 1 (C := RX7) (T := TX7) (N := 7) rfl (by decide) mw_fl_7_15 (v := .int 10) rfl dX7_append_22 ?_
  refine lv_iload_n E.1 E.2.1 dX7_append_25 rfl (lv_at hl 2 rfl) ?_
  refine lv_iload_n E.1 E.2.1 dX7_append_26 rfl (lv_at hl 0 rfl) ?_
  refine lv_ishr E.1 E.2.1 dX7_append_27 ?_
  refine lv_i2b E.1 E.2.1 dX7_append_28 rfl ?_
  refine m_bast E G 1 rfl (by unfold vp_in; decide) dX7_append_29 (fun H locs G => ?_)
  obtain ⟨f_3, ef_3⟩ : ∃ f_3 : Nat → Int32, f_3 = (upd f_2 (10 : Int32).toNatClampNeg (vp_nar .byte ((p1 >>> ((8 : Int32) &&& 31)).toInt8.toInt32))) := ⟨_, rfl⟩
  have G : mG D A s H locs [(tp, .inr (7, [.ref bt, .int 10, .int 0, .int 40, .int 0, .int 0, .int 0])), (bt, .inl (K 1, 400, .inl f_3))] := by subst ef_3; exact G
  clear ef_3
  refine lv_aload_n E.1 E.2.1 dX7_append_30 rfl (lv_at hl 1 rfl) ?_
  refine lv_dup E.1 E.2.1 dX7_append_31 rfl ?_
  refine m_get E G 0 (ci := 7) rfl 1 (C := RX7) (T := TX7) (N := 7) rfl (by decide) mw_fl_7_15 (v := .int 10) rfl dX7_append_32 ?_
  refine lv_iconst (v := 1) E.1 E.2.1 dX7_append_35 (by decide) ?_
  refine lv_iadd E.1 E.2.1 dX7_append_36 ?_
  refine m_ci 11 (by decide) ?_
  refine m_put E G 0 (ci := 7) rfl 1 (C := RX7) (T := TX7) (N := 7) rfl (by decide) mw_fl_7_15 rfl rfl rfl (Nat.le_of_ble_eq_true rfl) dX7_append_37 (fun H locs G => ?_)
  have G : mG D A s H locs [(tp, .inr (7, [.ref bt, .int 11, .int 0, .int 40, .int 0, .int 0, .int 0])), (bt, .inl (K 1, 400, .inl f_3))] := G
  refine lv_iinc (v := 0) (lv' := [(2, .int 0), (0, .ref tp), (1, .int p1)]) E.1 E.2.1 dX7_append_40 hl (k := 0) rfl (by decide) (by decide) rfl (fun ls hl => ?_)
  refine lv_goto (tgt := 3) E.1 E.2.1 dX7_append_43 (by decide) ?_
  refine lv_iload_n E.1 E.2.1 dX7_append_3 rfl (lv_at hl 0 rfl) ?_
  refine lv_if_lt (tgt := 46) E.1 E.2.1 dX7_append_4 (by decide) (fun h => absurd h (by decide)) (fun _ => ?_)
  refine lv_aload_n E.1 E.2.1 dX7_append_7 rfl (lv_at hl 1 rfl) ?_
  refine m_get E G 0 (ci := 7) rfl 1 (C := RX7) (T := TX7) (N := 7) rfl (by decide) mw_fl_7_15 (v := .int 11) rfl dX7_append_8 ?_
  refine lv_sipush (v := 400) E.1 E.2.1 dX7_append_11 (by decide) ?_
  refine lv_icmp_ge (tgt := 40) E.1 E.2.1 dX7_append_14 (by decide) (fun h => absurd h (by decide)) (fun _ => ?_)
  refine lv_aload_n E.1 E.2.1 dX7_append_17 rfl (lv_at hl 1 rfl) ?_
  refine m_get E G 0 (ci := 7) rfl 0 (C := RX7) (T := TX7) (N := 7) rfl (by decide) mw_fl_7_9 (v := .ref bt) rfl dX7_append_18 ?_
  refine lv_aload_n E.1 E.2.1 dX7_append_21 rfl (lv_at hl 1 rfl) ?_
  refine m_get E G 0 (ci := 7) rfl 1 (C := RX7) (T := TX7) (N := 7) rfl (by decide) mw_fl_7_15 (v := .int 11) rfl dX7_append_22 ?_
  refine lv_iload_n E.1 E.2.1 dX7_append_25 rfl (lv_at hl 2 rfl) ?_
  refine lv_iload_n E.1 E.2.1 dX7_append_26 rfl (lv_at hl 0 rfl) ?_
  refine lv_ishr E.1 E.2.1 dX7_append_27 ?_
  refine lv_i2b E.1 E.2.1 dX7_append_28 rfl ?_
  refine m_bast E G 1 rfl (by unfold vp_in; decide) dX7_append_29 (fun H locs G => ?_)
  obtain ⟨f_4, ef_4⟩ : ∃ f_4 : Nat → Int32, f_4 = (upd f_3 (11 : Int32).toNatClampNeg (vp_nar .byte ((p1 >>> ((0 : Int32) &&& 31)).toInt8.toInt32))) := ⟨_, rfl⟩
  have G : mG D A s H locs [(tp, .inr (7, [.ref bt, .int 11, .int 0, .int 40, .int 0, .int 0, .int 0])), (bt, .inl (K 1, 400, .inl f_4))] := by subst ef_4; exact G
  clear ef_4
  refine lv_aload_n E.1 E.2.1 dX7_append_30 rfl (lv_at hl 1 rfl) ?_
  refine lv_dup E.1 E.2.1 dX7_append_31 rfl ?_
  refine m_get E G 0 (ci := 7) rfl 1 (C := RX7) (T := TX7) (N := 7) rfl (by decide) mw_fl_7_15 (v := .int 11) rfl dX7_append_32 ?_
  refine lv_iconst (v := 1) E.1 E.2.1 dX7_append_35 (by decide) ?_
  refine lv_iadd E.1 E.2.1 dX7_append_36 ?_
  refine m_ci 12 (by decide) ?_
  refine m_put E G 0 (ci := 7) rfl 1 (C := RX7) (T := TX7) (N := 7) rfl (by decide) mw_fl_7_15 rfl rfl rfl (Nat.le_of_ble_eq_true rfl) dX7_append_37 (fun H locs G => ?_)
  have G : mG D A s H locs [(tp, .inr (7, [.ref bt, .int 12, .int 0, .int 40, .int 0, .int 0, .int 0])), (bt, .inl (K 1, 400, .inl f_4))] := G
  refine lv_iinc (v := (-8)) (lv' := [(2, .int (-8)), (0, .ref tp), (1, .int p1)]) E.1 E.2.1 dX7_append_40 hl (k := 0) rfl (by decide) (by decide) rfl (fun ls hl => ?_)
  refine lv_goto (tgt := 3) E.1 E.2.1 dX7_append_43 (by decide) ?_
  refine lv_iload_n E.1 E.2.1 dX7_append_3 rfl (lv_at hl 0 rfl) ?_
  refine lv_if_lt (tgt := 46) E.1 E.2.1 dX7_append_4 (by decide) (fun _ => ?_) (fun h => absurd (by decide) h)
  exact m_retv E G hr (fun _ => 0, fun k => ([f_4] : List (Nat → Int32)).getD k (fun _ => 0), fun _ _ => none) trivial [0, 1] (by decide) rfl (by decide) (by decide) dX7_append_46
set_option maxHeartbeats 4000000 in
set_option maxRecDepth 100000 in
theorem k_append_12 (l : Launch) (D : va_G) (K : Nat → ClassId) (tp : Nat) (bt : Nat) (f0 : Nat → Int32) (p1 : Int32) : mV (S := mU) l yX7_append cX7_append 3 ({ frames := 0, cells := 0, slots := 0, locals := 0 }) D K [(tp, .inr (7, [.ref bt, .int 12, .int 0, .int 40, .int 0, .int 0, .int 0])), (bt, .inl (K 1, 400, .inl f0))] [.ref tp, .int p1] (fun u => True) (fun u => [(tp, .inr (7, [.ref bt, .int 16, .int 0, .int 40, .int 0, .int 0, .int 0])), (bt, .inl (K 1, 400, .inl (u.2.1 0)))]) := by
  refine m_enterV (by decide) (Nat.le_of_ble_eq_true rfl) ?_
  intro p e s m args below meth c A ls E hr hN G hl
  have E : mE p s m meth c cX7_append args 3 RX7 D K A := E
  have hl : lv_has ls 3 [(0, .ref tp), (1, .int p1)] := hl
  obtain ⟨H, hH⟩ : ∃ H, H = s.heap := ⟨_, rfl⟩
  obtain ⟨locs, hlo⟩ : ∃ L : List Loc, L = [] := ⟨_, rfl⟩
  rw [← hH, ← hlo] at G
  rw [← hH, ← hlo]
  have G : mG D A s H locs [(tp, .inr (7, [.ref bt, .int 12, .int 0, .int 40, .int 0, .int 0, .int 0])), (bt, .inl (K 1, 400, .inl f0))] := G
  clear hH hlo
  refine lv_bipush (v := 24) E.1 E.2.1 dX7_append_0 (by decide) ?_
  refine lv_istore_n (lv' := [(2, .int 24), (0, .ref tp), (1, .int p1)]) E.1 E.2.1 dX7_append_2 rfl hl (by decide) rfl (fun ls hl => ?_)
  refine lv_iload_n E.1 E.2.1 dX7_append_3 rfl (lv_at hl 0 rfl) ?_
  refine lv_if_lt (tgt := 46) E.1 E.2.1 dX7_append_4 (by decide) (fun h => absurd h (by decide)) (fun _ => ?_)
  refine lv_aload_n E.1 E.2.1 dX7_append_7 rfl (lv_at hl 1 rfl) ?_
  refine m_get E G 0 (ci := 7) rfl 1 (C := RX7) (T := TX7) (N := 7) rfl (by decide) mw_fl_7_15 (v := .int 12) rfl dX7_append_8 ?_
  refine lv_sipush (v := 400) E.1 E.2.1 dX7_append_11 (by decide) ?_
  refine lv_icmp_ge (tgt := 40) E.1 E.2.1 dX7_append_14 (by decide) (fun h => absurd h (by decide)) (fun _ => ?_)
  refine lv_aload_n E.1 E.2.1 dX7_append_17 rfl (lv_at hl 1 rfl) ?_
  refine m_get E G 0 (ci := 7) rfl 0 (C := RX7) (T := TX7) (N := 7) rfl (by decide) mw_fl_7_9 (v := .ref bt) rfl dX7_append_18 ?_
  refine lv_aload_n E.1 E.2.1 dX7_append_21 rfl (lv_at hl 1 rfl) ?_
  refine m_get E G 0 (ci := 7) rfl 1 (C := RX7) (T := TX7) (N := 7) rfl (by decide) mw_fl_7_15 (v := .int 12) rfl dX7_append_22 ?_
  refine lv_iload_n E.1 E.2.1 dX7_append_25 rfl (lv_at hl 2 rfl) ?_
  refine lv_iload_n E.1 E.2.1 dX7_append_26 rfl (lv_at hl 0 rfl) ?_
  refine lv_ishr E.1 E.2.1 dX7_append_27 ?_
  refine lv_i2b E.1 E.2.1 dX7_append_28 rfl ?_
  refine m_bast E G 1 rfl (by unfold vp_in; decide) dX7_append_29 (fun H locs G => ?_)
  obtain ⟨f_1, ef_1⟩ : ∃ f_1 : Nat → Int32, f_1 = (upd f0 (12 : Int32).toNatClampNeg (vp_nar .byte ((p1 >>> ((24 : Int32) &&& 31)).toInt8.toInt32))) := ⟨_, rfl⟩
  have G : mG D A s H locs [(tp, .inr (7, [.ref bt, .int 12, .int 0, .int 40, .int 0, .int 0, .int 0])), (bt, .inl (K 1, 400, .inl f_1))] := by subst ef_1; exact G
  clear ef_1
  refine lv_aload_n E.1 E.2.1 dX7_append_30 rfl (lv_at hl 1 rfl) ?_
  refine lv_dup E.1 E.2.1 dX7_append_31 rfl ?_
  refine m_get E G 0 (ci := 7) rfl 1 (C := RX7) (T := TX7) (N := 7) rfl (by decide) mw_fl_7_15 (v := .int 12) rfl dX7_append_32 ?_
  refine lv_iconst (v := 1) E.1 E.2.1 dX7_append_35 (by decide) ?_
  refine lv_iadd E.1 E.2.1 dX7_append_36 ?_
  refine m_ci 13 (by decide) ?_
  refine m_put E G 0 (ci := 7) rfl 1 (C := RX7) (T := TX7) (N := 7) rfl (by decide) mw_fl_7_15 rfl rfl rfl (Nat.le_of_ble_eq_true rfl) dX7_append_37 (fun H locs G => ?_)
  have G : mG D A s H locs [(tp, .inr (7, [.ref bt, .int 13, .int 0, .int 40, .int 0, .int 0, .int 0])), (bt, .inl (K 1, 400, .inl f_1))] := G
  refine lv_iinc (v := 16) (lv' := [(2, .int 16), (0, .ref tp), (1, .int p1)]) E.1 E.2.1 dX7_append_40 hl (k := 0) rfl (by decide) (by decide) rfl (fun ls hl => ?_)
  refine lv_goto (tgt := 3) E.1 E.2.1 dX7_append_43 (by decide) ?_
  refine lv_iload_n E.1 E.2.1 dX7_append_3 rfl (lv_at hl 0 rfl) ?_
  refine lv_if_lt (tgt := 46) E.1 E.2.1 dX7_append_4 (by decide) (fun h => absurd h (by decide)) (fun _ => ?_)
  refine lv_aload_n E.1 E.2.1 dX7_append_7 rfl (lv_at hl 1 rfl) ?_
  refine m_get E G 0 (ci := 7) rfl 1 (C := RX7) (T := TX7) (N := 7) rfl (by decide) mw_fl_7_15 (v := .int 13) rfl dX7_append_8 ?_
  refine lv_sipush (v := 400) E.1 E.2.1 dX7_append_11 (by decide) ?_
  refine lv_icmp_ge (tgt := 40) E.1 E.2.1 dX7_append_14 (by decide) (fun h => absurd h (by decide)) (fun _ => ?_)
  refine lv_aload_n E.1 E.2.1 dX7_append_17 rfl (lv_at hl 1 rfl) ?_
  refine m_get E G 0 (ci := 7) rfl 0 (C := RX7) (T := TX7) (N := 7) rfl (by decide) mw_fl_7_9 (v := .ref bt) rfl dX7_append_18 ?_
  refine lv_aload_n E.1 E.2.1 dX7_append_21 rfl (lv_at hl 1 rfl) ?_
  refine m_get E G 0 (ci := 7) rfl 1 (C := RX7) (T := TX7) (N := 7) rfl (by decide) mw_fl_7_15 (v := .int 13) rfl dX7_append_22 ?_
  refine lv_iload_n E.1 E.2.1 dX7_append_25 rfl (lv_at hl 2 rfl) ?_
  refine lv_iload_n E.1 E.2.1 dX7_append_26 rfl (lv_at hl 0 rfl) ?_
  refine lv_ishr E.1 E.2.1 dX7_append_27 ?_
  refine lv_i2b E.1 E.2.1 dX7_append_28 rfl ?_
  refine m_bast E G 1 rfl (by unfold vp_in; decide) dX7_append_29 (fun H locs G => ?_)
  obtain ⟨f_2, ef_2⟩ : ∃ f_2 : Nat → Int32, f_2 = (upd f_1 (13 : Int32).toNatClampNeg (vp_nar .byte ((p1 >>> ((16 : Int32) &&& 31)).toInt8.toInt32))) := ⟨_, rfl⟩
  have G : mG D A s H locs [(tp, .inr (7, [.ref bt, .int 13, .int 0, .int 40, .int 0, .int 0, .int 0])), (bt, .inl (K 1, 400, .inl f_2))] := by subst ef_2; exact G
  clear ef_2
  refine lv_aload_n E.1 E.2.1 dX7_append_30 rfl (lv_at hl 1 rfl) ?_
  refine lv_dup E.1 E.2.1 dX7_append_31 rfl ?_
  refine m_get E G 0 (ci := 7) rfl 1 (C := RX7) (T := TX7) (N := 7) rfl (by decide) mw_fl_7_15 (v := .int 13) rfl dX7_append_32 ?_
  refine lv_iconst (v := 1) E.1 E.2.1 dX7_append_35 (by decide) ?_
  refine lv_iadd E.1 E.2.1 dX7_append_36 ?_
  refine m_ci 14 (by decide) ?_
  refine m_put E G 0 (ci := 7) rfl 1 (C := RX7) (T := TX7) (N := 7) rfl (by decide) mw_fl_7_15 rfl rfl rfl (Nat.le_of_ble_eq_true rfl) dX7_append_37 (fun H locs G => ?_)
  have G : mG D A s H locs [(tp, .inr (7, [.ref bt, .int 14, .int 0, .int 40, .int 0, .int 0, .int 0])), (bt, .inl (K 1, 400, .inl f_2))] := G
  refine lv_iinc (v := 8) (lv' := [(2, .int 8), (0, .ref tp), (1, .int p1)]) E.1 E.2.1 dX7_append_40 hl (k := 0) rfl (by decide) (by decide) rfl (fun ls hl => ?_)
  refine lv_goto (tgt := 3) E.1 E.2.1 dX7_append_43 (by decide) ?_
  refine lv_iload_n E.1 E.2.1 dX7_append_3 rfl (lv_at hl 0 rfl) ?_
  refine lv_if_lt (tgt := 46) E.1 E.2.1 dX7_append_4 (by decide) (fun h => absurd h (by decide)) (fun _ => ?_)
  refine lv_aload_n E.1 E.2.1 dX7_append_7 rfl (lv_at hl 1 rfl) ?_
  refine m_get E G 0 (ci := 7) rfl 1 (C := RX7) (T := TX7) (N := 7) rfl (by decide) mw_fl_7_15 (v := .int 14) rfl dX7_append_8 ?_
  refine lv_sipush (v := 400) E.1 E.2.1 dX7_append_11 (by decide) ?_
  refine lv_icmp_ge (tgt := 40) E.1 E.2.1 dX7_append_14 (by decide) (fun h => absurd h (by decide)) (fun _ => ?_)
  refine lv_aload_n E.1 E.2.1 dX7_append_17 rfl (lv_at hl 1 rfl) ?_
  refine m_get E G 0 (ci := 7) rfl 0 (C := RX7) (T := TX7) (N := 7) rfl (by decide) mw_fl_7_9 (v := .ref bt) rfl dX7_append_18 ?_
  refine lv_aload_n E.1 E.2.1 dX7_append_21 rfl (lv_at hl 1 rfl) ?_
  refine m_get E G 0 (ci := 7) rfl 1 (C := RX7) (T := TX7) (N := 7) rfl (by decide) mw_fl_7_15 (v := .int 14) rfl dX7_append_22 ?_
  refine lv_iload_n E.1 E.2.1 dX7_append_25 rfl (lv_at hl 2 rfl) ?_
  refine lv_iload_n E.1 E.2.1 dX7_append_26 rfl (lv_at hl 0 rfl) ?_
  refine lv_ishr E.1 E.2.1 dX7_append_27 ?_
  refine lv_i2b E.1 E.2.1 dX7_append_28 rfl ?_
  refine m_bast E G 1 rfl (by unfold vp_in; decide) dX7_append_29 (fun H locs G => ?_)
  obtain ⟨f_3, ef_3⟩ : ∃ f_3 : Nat → Int32, f_3 = (upd f_2 (14 : Int32).toNatClampNeg (vp_nar .byte ((p1 >>> ((8 : Int32) &&& 31)).toInt8.toInt32))) := ⟨_, rfl⟩
  have G : mG D A s H locs [(tp, .inr (7, [.ref bt, .int 14, .int 0, .int 40, .int 0, .int 0, .int 0])), (bt, .inl (K 1, 400, .inl f_3))] := by subst ef_3; exact G
  clear ef_3
  refine lv_aload_n E.1 E.2.1 dX7_append_30 rfl (lv_at hl 1 rfl) ?_
  refine lv_dup E.1 E.2.1 dX7_append_31 rfl ?_
  refine m_get E G 0 (ci := 7) rfl 1 (C := RX7) (T := TX7) (N := 7) rfl (by decide) mw_fl_7_15 (v := .int 14) rfl dX7_append_32 ?_
  refine lv_iconst (v := 1) E.1 E.2.1 dX7_append_35 (by decide) ?_
  refine lv_iadd E.1 E.2.1 dX7_append_36 ?_
  refine m_ci 15 (by decide) ?_
  refine m_put E G 0 (ci := 7) rfl 1 (C := RX7) (T := TX7) (N := 7) rfl (by decide) mw_fl_7_15 rfl rfl rfl (Nat.le_of_ble_eq_true rfl) dX7_append_37 (fun H locs G => ?_)
  have G : mG D A s H locs [(tp, .inr (7, [.ref bt, .int 15, .int 0, .int 40, .int 0, .int 0, .int 0])), (bt, .inl (K 1, 400, .inl f_3))] := G
  refine lv_iinc (v := 0) (lv' := [(2, .int 0), (0, .ref tp), (1, .int p1)]) E.1 E.2.1 dX7_append_40 hl (k := 0) rfl (by decide) (by decide) rfl (fun ls hl => ?_)
  refine lv_goto (tgt := 3) E.1 E.2.1 dX7_append_43 (by decide) ?_
  refine lv_iload_n E.1 E.2.1 dX7_append_3 rfl (lv_at hl 0 rfl) ?_
  refine lv_if_lt (tgt := 46) E.1 E.2.1 dX7_append_4 (by decide) (fun h => absurd h (by decide)) (fun _ => ?_)
  refine lv_aload_n E.1 E.2.1 dX7_append_7 rfl (lv_at hl 1 rfl) ?_
  refine m_get E G 0 (ci := 7) rfl 1 (C := RX7) (T := TX7) (N := 7) rfl (by decide) mw_fl_7_15 (v := .int 15) rfl dX7_append_8 ?_
  refine lv_sipush (v := 400) E.1 E.2.1 dX7_append_11 (by decide) ?_
  refine lv_icmp_ge (tgt := 40) E.1 E.2.1 dX7_append_14 (by decide) (fun h => absurd h (by decide)) (fun _ => ?_)
  refine lv_aload_n E.1 E.2.1 dX7_append_17 rfl (lv_at hl 1 rfl) ?_
  refine m_get E G 0 (ci := 7) rfl 0 (C := RX7) (T := TX7) (N := 7) rfl (by decide) mw_fl_7_9 (v := .ref bt) rfl dX7_append_18 ?_
  refine lv_aload_n E.1 E.2.1 dX7_append_21 rfl (lv_at hl 1 rfl) ?_
  refine m_get E G 0 (ci := 7) rfl 1 (C := RX7) (T := TX7) (N := 7) rfl (by decide) mw_fl_7_15 (v := .int 15) rfl dX7_append_22 ?_
  refine lv_iload_n E.1 E.2.1 dX7_append_25 rfl (lv_at hl 2 rfl) ?_
  refine lv_iload_n E.1 E.2.1 dX7_append_26 rfl (lv_at hl 0 rfl) ?_
  refine lv_ishr E.1 E.2.1 dX7_append_27 ?_
  refine lv_i2b E.1 E.2.1 dX7_append_28 rfl ?_
  refine m_bast E G 1 rfl (by unfold vp_in; decide) dX7_append_29 (fun H locs G => ?_)
  obtain ⟨f_4, ef_4⟩ : ∃ f_4 : Nat → Int32, f_4 = (upd f_3 (15 : Int32).toNatClampNeg (vp_nar .byte ((p1 >>> ((0 : Int32) &&& 31)).toInt8.toInt32))) := ⟨_, rfl⟩
  have G : mG D A s H locs [(tp, .inr (7, [.ref bt, .int 15, .int 0, .int 40, .int 0, .int 0, .int 0])), (bt, .inl (K 1, 400, .inl f_4))] := by subst ef_4; exact G
  clear ef_4
  refine lv_aload_n E.1 E.2.1 dX7_append_30 rfl (lv_at hl 1 rfl) ?_
  refine lv_dup E.1 E.2.1 dX7_append_31 rfl ?_
  refine m_get E G 0 (ci := 7) rfl 1 (C := RX7) (T := TX7) (N := 7) rfl (by decide) mw_fl_7_15 (v := .int 15) rfl dX7_append_32 ?_
  refine lv_iconst (v := 1) E.1 E.2.1 dX7_append_35 (by decide) ?_
  refine lv_iadd E.1 E.2.1 dX7_append_36 ?_
  refine m_ci 16 (by decide) ?_
  refine m_put E G 0 (ci := 7) rfl 1 (C := RX7) (T := TX7) (N := 7) rfl (by decide) mw_fl_7_15 rfl rfl rfl (Nat.le_of_ble_eq_true rfl) dX7_append_37 (fun H locs G => ?_)
  have G : mG D A s H locs [(tp, .inr (7, [.ref bt, .int 16, .int 0, .int 40, .int 0, .int 0, .int 0])), (bt, .inl (K 1, 400, .inl f_4))] := G
  refine lv_iinc (v := (-8)) (lv' := [(2, .int (-8)), (0, .ref tp), (1, .int p1)]) E.1 E.2.1 dX7_append_40 hl (k := 0) rfl (by decide) (by decide) rfl (fun ls hl => ?_)
  refine lv_goto (tgt := 3) E.1 E.2.1 dX7_append_43 (by decide) ?_
  refine lv_iload_n E.1 E.2.1 dX7_append_3 rfl (lv_at hl 0 rfl) ?_
  refine lv_if_lt (tgt := 46) E.1 E.2.1 dX7_append_4 (by decide) (fun _ => ?_) (fun h => absurd (by decide) h)
  exact m_retv E G hr (fun _ => 0, fun k => ([f_4] : List (Nat → Int32)).getD k (fun _ => 0), fun _ _ => none) trivial [0, 1] (by decide) rfl (by decide) (by decide) dX7_append_46
set_option maxHeartbeats 4000000 in
set_option maxRecDepth 100000 in
theorem k_append_16 (l : Launch) (D : va_G) (K : Nat → ClassId) (tp : Nat) (bt : Nat) (f0 : Nat → Int32) (p1 : Int32) : mV (S := mU) l yX7_append cX7_append 3 ({ frames := 0, cells := 0, slots := 0, locals := 0 }) D K [(tp, .inr (7, [.ref bt, .int 16, .int 0, .int 40, .int 0, .int 0, .int 0])), (bt, .inl (K 1, 400, .inl f0))] [.ref tp, .int p1] (fun u => True) (fun u => [(tp, .inr (7, [.ref bt, .int 20, .int 0, .int 40, .int 0, .int 0, .int 0])), (bt, .inl (K 1, 400, .inl (u.2.1 0)))]) := by
  refine m_enterV (by decide) (Nat.le_of_ble_eq_true rfl) ?_
  intro p e s m args below meth c A ls E hr hN G hl
  have E : mE p s m meth c cX7_append args 3 RX7 D K A := E
  have hl : lv_has ls 3 [(0, .ref tp), (1, .int p1)] := hl
  obtain ⟨H, hH⟩ : ∃ H, H = s.heap := ⟨_, rfl⟩
  obtain ⟨locs, hlo⟩ : ∃ L : List Loc, L = [] := ⟨_, rfl⟩
  rw [← hH, ← hlo] at G
  rw [← hH, ← hlo]
  have G : mG D A s H locs [(tp, .inr (7, [.ref bt, .int 16, .int 0, .int 40, .int 0, .int 0, .int 0])), (bt, .inl (K 1, 400, .inl f0))] := G
  clear hH hlo
  refine lv_bipush (v := 24) E.1 E.2.1 dX7_append_0 (by decide) ?_
  refine lv_istore_n (lv' := [(2, .int 24), (0, .ref tp), (1, .int p1)]) E.1 E.2.1 dX7_append_2 rfl hl (by decide) rfl (fun ls hl => ?_)
  refine lv_iload_n E.1 E.2.1 dX7_append_3 rfl (lv_at hl 0 rfl) ?_
  refine lv_if_lt (tgt := 46) E.1 E.2.1 dX7_append_4 (by decide) (fun h => absurd h (by decide)) (fun _ => ?_)
  refine lv_aload_n E.1 E.2.1 dX7_append_7 rfl (lv_at hl 1 rfl) ?_
  refine m_get E G 0 (ci := 7) rfl 1 (C := RX7) (T := TX7) (N := 7) rfl (by decide) mw_fl_7_15 (v := .int 16) rfl dX7_append_8 ?_
  refine lv_sipush (v := 400) E.1 E.2.1 dX7_append_11 (by decide) ?_
  refine lv_icmp_ge (tgt := 40) E.1 E.2.1 dX7_append_14 (by decide) (fun h => absurd h (by decide)) (fun _ => ?_)
  refine lv_aload_n E.1 E.2.1 dX7_append_17 rfl (lv_at hl 1 rfl) ?_
  refine m_get E G 0 (ci := 7) rfl 0 (C := RX7) (T := TX7) (N := 7) rfl (by decide) mw_fl_7_9 (v := .ref bt) rfl dX7_append_18 ?_
  refine lv_aload_n E.1 E.2.1 dX7_append_21 rfl (lv_at hl 1 rfl) ?_
  refine m_get E G 0 (ci := 7) rfl 1 (C := RX7) (T := TX7) (N := 7) rfl (by decide) mw_fl_7_15 (v := .int 16) rfl dX7_append_22 ?_
  refine lv_iload_n E.1 E.2.1 dX7_append_25 rfl (lv_at hl 2 rfl) ?_
  refine lv_iload_n E.1 E.2.1 dX7_append_26 rfl (lv_at hl 0 rfl) ?_
  refine lv_ishr E.1 E.2.1 dX7_append_27 ?_
  refine lv_i2b E.1 E.2.1 dX7_append_28 rfl ?_
  refine m_bast E G 1 rfl (by unfold vp_in; decide) dX7_append_29 (fun H locs G => ?_)
  obtain ⟨f_1, ef_1⟩ : ∃ f_1 : Nat → Int32, f_1 = (upd f0 (16 : Int32).toNatClampNeg (vp_nar .byte ((p1 >>> ((24 : Int32) &&& 31)).toInt8.toInt32))) := ⟨_, rfl⟩
  have G : mG D A s H locs [(tp, .inr (7, [.ref bt, .int 16, .int 0, .int 40, .int 0, .int 0, .int 0])), (bt, .inl (K 1, 400, .inl f_1))] := by subst ef_1; exact G
  clear ef_1
  refine lv_aload_n E.1 E.2.1 dX7_append_30 rfl (lv_at hl 1 rfl) ?_
  refine lv_dup E.1 E.2.1 dX7_append_31 rfl ?_
  refine m_get E G 0 (ci := 7) rfl 1 (C := RX7) (T := TX7) (N := 7) rfl (by decide) mw_fl_7_15 (v := .int 16) rfl dX7_append_32 ?_
  refine lv_iconst (v := 1) E.1 E.2.1 dX7_append_35 (by decide) ?_
  refine lv_iadd E.1 E.2.1 dX7_append_36 ?_
  refine m_ci 17 (by decide) ?_
  refine m_put E G 0 (ci := 7) rfl 1 (C := RX7) (T := TX7) (N := 7) rfl (by decide) mw_fl_7_15 rfl rfl rfl (Nat.le_of_ble_eq_true rfl) dX7_append_37 (fun H locs G => ?_)
  have G : mG D A s H locs [(tp, .inr (7, [.ref bt, .int 17, .int 0, .int 40, .int 0, .int 0, .int 0])), (bt, .inl (K 1, 400, .inl f_1))] := G
  refine lv_iinc (v := 16) (lv' := [(2, .int 16), (0, .ref tp), (1, .int p1)]) E.1 E.2.1 dX7_append_40 hl (k := 0) rfl (by decide) (by decide) rfl (fun ls hl => ?_)
  refine lv_goto (tgt := 3) E.1 E.2.1 dX7_append_43 (by decide) ?_
  refine lv_iload_n E.1 E.2.1 dX7_append_3 rfl (lv_at hl 0 rfl) ?_
  refine lv_if_lt (tgt := 46) E.1 E.2.1 dX7_append_4 (by decide) (fun h => absurd h (by decide)) (fun _ => ?_)
  refine lv_aload_n E.1 E.2.1 dX7_append_7 rfl (lv_at hl 1 rfl) ?_
  refine m_get E G 0 (ci := 7) rfl 1 (C := RX7) (T := TX7) (N := 7) rfl (by decide) mw_fl_7_15 (v := .int 17) rfl dX7_append_8 ?_
  refine lv_sipush (v := 400) E.1 E.2.1 dX7_append_11 (by decide) ?_
  refine lv_icmp_ge (tgt := 40) E.1 E.2.1 dX7_append_14 (by decide) (fun h => absurd h (by decide)) (fun _ => ?_)
  refine lv_aload_n E.1 E.2.1 dX7_append_17 rfl (lv_at hl 1 rfl) ?_
  refine m_get E G 0 (ci := 7) rfl 0 (C := RX7) (T := TX7) (N := 7) rfl (by decide) mw_fl_7_9 (v := .ref bt) rfl dX7_append_18 ?_
  refine lv_aload_n E.1 E.2.1 dX7_append_21 rfl (lv_at hl 1 rfl) ?_
  refine m_get E G 0 (ci := 7) rfl 1 (C := RX7) (T := TX7) (N := 7) rfl (by decide) mw_fl_7_15 (v := .int 17) rfl dX7_append_22 ?_
  refine lv_iload_n E.1 E.2.1 dX7_append_25 rfl (lv_at hl 2 rfl) ?_
  refine lv_iload_n E.1 E.2.1 dX7_append_26 rfl (lv_at hl 0 rfl) ?_
  refine lv_ishr E.1 E.2.1 dX7_append_27 ?_
  refine lv_i2b E.1 E.2.1 dX7_append_28 rfl ?_
  refine m_bast E G 1 rfl (by unfold vp_in; decide) dX7_append_29 (fun H locs G => ?_)
  obtain ⟨f_2, ef_2⟩ : ∃ f_2 : Nat → Int32, f_2 = (upd f_1 (17 : Int32).toNatClampNeg (vp_nar .byte ((p1 >>> ((16 : Int32) &&& 31)).toInt8.toInt32))) := ⟨_, rfl⟩
  have G : mG D A s H locs [(tp, .inr (7, [.ref bt, .int 17, .int 0, .int 40, .int 0, .int 0, .int 0])), (bt, .inl (K 1, 400, .inl f_2))] := by subst ef_2; exact G
  clear ef_2
  refine lv_aload_n E.1 E.2.1 dX7_append_30 rfl (lv_at hl 1 rfl) ?_
  refine lv_dup E.1 E.2.1 dX7_append_31 rfl ?_
  refine m_get E G 0 (ci := 7) rfl 1 (C := RX7) (T := TX7) (N := 7) rfl (by decide) mw_fl_7_15 (v := .int 17) rfl dX7_append_32 ?_
  refine lv_iconst (v := 1) E.1 E.2.1 dX7_append_35 (by decide) ?_
  refine lv_iadd E.1 E.2.1 dX7_append_36 ?_
  refine m_ci 18 (by decide) ?_
  refine m_put E G 0 (ci := 7) rfl 1 (C := RX7) (T := TX7) (N := 7) rfl (by decide) mw_fl_7_15 rfl rfl rfl (Nat.le_of_ble_eq_true rfl) dX7_append_37 (fun H locs G => ?_)
  have G : mG D A s H locs [(tp, .inr (7, [.ref bt, .int 18, .int 0, .int 40, .int 0, .int 0, .int 0])), (bt, .inl (K 1, 400, .inl f_2))] := G
  refine lv_iinc (v := 8) (lv' := [(2, .int 8), (0, .ref tp), (1, .int p1)]) E.1 E.2.1 dX7_append_40 hl (k := 0) rfl (by decide) (by decide) rfl (fun ls hl => ?_)
  refine lv_goto (tgt := 3) E.1 E.2.1 dX7_append_43 (by decide) ?_
  refine lv_iload_n E.1 E.2.1 dX7_append_3 rfl (lv_at hl 0 rfl) ?_
  refine lv_if_lt (tgt := 46) E.1 E.2.1 dX7_append_4 (by decide) (fun h => absurd h (by decide)) (fun _ => ?_)
  refine lv_aload_n E.1 E.2.1 dX7_append_7 rfl (lv_at hl 1 rfl) ?_
  refine m_get E G 0 (ci := 7) rfl 1 (C := RX7) (T := TX7) (N := 7) rfl (by decide) mw_fl_7_15 (v := .int 18) rfl dX7_append_8 ?_
  refine lv_sipush (v := 400) E.1 E.2.1 dX7_append_11 (by decide) ?_
  refine lv_icmp_ge (tgt := 40) E.1 E.2.1 dX7_append_14 (by decide) (fun h => absurd h (by decide)) (fun _ => ?_)
  refine lv_aload_n E.1 E.2.1 dX7_append_17 rfl (lv_at hl 1 rfl) ?_
  refine m_get E G 0 (ci := 7) rfl 0 (C := RX7) (T := TX7) (N := 7) rfl (by decide) mw_fl_7_9 (v := .ref bt) rfl dX7_append_18 ?_
  refine lv_aload_n E.1 E.2.1 dX7_append_21 rfl (lv_at hl 1 rfl) ?_
  refine m_get E G 0 (ci := 7) rfl 1 (C := RX7) (T := TX7) (N := 7) rfl (by decide) mw_fl_7_15 (v := .int 18) rfl dX7_append_22 ?_
  refine lv_iload_n E.1 E.2.1 dX7_append_25 rfl (lv_at hl 2 rfl) ?_
  refine lv_iload_n E.1 E.2.1 dX7_append_26 rfl (lv_at hl 0 rfl) ?_
  refine lv_ishr E.1 E.2.1 dX7_append_27 ?_
  refine lv_i2b E.1 E.2.1 dX7_append_28 rfl ?_
  refine m_bast E G 1 rfl (by unfold vp_in; decide) dX7_append_29 (fun H locs G => ?_)
  obtain ⟨f_3, ef_3⟩ : ∃ f_3 : Nat → Int32, f_3 = (upd f_2 (18 : Int32).toNatClampNeg (vp_nar .byte ((p1 >>> ((8 : Int32) &&& 31)).toInt8.toInt32))) := ⟨_, rfl⟩
  have G : mG D A s H locs [(tp, .inr (7, [.ref bt, .int 18, .int 0, .int 40, .int 0, .int 0, .int 0])), (bt, .inl (K 1, 400, .inl f_3))] := by subst ef_3; exact G
  clear ef_3
  refine lv_aload_n E.1 E.2.1 dX7_append_30 rfl (lv_at hl 1 rfl) ?_
  refine lv_dup E.1 E.2.1 dX7_append_31 rfl ?_
  refine m_get E G 0 (ci := 7) rfl 1 (C := RX7) (T := TX7) (N := 7) rfl (by decide) mw_fl_7_15 (v := .int 18) rfl dX7_append_32 ?_
  refine lv_iconst (v := 1) E.1 E.2.1 dX7_append_35 (by decide) ?_
  refine lv_iadd E.1 E.2.1 dX7_append_36 ?_
  refine m_ci 19 (by decide) ?_
  refine m_put E G 0 (ci := 7) rfl 1 (C := RX7) (T := TX7) (N := 7) rfl (by decide) mw_fl_7_15 rfl rfl rfl (Nat.le_of_ble_eq_true rfl) dX7_append_37 (fun H locs G => ?_)
  have G : mG D A s H locs [(tp, .inr (7, [.ref bt, .int 19, .int 0, .int 40, .int 0, .int 0, .int 0])), (bt, .inl (K 1, 400, .inl f_3))] := G
  refine lv_iinc (v := 0) (lv' := [(2, .int 0), (0, .ref tp), (1, .int p1)]) E.1 E.2.1 dX7_append_40 hl (k := 0) rfl (by decide) (by decide) rfl (fun ls hl => ?_)
  refine lv_goto (tgt := 3) E.1 E.2.1 dX7_append_43 (by decide) ?_
  refine lv_iload_n E.1 E.2.1 dX7_append_3 rfl (lv_at hl 0 rfl) ?_
  refine lv_if_lt (tgt := 46) E.1 E.2.1 dX7_append_4 (by decide) (fun h => absurd h (by decide)) (fun _ => ?_)
  refine lv_aload_n E.1 E.2.1 dX7_append_7 rfl (lv_at hl 1 rfl) ?_
  refine m_get E G 0 (ci := 7) rfl 1 (C := RX7) (T := TX7) (N := 7) rfl (by decide) mw_fl_7_15 (v := .int 19) rfl dX7_append_8 ?_
  refine lv_sipush (v := 400) E.1 E.2.1 dX7_append_11 (by decide) ?_
  refine lv_icmp_ge (tgt := 40) E.1 E.2.1 dX7_append_14 (by decide) (fun h => absurd h (by decide)) (fun _ => ?_)
  refine lv_aload_n E.1 E.2.1 dX7_append_17 rfl (lv_at hl 1 rfl) ?_
  refine m_get E G 0 (ci := 7) rfl 0 (C := RX7) (T := TX7) (N := 7) rfl (by decide) mw_fl_7_9 (v := .ref bt) rfl dX7_append_18 ?_
  refine lv_aload_n E.1 E.2.1 dX7_append_21 rfl (lv_at hl 1 rfl) ?_
  refine m_get E G 0 (ci := 7) rfl 1 (C := RX7) (T := TX7) (N := 7) rfl (by decide) mw_fl_7_15 (v := .int 19) rfl dX7_append_22 ?_
  refine lv_iload_n E.1 E.2.1 dX7_append_25 rfl (lv_at hl 2 rfl) ?_
  refine lv_iload_n E.1 E.2.1 dX7_append_26 rfl (lv_at hl 0 rfl) ?_
  refine lv_ishr E.1 E.2.1 dX7_append_27 ?_
  refine lv_i2b E.1 E.2.1 dX7_append_28 rfl ?_
  refine m_bast E G 1 rfl (by unfold vp_in; decide) dX7_append_29 (fun H locs G => ?_)
  obtain ⟨f_4, ef_4⟩ : ∃ f_4 : Nat → Int32, f_4 = (upd f_3 (19 : Int32).toNatClampNeg (vp_nar .byte ((p1 >>> ((0 : Int32) &&& 31)).toInt8.toInt32))) := ⟨_, rfl⟩
  have G : mG D A s H locs [(tp, .inr (7, [.ref bt, .int 19, .int 0, .int 40, .int 0, .int 0, .int 0])), (bt, .inl (K 1, 400, .inl f_4))] := by subst ef_4; exact G
  clear ef_4
  refine lv_aload_n E.1 E.2.1 dX7_append_30 rfl (lv_at hl 1 rfl) ?_
  refine lv_dup E.1 E.2.1 dX7_append_31 rfl ?_
  refine m_get E G 0 (ci := 7) rfl 1 (C := RX7) (T := TX7) (N := 7) rfl (by decide) mw_fl_7_15 (v := .int 19) rfl dX7_append_32 ?_
  refine lv_iconst (v := 1) E.1 E.2.1 dX7_append_35 (by decide) ?_
  refine lv_iadd E.1 E.2.1 dX7_append_36 ?_
  refine m_ci 20 (by decide) ?_
  refine m_put E G 0 (ci := 7) rfl 1 (C := RX7) (T := TX7) (N := 7) rfl (by decide) mw_fl_7_15 rfl rfl rfl (Nat.le_of_ble_eq_true rfl) dX7_append_37 (fun H locs G => ?_)
  have G : mG D A s H locs [(tp, .inr (7, [.ref bt, .int 20, .int 0, .int 40, .int 0, .int 0, .int 0])), (bt, .inl (K 1, 400, .inl f_4))] := G
  refine lv_iinc (v := (-8)) (lv' := [(2, .int (-8)), (0, .ref tp), (1, .int p1)]) E.1 E.2.1 dX7_append_40 hl (k := 0) rfl (by decide) (by decide) rfl (fun ls hl => ?_)
  refine lv_goto (tgt := 3) E.1 E.2.1 dX7_append_43 (by decide) ?_
  refine lv_iload_n E.1 E.2.1 dX7_append_3 rfl (lv_at hl 0 rfl) ?_
  refine lv_if_lt (tgt := 46) E.1 E.2.1 dX7_append_4 (by decide) (fun _ => ?_) (fun h => absurd (by decide) h)
  exact m_retv E G hr (fun _ => 0, fun k => ([f_4] : List (Nat → Int32)).getD k (fun _ => 0), fun _ _ => none) trivial [0, 1] (by decide) rfl (by decide) (by decide) dX7_append_46
