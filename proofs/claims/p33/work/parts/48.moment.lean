theorem mw_code_X3_copyFrom : (Cond.code yX3_copyFrom cX3_copyFrom 2 none : Cond) ∈ cw := cw_of (List.mem_append_right _ (List.mem_append_right _ (List.mem_append_right _ (List.mem_append_right _ (List.mem_append_right _ (List.mem_append_left _ (List.mem_of_getElem? (i := 95) rfl))))))) (by decide +kernel)
theorem mw_code_X8_copyFrom : (Cond.code yX8_copyFrom cX8_copyFrom 2 none : Cond) ∈ cw := cw_of (List.mem_append_right _ (List.mem_append_right _ (List.mem_append_right _ (List.mem_append_left _ (List.mem_of_getElem? (i := 163) rfl))))) (by decide +kernel)
theorem mw_fl_2_12 : (Cond.fieldLink RX2 12 "LureTown$Moment" "place" "LLureTown$Town;" : Cond) ∈ cw := cw_of (List.mem_append_right _ (List.mem_append_right _ (List.mem_append_left _ (List.mem_of_getElem? (i := 51) (by decide +kernel))))) (by decide +kernel)
theorem mw_fl_2_21 : (Cond.fieldLink RX2 21 "LureTown$Moment" "state" "LLureTown$State;" : Cond) ∈ cw := cw_of (List.mem_append_right _ (List.mem_append_right _ (List.mem_append_left _ (List.mem_of_getElem? (i := 53) (by decide +kernel))))) (by decide +kernel)
theorem mw_fl_2_28 : (Cond.fieldLink RX2 28 "LureTown$Moment" "notes" "LLureTown$Notes;" : Cond) ∈ cw := cw_of (List.mem_append_right _ (List.mem_append_right _ (List.mem_append_left _ (List.mem_of_getElem? (i := 55) (by decide +kernel))))) (by decide +kernel)
theorem mw_fl_2_32 : (Cond.fieldLink RX2 32 "LureTown$Moment" "inForce" "I" : Cond) ∈ cw := cw_of (List.mem_append_right _ (List.mem_append_right _ (List.mem_append_left _ (List.mem_of_getElem? (i := 57) (by decide +kernel))))) (by decide +kernel)
theorem mw_fl_2_36 : (Cond.fieldLink RX2 36 "LureTown$Moment" "x" "I" : Cond) ∈ cw := cw_of (List.mem_append_right _ (List.mem_append_right _ (List.mem_append_left _ (List.mem_of_getElem? (i := 59) (by decide +kernel))))) (by decide +kernel)
theorem mw_inst_X3_copyFrom : (Cond.instanceMethod yX3_copyFrom : Cond) ∈ cw := cw_of (List.mem_append_right _ (List.mem_append_right _ (List.mem_append_right _ (List.mem_append_right _ (List.mem_append_right _ (List.mem_append_left _ (List.mem_of_getElem? (i := 93) (by decide +kernel)))))))) (by decide +kernel)
theorem mw_inst_X8_copyFrom : (Cond.instanceMethod yX8_copyFrom : Cond) ∈ cw := cw_of (List.mem_append_right _ (List.mem_append_right _ (List.mem_append_right _ (List.mem_append_left _ (List.mem_of_getElem? (i := 161) (by decide +kernel)))))) (by decide +kernel)
theorem mw_ml_2_39 : (Cond.methodLink RX2 39 yX8_copyFrom : Cond) ∈ cw := cw_of (List.mem_append_right _ (List.mem_append_right _ (List.mem_append_right _ (List.mem_append_right _ (List.mem_append_right _ (List.mem_append_left _ (List.mem_of_getElem? (i := 90) (by decide +kernel)))))))) (by decide +kernel)
theorem mw_ml_2_43 : (Cond.methodLink RX2 43 yX6_copyFrom : Cond) ∈ cw := cw_of (List.mem_append_right _ (List.mem_append_right _ (List.mem_append_right _ (List.mem_append_right _ (List.mem_append_right _ (List.mem_append_left _ (List.mem_of_getElem? (i := 91) (by decide +kernel)))))))) (by decide +kernel)
theorem mw_ml_2_46 : (Cond.methodLink RX2 46 yX3_copyFrom : Cond) ∈ cw := cw_of (List.mem_append_right _ (List.mem_append_right _ (List.mem_append_right _ (List.mem_append_right _ (List.mem_append_right _ (List.mem_append_left _ (List.mem_of_getElem? (i := 92) (by decide +kernel)))))))) (by decide +kernel)
theorem mw_sel_X3_copyFrom : (Cond.selects RX3 yX3_copyFrom yX3_copyFrom : Cond) ∈ cw := cw_of (List.mem_append_right _ (List.mem_append_right _ (List.mem_append_right _ (List.mem_append_right _ (List.mem_append_right _ (List.mem_append_left _ (List.mem_of_getElem? (i := 94) (by decide +kernel)))))))) (by decide +kernel)
theorem mw_sel_X8_copyFrom : (Cond.selects RX8 yX8_copyFrom yX8_copyFrom : Cond) ∈ cw := cw_of (List.mem_append_right _ (List.mem_append_right _ (List.mem_append_right _ (List.mem_append_left _ (List.mem_of_getElem? (i := 162) (by decide +kernel)))))) (by decide +kernel)
theorem dX2_copyFrom_0 : decode cX2_copyFrom 0 = .ok (.aload_n 0, 1) := by decide +kernel
theorem dX2_copyFrom_1 : decode cX2_copyFrom 1 = .ok (.getfield 12, 3) := by decide +kernel
theorem dX2_copyFrom_4 : decode cX2_copyFrom 4 = .ok (.aload_n 1, 1) := by decide +kernel
theorem dX2_copyFrom_5 : decode cX2_copyFrom 5 = .ok (.getfield 12, 3) := by decide +kernel
theorem dX2_copyFrom_8 : decode cX2_copyFrom 8 = .ok (.invokevirtual 39, 3) := by decide +kernel
theorem dX2_copyFrom_11 : decode cX2_copyFrom 11 = .ok (.aload_n 0, 1) := by decide +kernel
theorem dX2_copyFrom_12 : decode cX2_copyFrom 12 = .ok (.getfield 21, 3) := by decide +kernel
theorem dX2_copyFrom_15 : decode cX2_copyFrom 15 = .ok (.aload_n 1, 1) := by decide +kernel
theorem dX2_copyFrom_16 : decode cX2_copyFrom 16 = .ok (.getfield 21, 3) := by decide +kernel
theorem dX2_copyFrom_19 : decode cX2_copyFrom 19 = .ok (.invokevirtual 43, 3) := by decide +kernel
theorem dX2_copyFrom_22 : decode cX2_copyFrom 22 = .ok (.aload_n 0, 1) := by decide +kernel
theorem dX2_copyFrom_23 : decode cX2_copyFrom 23 = .ok (.getfield 28, 3) := by decide +kernel
theorem dX2_copyFrom_26 : decode cX2_copyFrom 26 = .ok (.aload_n 1, 1) := by decide +kernel
theorem dX2_copyFrom_27 : decode cX2_copyFrom 27 = .ok (.getfield 28, 3) := by decide +kernel
theorem dX2_copyFrom_30 : decode cX2_copyFrom 30 = .ok (.invokevirtual 46, 3) := by decide +kernel
theorem dX2_copyFrom_33 : decode cX2_copyFrom 33 = .ok (.aload_n 0, 1) := by decide +kernel
theorem dX2_copyFrom_34 : decode cX2_copyFrom 34 = .ok (.aload_n 1, 1) := by decide +kernel
theorem dX2_copyFrom_35 : decode cX2_copyFrom 35 = .ok (.getfield 32, 3) := by decide +kernel
theorem dX2_copyFrom_38 : decode cX2_copyFrom 38 = .ok (.putfield 32, 3) := by decide +kernel
theorem dX2_copyFrom_41 : decode cX2_copyFrom 41 = .ok (.aload_n 0, 1) := by decide +kernel
theorem dX2_copyFrom_42 : decode cX2_copyFrom 42 = .ok (.aload_n 1, 1) := by decide +kernel
theorem dX2_copyFrom_43 : decode cX2_copyFrom 43 = .ok (.getfield 36, 3) := by decide +kernel
theorem dX2_copyFrom_46 : decode cX2_copyFrom 46 = .ok (.putfield 36, 3) := by decide +kernel
theorem dX2_copyFrom_49 : decode cX2_copyFrom 49 = .ok (.return_, 1) := by decide +kernel
theorem hd_X3_copyFrom : yX3_copyFrom.cls ≠ "java/lang/invoke/MethodHandle" ∧ yX3_copyFrom.cls ≠ "java/lang/invoke/VarHandle" ∧ (parseMethodDescriptor yX3_copyFrom.desc).map (fun d => d.parameters.length) = some 1 := ⟨by decide +kernel, by decide +kernel, by decide +kernel⟩
theorem hd_X8_copyFrom : yX8_copyFrom.cls ≠ "java/lang/invoke/MethodHandle" ∧ yX8_copyFrom.cls ≠ "java/lang/invoke/VarHandle" ∧ (parseMethodDescriptor yX8_copyFrom.desc).map (fun d => d.parameters.length) = some 1 := ⟨by decide +kernel, by decide +kernel, by decide +kernel⟩
theorem kc_x4 {z u : TS} {j : Nat} (h : KC z u) (hj : ro j = 2) : tI u j 4 = tI z j 4 := h.1 j 4 (by rw [hj]; rfl)
/-- what a change of a moment's x leaves, and what that x is -/
def KXp (z : TS) (p : Nat) (v : Int32) (u : TS) : Prop := (∀ j k, kci (ro j) k = true → ¬ (j = p ∧ k = 4) → tI u j k = tI z j k) ∧ KA kca z u ∧ tJ u = tJ z ∧ tI u p 4 = v
theorem KXp.of {z w : TS} {p : Nat} {v : Int32} (h : KC z w) : KXp z p v (setI w p 4 v) :=
  ⟨fun j k q hn => by
    rw [← h.1 j k q]
    show (if j = p ∧ k = 4 then v else tI w j k) = _
    rw [if_neg hn], h.2.1, h.2.2, sI_self⟩
theorem KXp.c {z u w : TS} {p : Nat} {v : Int32} (hp : ro p = 2) (h : KXp z p v u) (h2 : KC u w) : KXp z p v w :=
  ⟨fun j k q hn => (h2.1 j k q).trans (h.1 j k q hn), h.2.1.tr h2.2.1, h2.2.2.trans h.2.2.1, (h2.1 p 4 (by rw [hp]; rfl)).trans h.2.2.2⟩
def KXi (z : TS) (p : Nat) (v b : Int32) (u : TS) : Prop := (∀ j k, kci (ro j) k = true → ¬ (j = p ∧ k = 4) → ¬ (j = 0 ∧ k = 9) → tI u j k = tI z j k) ∧ KA kca z u ∧ tJ u = tJ z ∧ tI u p 4 = v ∧ tI u 0 9 = b
theorem KXi.of {z w : TS} {p : Nat} {v b : Int32} (h : KXp z p v w) (hp : ro p = 2) : KXi z p v b (setI w 0 9 b) :=
  ⟨fun j k q hn hm => by
    rw [← h.1 j k q hn]
    show (if j = 0 ∧ k = 9 then b else tI w j k) = _
    rw [if_neg hm], h.2.1, h.2.2.1, by
    rw [← h.2.2.2]
    show (if p = 0 ∧ 4 = 9 then b else tI w p 4) = _
    rw [if_neg (fun e => by cases e.2)], sI_self⟩
set_option maxHeartbeats 4000000 in
set_option maxRecDepth 100000 in
theorem m_copy (l : Launch) (D : va_G) (K : Nat → ClassId) (ad : Nat → Nat) (z : TS) (o : Ok z) (p0 : Nat) (ap0 : at_ 2 p0 = true) (p1 : Nat) (ap1 : at_ 2 p1 = true) : cV l yX2_copyFrom cX2_copyFrom 2 ({ frames := 3, cells := 0, slots := 0, locals := 68 }) D K ad z [.ref (ad p0), .ref (ad p1)] (fun u => Ok u ∧ KXp z p0 (tI z p1 4) u) := by
  refine t_enterV (by decide) (Nat.le_of_ble_eq_true rfl) rfl rfl ?_
  intro p e s m args below meth c A R Q H locs ls E hfr hlo RET G hl
  have E : mE p s m meth c cX2_copyFrom args 2 RX2 D K A := E
  have hl : lv_has ls 2 [(0, .ref (ad p0)), (1, .ref (ad p1))] := hl
  refine lv_aload_n E.1 E.2.1 dX2_copyFrom_0 rfl (lv_at hl 0 rfl) ?_
  refine t_get E G 2 0 (at_ro (i := 0) ap0 (by decide) : ro p0 = 2) (C := RX2) (T := TX2) (N := 5) rfl (by decide) (by decide) (by decide) mw_fl_2_12 (v := .ref (ad (p0 + 1))) (fvl_o (n := 1) rfl) dX2_copyFrom_1 ?_
  refine lv_aload_n E.1 E.2.1 dX2_copyFrom_4 rfl (lv_at hl 1 rfl) ?_
  refine t_get E G 2 0 (at_ro (i := 0) ap1 (by decide) : ro p1 = 2) (C := RX2) (T := TX2) (N := 5) rfl (by decide) (by decide) (by decide) mw_fl_2_12 (v := .ref (ad (p1 + 1))) (fvl_o (n := 1) rfl) dX2_copyFrom_5 ?_
  refine t_vv E G hl (t_copy l D K ad z o (p0 + 1) (at_sub 8 1 ap0 (by decide) (by decide)) (p1 + 1) (at_sub 8 1 ap1 (by decide) (by decide))) 8 (at_ro (i := 1) ap0 (by decide) : ro (p0 + 1) = 8) (by decide) rfl rfl 1 rfl mw_code_X8_copyFrom mw_ini_8 mw_ml_2_39 mw_inst_X8_copyFrom mw_sel_X8_copyFrom hd_X8_copyFrom ⟨Nat.le_trans (by decide) hfr, Nat.le_trans (by decide) hlo⟩ rfl rfl rfl (Nat.le_of_ble_eq_true rfl) dX2_copyFrom_8 (fun zz1 H locs hp3 G => ?_)
  obtain ⟨oo4, kk5⟩ := hp3
  have kk6 : KC z zz1 := KC.tr KC.rf kk5
  refine lv_aload_n E.1 E.2.1 dX2_copyFrom_11 rfl (lv_at hl 0 rfl) ?_
  refine t_get E G 2 1 (at_ro (i := 0) ap0 (by decide) : ro p0 = 2) (C := RX2) (T := TX2) (N := 5) rfl (by decide) (by decide) (by decide) mw_fl_2_21 (v := .ref (ad (p0 + 14))) (fvl_o (n := 14) rfl) dX2_copyFrom_12 ?_
  refine lv_aload_n E.1 E.2.1 dX2_copyFrom_15 rfl (lv_at hl 1 rfl) ?_
  refine t_get E G 2 1 (at_ro (i := 0) ap1 (by decide) : ro p1 = 2) (C := RX2) (T := TX2) (N := 5) rfl (by decide) (by decide) (by decide) mw_fl_2_21 (v := .ref (ad (p1 + 14))) (fvl_o (n := 14) rfl) dX2_copyFrom_16 ?_
  refine t_vv E G hl (s_copy l D K ad zz1 oo4 (p0 + 14) (at_sub 6 14 ap0 (by decide) (by decide)) (p1 + 14) (at_sub 6 14 ap1 (by decide) (by decide))) 6 (at_ro (i := 14) ap0 (by decide) : ro (p0 + 14) = 6) (by decide) rfl rfl 1 rfl mw_code_X6_copyFrom mw_ini_6 mw_ml_2_43 mw_inst_X6_copyFrom mw_sel_X6_copyFrom hd_X6_copyFrom ⟨Nat.le_trans (by decide) hfr, Nat.le_trans (by decide) hlo⟩ rfl rfl rfl (Nat.le_of_ble_eq_true rfl) dX2_copyFrom_19 (fun zz7 H locs hp9 G => ?_)
  obtain ⟨oo10, kk11⟩ := hp9
  have kk12 : KC z zz7 := KC.tr kk6 kk11
  refine lv_aload_n E.1 E.2.1 dX2_copyFrom_22 rfl (lv_at hl 0 rfl) ?_
  refine t_get E G 2 2 (at_ro (i := 0) ap0 (by decide) : ro p0 = 2) (C := RX2) (T := TX2) (N := 5) rfl (by decide) (by decide) (by decide) mw_fl_2_28 (v := .ref (ad (p0 + 21))) (fvl_o (n := 21) rfl) dX2_copyFrom_23 ?_
  refine lv_aload_n E.1 E.2.1 dX2_copyFrom_26 rfl (lv_at hl 1 rfl) ?_
  refine t_get E G 2 2 (at_ro (i := 0) ap1 (by decide) : ro p1 = 2) (C := RX2) (T := TX2) (N := 5) rfl (by decide) (by decide) (by decide) mw_fl_2_28 (v := .ref (ad (p1 + 21))) (fvl_o (n := 21) rfl) dX2_copyFrom_27 ?_
  refine t_vv E G hl (n_copy l D K ad zz7 oo10 (p0 + 21) (at_sub 3 21 ap0 (by decide) (by decide)) (p1 + 21) (at_sub 3 21 ap1 (by decide) (by decide))) 3 (at_ro (i := 21) ap0 (by decide) : ro (p0 + 21) = 3) (by decide) rfl rfl 1 rfl mw_code_X3_copyFrom mw_ini_3 mw_ml_2_46 mw_inst_X3_copyFrom mw_sel_X3_copyFrom hd_X3_copyFrom ⟨Nat.le_trans (by decide) hfr, Nat.le_trans (by decide) hlo⟩ rfl rfl rfl (Nat.le_of_ble_eq_true rfl) dX2_copyFrom_30 (fun zz13 H locs hp15 G => ?_)
  obtain ⟨oo16, kk17⟩ := hp15
  have kk18 : KC z zz13 := KC.tr kk12 kk17
  refine lv_aload_n E.1 E.2.1 dX2_copyFrom_33 rfl (lv_at hl 0 rfl) ?_
  refine lv_aload_n E.1 E.2.1 dX2_copyFrom_34 rfl (lv_at hl 1 rfl) ?_
  refine t_get E G 2 3 (at_ro (i := 0) ap1 (by decide) : ro p1 = 2) (C := RX2) (T := TX2) (N := 5) rfl (by decide) (by decide) (by decide) mw_fl_2_32 (fvl_i rfl) dX2_copyFrom_35 ?_
  refine lv_topi (fun v19 e20 => ?_)
  refine t_puti E G 2 3 (at_ro (i := 0) ap0 (by decide) : ro p0 = 2) (C := RX2) (T := TX2) (N := 5) rfl (by decide) (by decide) (by decide) rfl rfl mw_fl_2_32 rfl dX2_copyFrom_38 (fun H locs G => ?_)
  obtain ⟨zz21, G, oo22, kk23, h24⟩ : ∃ u : TS, mG D A s H locs (wd K ad u) ∧ Ok u ∧ KC z u ∧ tI u p0 3 = v19 := ⟨_, G, ok_i oo16 2 (at_ro (i := 0) ap0 (by decide) : ro p0 = 2) (iv_mono (iv_full v19) (by decide) (by decide)) (by decide), KC.tr kk18 (KC_i 2 (at_ro (i := 0) ap0 (by decide) : ro p0 = 2) (by decide)), sI_self⟩
  refine lv_aload_n E.1 E.2.1 dX2_copyFrom_41 rfl (lv_at hl 0 rfl) ?_
  refine lv_aload_n E.1 E.2.1 dX2_copyFrom_42 rfl (lv_at hl 1 rfl) ?_
  refine t_get E G 2 4 (at_ro (i := 0) ap1 (by decide) : ro p1 = 2) (C := RX2) (T := TX2) (N := 5) rfl (by decide) (by decide) (by decide) mw_fl_2_36 (fvl_i rfl) dX2_copyFrom_43 ?_
  refine lv_topi (fun v25 e26 => ?_)
  have b27 : iv 0 2147483647 v25 := by rw [e26]; exact oo22.i 2 4 (at_ro (i := 0) ap1 (by decide) : ro p1 = 2)
  refine t_puti E G 2 4 (at_ro (i := 0) ap0 (by decide) : ro p0 = 2) (C := RX2) (T := TX2) (N := 5) rfl (by decide) (by decide) (by decide) rfl rfl mw_fl_2_36 rfl dX2_copyFrom_46 (fun H locs G => ?_)
  obtain ⟨zz28, G, oo29, kx30⟩ : ∃ u : TS, mG D A s H locs (wd K ad u) ∧ Ok u ∧ KXp z p0 v25 u := ⟨_, G, ok_i oo22 2 (at_ro (i := 0) ap0 (by decide) : ro p0 = 2) (iv_mono b27 (by decide) (by decide)) (by decide), KXp.of kk23⟩
  exact RET G ⟨oo29, by rw [← kc_x4 (j := p1) kk23 (at_ro (i := 0) ap1 (by decide) : ro p1 = 2), ← e26]; exact kx30⟩ dX2_copyFrom_49
