theorem mw_code_X1_goStep : (Cond.code yX1_goStep cX1_goStep 3 (some .int) : Cond) ∈ cw := cw_of (List.mem_append_right _ (List.mem_append_right _ (List.mem_append_right _ (List.mem_append_right _ (List.mem_append_left _ (List.mem_of_getElem? (i := 85) rfl)))))) (by decide +kernel)
theorem mw_inst_X1_goStep : (Cond.instanceMethod yX1_goStep : Cond) ∈ cw := cw_of (List.mem_append_right _ (List.mem_append_right _ (List.mem_append_right _ (List.mem_append_right _ (List.mem_append_left _ (List.mem_of_getElem? (i := 83) (by decide +kernel))))))) (by decide +kernel)
theorem mw_ml_1_46 : (Cond.methodLink RX1 46 yX1_goStep : Cond) ∈ cw := cw_of (List.mem_append_right _ (List.mem_append_right _ (List.mem_append_right _ (List.mem_append_right _ (List.mem_append_left _ (List.mem_of_getElem? (i := 170) (by decide +kernel))))))) (by decide +kernel)
theorem mw_sel_X1_goStep : (Cond.selects RX1 yX1_goStep yX1_goStep : Cond) ∈ cw := cw_of (List.mem_append_right _ (List.mem_append_right _ (List.mem_append_right _ (List.mem_append_right _ (List.mem_append_left _ (List.mem_of_getElem? (i := 84) (by decide +kernel))))))) (by decide +kernel)
theorem dX1_goSteps_0 : decode cX1_goSteps 0 = .ok (.iconst 0, 1) := by decide +kernel
theorem dX1_goSteps_1 : decode cX1_goSteps 1 = .ok (.istore_n 2, 1) := by decide +kernel
theorem dX1_goSteps_2 : decode cX1_goSteps 2 = .ok (.iload_n 2, 1) := by decide +kernel
theorem dX1_goSteps_3 : decode cX1_goSteps 3 = .ok (.iload_n 1, 1) := by decide +kernel
theorem dX1_goSteps_4 : decode cX1_goSteps 4 = .ok (.if_icmp .ge 14, 3) := by decide +kernel
theorem dX1_goSteps_7 : decode cX1_goSteps 7 = .ok (.aload_n 0, 1) := by decide +kernel
theorem dX1_goSteps_8 : decode cX1_goSteps 8 = .ok (.invokevirtual 46, 3) := by decide +kernel
theorem dX1_goSteps_11 : decode cX1_goSteps 11 = .ok (.pop, 1) := by decide +kernel
theorem dX1_goSteps_12 : decode cX1_goSteps 12 = .ok (.iinc 2 1, 3) := by decide +kernel
theorem dX1_goSteps_15 : decode cX1_goSteps 15 = .ok (.goto (-13), 3) := by decide +kernel
theorem dX1_goSteps_18 : decode cX1_goSteps 18 = .ok (.return_, 1) := by decide +kernel
theorem hd_X1_goStep : yX1_goStep.cls ≠ "java/lang/invoke/MethodHandle" ∧ yX1_goStep.cls ≠ "java/lang/invoke/VarHandle" ∧ (parseMethodDescriptor yX1_goStep.desc).map (fun d => d.parameters.length) = some 0 := ⟨by decide +kernel, by decide +kernel, by decide +kernel⟩
set_option maxHeartbeats 4000000 in
set_option maxRecDepth 100000 in
theorem c_goSteps (l : Launch) (D : va_G) (K : Nat → ClassId) (ad : Nat → Nat) (z : TS) (o : Ok z) (x1 : Int32) (bx1 : iv 0 100 x1) : cV l yX1_goSteps cX1_goSteps 3 ({ frames := 5, cells := 0, slots := 0, locals := 124 }) D K ad z [.ref (ad 324), .int x1] (fun u => Ok u ∧ KC z u) := by
  refine t_enterV (by decide) (Nat.le_of_ble_eq_true rfl) rfl rfl ?_
  intro p e s m args below meth c A R Q H locs ls E hfr hlo RET G hl
  have E : mE p s m meth c cX1_goSteps args 3 RX1 D K A := E
  have hl : lv_has ls 3 [(0, .ref (ad 324)), (1, .int x1)] := hl
  refine lv_iconst (v := 0) E.1 E.2.1 dX1_goSteps_0 (by decide) ?_
  refine lv_istore_n (lv' := [(2, .int 0), (0, .ref (ad 324)), (1, .int x1)]) E.1 E.2.1 dX1_goSteps_1 rfl hl (by decide) rfl (fun ls hl => ?_)
  have LOOP2 : ∀ n : Nat, ∀ (zz2 : TS) (y1 : Int32) (H : Heap) (locs : List Loc) (ls : Array Slot), mG D A s H locs (wd K ad zz2) → Ok zz2 → KC z zz2 → iv 0 100 y1 → 100 < y1.toInt + (n : Int) → lv_has ls 3 [(2, .int y1), (0, .ref (ad 324)), (1, .int x1)] → W p l e R s m args below meth c H locs 0 0 Q (F0 m 2 ls []) := by
    intro n
    induction n with
    | zero =>
      intro zz2 y1 H locs ls G oo3 kk4 b6 m5 hl
      exact absurd m5 (by have := b6.1; have := b6.2; omega)
    | succ n ih2 =>
      intro zz2 y1 H locs ls G oo3 kk4 b6 m5 hl
      refine lv_iload_n E.1 E.2.1 dX1_goSteps_2 rfl (lv_at hl 0 rfl) ?_
      refine lv_iload_n E.1 E.2.1 dX1_goSteps_3 rfl (lv_at hl 2 rfl) ?_
      refine lv_icmp_ge (tgt := 18) E.1 E.2.1 dX1_goSteps_4 (by decide) (fun c7 => ?_) (fun c7 => ?_)
      · skip
        exact RET G ⟨oo3, kk4⟩ dX1_goSteps_18
      · skip
        have b8 : iv 0 99 y1 := lt_l (Int32.not_le.mp c7) b6 bx1 (by decide)
        have b9 : iv 1 100 x1 := lt_r (Int32.not_le.mp c7) b6 bx1 (by decide)
        refine lv_aload_n E.1 E.2.1 dX1_goSteps_7 rfl (lv_at hl 1 rfl) ?_
        refine t_vi E G hl (c_goStep l D K ad zz2 oo3) 1 (rfl : ro 324 = 1) (by decide) rfl rfl 0 rfl mw_code_X1_goStep mw_ini_1 mw_ml_1_46 mw_inst_X1_goStep mw_sel_X1_goStep hd_X1_goStep ⟨Nat.le_trans (by decide) hfr, Nat.le_trans (by decide) hlo⟩ rfl rfl rfl (Nat.le_of_ble_eq_true rfl) dX1_goSteps_8 (fun r11 zz10 H locs hp12 G => ?_)
        obtain ⟨oo13, kk14⟩ := hp12
        have kk15 : KC z zz10 := KC.tr kk4 kk14
        refine lv_pop E.1 E.2.1 dX1_goSteps_11 rfl ?_
        obtain ⟨v16, e17⟩ : ∃ w : Int32, w = y1 + (1 : Int32) := ⟨_, rfl⟩
        refine lv_iinc (v := v16) (lv' := [(2, .int v16), (0, .ref (ad 324)), (1, .int x1)]) E.1 E.2.1 dX1_goSteps_12 hl (k := 0) rfl (by rw [e17]; rfl) (by decide) rfl (fun ls hl => ?_)
        have b18 : iv 1 100 v16 := by rw [e17]; exact iv_add b8 (iv_lit (lo := 1) (hi := 1) 1 (by decide) (by decide)) (by decide) (by decide) (by decide) (by decide)
        have t19 : v16.toInt = y1.toInt + 1 := by rw [e17]; exact ti_addc 1 (by decide) b8 (by decide) (by decide)
        refine lv_goto (tgt := 2) E.1 E.2.1 dX1_goSteps_15 (by decide) ?_
        exact ih2 zz10 v16 H locs ls G oo13 kk15 (iv_mono b18 (by decide) (by decide)) (by have := t19; have := m5; omega) (lv_sub hl [0, 1, 2] rfl)
  exact LOOP2 101 z 0 H locs ls G o KC.rf (iv_mono (iv_lit (lo := 0) (hi := 0) 0 (by decide) (by decide)) (by decide) (by decide)) (by have := (iv_lit (lo := 0) (hi := 0) 0 (by decide) (by decide)).1; omega) (lv_sub hl [0, 1, 2] rfl)
