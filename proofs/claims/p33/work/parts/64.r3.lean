theorem mw_code_X11_spread : (Cond.code yX11_spread cX11_spread 5 (some .int) : Cond) ∈ cw := cw_of (List.mem_append_right _ (List.mem_append_right _ (List.mem_append_right _ (List.mem_append_right _ (List.mem_append_right _ (List.mem_append_right _ (List.mem_append_right _ (List.mem_append_left _ (List.mem_of_getElem? (i := 8) rfl))))))))) (by decide +kernel)
theorem mw_inst_X11_spread : (Cond.instanceMethod yX11_spread : Cond) ∈ cw := cw_of (List.mem_append_right _ (List.mem_append_right _ (List.mem_append_right _ (List.mem_append_right _ (List.mem_append_right _ (List.mem_append_right _ (List.mem_append_right _ (List.mem_append_left _ (List.mem_of_getElem? (i := 7) (by decide +kernel)))))))))) (by decide +kernel)
theorem mw_ml_11_300 : (Cond.methodLink RX11 300 yX11_spread : Cond) ∈ cw := cw_of (List.mem_append_right _ (List.mem_append_right _ (List.mem_append_right _ (List.mem_append_right _ (List.mem_append_right _ (List.mem_append_right _ (List.mem_append_right _ (List.mem_append_left _ (List.mem_of_getElem? (i := 5) (by decide +kernel)))))))))) (by decide +kernel)
theorem mw_sel_X11_spread : (Cond.selects RX11 yX11_spread yX11_spread : Cond) ∈ cw := cw_of (List.mem_append_left _ (List.mem_of_getElem? (i := 96) (by decide +kernel))) (by decide +kernel)
theorem dX11_waysBut_0 : decode cX11_waysBut 0 = .ok (.iconst 1, 1) := by decide +kernel
theorem dX11_waysBut_1 : decode cX11_waysBut 1 = .ok (.iload_n 1, 1) := by decide +kernel
theorem dX11_waysBut_2 : decode cX11_waysBut 2 = .ok (.ishl, 1) := by decide +kernel
theorem dX11_waysBut_3 : decode cX11_waysBut 3 = .ok (.istore 4, 2) := by decide +kernel
theorem dX11_waysBut_5 : decode cX11_waysBut 5 = .ok (.iconst 0, 1) := by decide +kernel
theorem dX11_waysBut_6 : decode cX11_waysBut 6 = .ok (.istore 5, 2) := by decide +kernel
theorem dX11_waysBut_8 : decode cX11_waysBut 8 = .ok (.iload 5, 2) := by decide +kernel
theorem dX11_waysBut_10 : decode cX11_waysBut 10 = .ok (.bipush 8, 2) := by decide +kernel
theorem dX11_waysBut_12 : decode cX11_waysBut 12 = .ok (.if_icmp .ge 30, 3) := by decide +kernel
theorem dX11_waysBut_15 : decode cX11_waysBut 15 = .ok (.iload 4, 2) := by decide +kernel
theorem dX11_waysBut_17 : decode cX11_waysBut 17 = .ok (.iload_n 2, 1) := by decide +kernel
theorem dX11_waysBut_18 : decode cX11_waysBut 18 = .ok (.invokestatic 297, 3) := by decide +kernel
theorem dX11_waysBut_21 : decode cX11_waysBut 21 = .ok (.ifCond .eq 6, 3) := by decide +kernel
theorem dX11_waysBut_24 : decode cX11_waysBut 24 = .ok (.iload 5, 2) := by decide +kernel
theorem dX11_waysBut_26 : decode cX11_waysBut 26 = .ok (.ireturn, 1) := by decide +kernel
theorem dX11_waysBut_27 : decode cX11_waysBut 27 = .ok (.aload_n 0, 1) := by decide +kernel
theorem dX11_waysBut_28 : decode cX11_waysBut 28 = .ok (.iload 4, 2) := by decide +kernel
theorem dX11_waysBut_30 : decode cX11_waysBut 30 = .ok (.iload_n 3, 1) := by decide +kernel
theorem dX11_waysBut_31 : decode cX11_waysBut 31 = .ok (.invokevirtual 300, 3) := by decide +kernel
theorem dX11_waysBut_34 : decode cX11_waysBut 34 = .ok (.istore 4, 2) := by decide +kernel
theorem dX11_waysBut_36 : decode cX11_waysBut 36 = .ok (.iinc 5 1, 3) := by decide +kernel
theorem dX11_waysBut_39 : decode cX11_waysBut 39 = .ok (.goto (-31), 3) := by decide +kernel
theorem dX11_waysBut_42 : decode cX11_waysBut 42 = .ok (.bipush 99, 2) := by decide +kernel
theorem dX11_waysBut_44 : decode cX11_waysBut 44 = .ok (.ireturn, 1) := by decide +kernel
theorem hd_X11_spread : yX11_spread.cls ≠ "java/lang/invoke/MethodHandle" ∧ yX11_spread.cls ≠ "java/lang/invoke/VarHandle" ∧ (parseMethodDescriptor yX11_spread.desc).map (fun d => d.parameters.length) = some 2 := ⟨by decide +kernel, by decide +kernel, by decide +kernel⟩
set_option maxHeartbeats 4000000 in
set_option maxRecDepth 100000 in
theorem v_waysBut (l : Launch) (D : va_G) (K : Nat → ClassId) (ad : Nat → Nat) (z : TS) (o : Ok z) (x1 : Int32) (x2 : Int32) (x3 : Int32) : cI l yX11_waysBut cX11_waysBut 6 .int ({ frames := 2, cells := 0, slots := 0, locals := 45 }) D K ad z [.ref (ad 386), .int x1, .int x2, .int x3] (fun r u => u = z ∧ iv 0 99 r) := by
  refine t_enterI (by decide) (Nat.le_of_ble_eq_true rfl) rfl rfl ?_
  intro p e s m args below meth c A R Q H locs ls E hfr hlo RET G hl
  have E : mE p s m meth c cX11_waysBut args 6 RX11 D K A := E
  have hl : lv_has ls 6 [(0, .ref (ad 386)), (1, .int x1), (2, .int x2), (3, .int x3)] := hl
  refine lv_iconst (v := 1) E.1 E.2.1 dX11_waysBut_0 (by decide) ?_
  refine lv_iload_n E.1 E.2.1 dX11_waysBut_1 rfl (lv_at hl 1 rfl) ?_
  refine lv_ishl E.1 E.2.1 dX11_waysBut_2 ?_
  refine lv_topi (fun v1 e2 => ?_)
  refine lv_istore (lv' := [(4, .int v1), (0, .ref (ad 386)), (1, .int x1), (2, .int x2), (3, .int x3)]) E.1 E.2.1 dX11_waysBut_3 hl (by decide) rfl (fun ls hl => ?_)
  refine lv_iconst (v := 0) E.1 E.2.1 dX11_waysBut_5 (by decide) ?_
  refine lv_istore (lv' := [(5, .int 0), (4, .int v1), (0, .ref (ad 386)), (1, .int x1), (2, .int x2), (3, .int x3)]) E.1 E.2.1 dX11_waysBut_6 hl (by decide) rfl (fun ls hl => ?_)
  have LOOP8 : ∀ n : Nat, ∀ (y3 : Int32) (y4 : Int32) (H : Heap) (locs : List Loc) (ls : Array Slot), mG D A s H locs (wd K ad z) → iv 0 8 y3 → 8 < y3.toInt + (n : Int) → lv_has ls 6 [(5, .int y3), (4, .int y4), (0, .ref (ad 386)), (1, .int x1), (2, .int x2), (3, .int x3)] → W p l e R s m args below meth c H locs 0 0 Q (F0 m 8 ls []) := by
    intro n
    induction n with
    | zero =>
      intro y3 y4 H locs ls G b9 m8 hl
      exact absurd m8 (by have := b9.1; have := b9.2; omega)
    | succ n ih8 =>
      intro y3 y4 H locs ls G b9 m8 hl
      refine lv_iload E.1 E.2.1 dX11_waysBut_8 (lv_at hl 0 rfl) ?_
      refine lv_bipush (v := 8) E.1 E.2.1 dX11_waysBut_10 (by decide) ?_
      refine lv_icmp_ge (tgt := 42) E.1 E.2.1 dX11_waysBut_12 (by decide) (fun c10 => ?_) (fun c10 => ?_)
      · skip
        have b11 : iv 8 8 y3 := le_r c10 (iv_lit (lo := 8) (hi := 8) 8 (by decide) (by decide)) b9 (by decide)
        refine lv_bipush (v := 99) E.1 E.2.1 dX11_waysBut_42 (by decide) ?_
        exact RET G ⟨rfl, (iv_mono (iv_lit (lo := 99) (hi := 99) 99 (by decide) (by decide)) (by decide) (by decide))⟩ rfl dX11_waysBut_44
      · skip
        have b12 : iv 0 7 y3 := lt_l (Int32.not_le.mp c10) b9 (iv_lit (lo := 8) (hi := 8) 8 (by decide) (by decide)) (by decide)
        refine lv_iload E.1 E.2.1 dX11_waysBut_15 (lv_at hl 1 rfl) ?_
        refine lv_iload_n E.1 E.2.1 dX11_waysBut_17 rfl (lv_at hl 4 rfl) ?_
        refine t_si E G hl (v_isOf l D K ad z o y4 x2) 2 rfl mw_code_X11_isOf mw_ini_11 mw_ml_11_297 mw_stat_X11_isOf hd_X11_isOf ⟨Nat.le_trans (by decide) hfr, Nat.le_trans (by decide) hlo⟩ rfl rfl rfl (Nat.le_of_ble_eq_true rfl) dX11_waysBut_18 (fun r14 zz13 H locs hp15 G => ?_)
        obtain ⟨hz17, b16⟩ := hp15
        rw [hz17] at G
        refine lv_if_eq (tgt := 27) E.1 E.2.1 dX11_waysBut_21 (by decide) (fun c18 => ?_) (fun c18 => ?_)
        · skip
          have b19 : iv 0 0 r14 := iv_eq c18 (iv_lit (lo := 0) (hi := 0) 0 (by decide) (by decide))
          refine lv_aload_n E.1 E.2.1 dX11_waysBut_27 rfl (lv_at hl 2 rfl) ?_
          refine lv_iload E.1 E.2.1 dX11_waysBut_28 (lv_at hl 1 rfl) ?_
          refine lv_iload_n E.1 E.2.1 dX11_waysBut_30 rfl (lv_at hl 5 rfl) ?_
          refine t_vi E G hl (v_spread l D K ad z o y4 x3) 11 (rfl : ro 386 = 11) (by decide) rfl rfl 2 rfl mw_code_X11_spread mw_ini_11 mw_ml_11_300 mw_inst_X11_spread mw_sel_X11_spread hd_X11_spread ⟨Nat.le_trans (by decide) hfr, Nat.le_trans (by decide) hlo⟩ rfl rfl rfl (Nat.le_of_ble_eq_true rfl) dX11_waysBut_31 (fun r21 zz20 H locs hp22 G => ?_)
          have hz23 := hp22
          rw [hz23] at G
          refine lv_istore (lv' := [(4, .int r21), (5, .int y3), (0, .ref (ad 386)), (1, .int x1), (2, .int x2), (3, .int x3)]) E.1 E.2.1 dX11_waysBut_34 hl (by decide) rfl (fun ls hl => ?_)
          obtain ⟨v24, e25⟩ : ∃ w : Int32, w = y3 + (1 : Int32) := ⟨_, rfl⟩
          refine lv_iinc (v := v24) (lv' := [(5, .int v24), (4, .int r21), (0, .ref (ad 386)), (1, .int x1), (2, .int x2), (3, .int x3)]) E.1 E.2.1 dX11_waysBut_36 hl (k := 1) rfl (by rw [e25]; rfl) (by decide) rfl (fun ls hl => ?_)
          have b26 : iv 1 8 v24 := by rw [e25]; exact iv_add b12 (iv_lit (lo := 1) (hi := 1) 1 (by decide) (by decide)) (by decide) (by decide) (by decide) (by decide)
          have t27 : v24.toInt = y3.toInt + 1 := by rw [e25]; exact ti_addc 1 (by decide) b12 (by decide) (by decide)
          refine lv_goto (tgt := 8) E.1 E.2.1 dX11_waysBut_39 (by decide) ?_
          exact ih8 v24 r21 H locs ls G (iv_mono b26 (by decide) (by decide)) (by have := t27; have := m8; omega) (lv_sub hl [0, 1, 2, 3, 4, 5] rfl)
        · skip
          have b28 : iv 1 1 r14 := ne_lo c18 b16 (by decide) (by decide)
          refine lv_iload E.1 E.2.1 dX11_waysBut_24 (lv_at hl 0 rfl) ?_
          exact RET G ⟨rfl, (iv_mono b12 (by decide) (by decide))⟩ rfl dX11_waysBut_26
  exact LOOP8 9 0 v1 H locs ls G (iv_mono (iv_lit (lo := 0) (hi := 0) 0 (by decide) (by decide)) (by decide) (by decide)) (by have := (iv_lit (lo := 0) (hi := 0) 0 (by decide) (by decide)).1; omega) (lv_sub hl [0, 1, 2, 3, 4, 5] rfl)
