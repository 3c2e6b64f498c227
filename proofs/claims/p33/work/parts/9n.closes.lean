theorem mw_code_X11_isInside : (Cond.code yX11_isInside cX11_isInside 2 (some .boolean) : Cond) ∈ cw := cw_of (List.mem_append_right _ (List.mem_append_right _ (List.mem_append_right _ (List.mem_append_right _ (List.mem_append_right _ (List.mem_append_right _ (List.mem_append_left _ (List.mem_of_getElem? (i := 143) rfl)))))))) (by decide +kernel)
theorem mw_code_X11_layDown : (Cond.code yX11_layDown cX11_layDown 2 none : Cond) ∈ cw := cw_of (List.mem_append_right _ (List.mem_append_right _ (List.mem_append_right _ (List.mem_append_right _ (List.mem_append_right _ (List.mem_append_right _ (List.mem_append_left _ (List.mem_of_getElem? (i := 136) rfl)))))))) (by decide +kernel)
theorem mw_inst_X11_isInside : (Cond.instanceMethod yX11_isInside : Cond) ∈ cw := cw_of (List.mem_append_right _ (List.mem_append_right _ (List.mem_append_right _ (List.mem_append_right _ (List.mem_append_right _ (List.mem_append_right _ (List.mem_append_left _ (List.mem_of_getElem? (i := 142) (by decide +kernel))))))))) (by decide +kernel)
theorem mw_inst_X11_layDown : (Cond.instanceMethod yX11_layDown : Cond) ∈ cw := cw_of (List.mem_append_right _ (List.mem_append_right _ (List.mem_append_right _ (List.mem_append_right _ (List.mem_append_right _ (List.mem_append_right _ (List.mem_append_left _ (List.mem_of_getElem? (i := 135) (by decide +kernel))))))))) (by decide +kernel)
theorem mw_ml_11_195 : (Cond.methodLink RX11 195 yX11_layDown : Cond) ∈ cw := cw_of (List.mem_append_right _ (List.mem_append_right _ (List.mem_append_right _ (List.mem_append_right _ (List.mem_append_right _ (List.mem_append_right _ (List.mem_append_left _ (List.mem_of_getElem? (i := 133) (by decide +kernel))))))))) (by decide +kernel)
theorem mw_ml_11_198 : (Cond.methodLink RX11 198 yX11_isInside : Cond) ∈ cw := cw_of (List.mem_append_right _ (List.mem_append_right _ (List.mem_append_right _ (List.mem_append_right _ (List.mem_append_right _ (List.mem_append_right _ (List.mem_append_left _ (List.mem_of_getElem? (i := 140) (by decide +kernel))))))))) (by decide +kernel)
theorem mw_sel_X11_isInside : (Cond.selects RX11 yX11_isInside yX11_isInside : Cond) ∈ cw := cw_of (List.mem_append_left _ (List.mem_of_getElem? (i := 78) (by decide +kernel))) (by decide +kernel)
theorem mw_sel_X11_layDown : (Cond.selects RX11 yX11_layDown yX11_layDown : Cond) ∈ cw := cw_of (List.mem_append_left _ (List.mem_of_getElem? (i := 77) (by decide +kernel))) (by decide +kernel)
theorem dX11_closes_0 : decode cX11_closes 0 = .ok (.aload_n 0, 1) := by decide +kernel
theorem dX11_closes_1 : decode cX11_closes 1 = .ok (.iconst 3, 1) := by decide +kernel
theorem dX11_closes_2 : decode cX11_closes 2 = .ok (.invokevirtual 195, 3) := by decide +kernel
theorem dX11_closes_5 : decode cX11_closes 5 = .ok (.aload_n 0, 1) := by decide +kernel
theorem dX11_closes_6 : decode cX11_closes 6 = .ok (.invokevirtual 96, 3) := by decide +kernel
theorem dX11_closes_9 : decode cX11_closes 9 = .ok (.bipush 93, 2) := by decide +kernel
theorem dX11_closes_11 : decode cX11_closes 11 = .ok (.if_icmp .ne 53, 3) := by decide +kernel
theorem dX11_closes_14 : decode cX11_closes 14 = .ok (.aload_n 0, 1) := by decide +kernel
theorem dX11_closes_15 : decode cX11_closes 15 = .ok (.invokevirtual 198, 3) := by decide +kernel
theorem dX11_closes_18 : decode cX11_closes 18 = .ok (.ifCond .eq 46, 3) := by decide +kernel
theorem dX11_closes_21 : decode cX11_closes 21 = .ok (.aload_n 0, 1) := by decide +kernel
theorem dX11_closes_22 : decode cX11_closes 22 = .ok (.iconst 1, 1) := by decide +kernel
theorem dX11_closes_23 : decode cX11_closes 23 = .ok (.invokevirtual 195, 3) := by decide +kernel
theorem dX11_closes_26 : decode cX11_closes 26 = .ok (.aload_n 0, 1) := by decide +kernel
theorem dX11_closes_27 : decode cX11_closes 27 = .ok (.dup, 1) := by decide +kernel
theorem dX11_closes_28 : decode cX11_closes 28 = .ok (.getfield 156, 3) := by decide +kernel
theorem dX11_closes_31 : decode cX11_closes 31 = .ok (.iconst 1, 1) := by decide +kernel
theorem dX11_closes_32 : decode cX11_closes 32 = .ok (.isub, 1) := by decide +kernel
theorem dX11_closes_33 : decode cX11_closes 33 = .ok (.putfield 156, 3) := by decide +kernel
theorem dX11_closes_36 : decode cX11_closes 36 = .ok (.aload_n 0, 1) := by decide +kernel
theorem dX11_closes_37 : decode cX11_closes 37 = .ok (.dup, 1) := by decide +kernel
theorem dX11_closes_38 : decode cX11_closes 38 = .ok (.getfield 153, 3) := by decide +kernel
theorem dX11_closes_41 : decode cX11_closes 41 = .ok (.iconst 1, 1) := by decide +kernel
theorem dX11_closes_42 : decode cX11_closes 42 = .ok (.isub, 1) := by decide +kernel
theorem dX11_closes_43 : decode cX11_closes 43 = .ok (.putfield 153, 3) := by decide +kernel
theorem dX11_closes_46 : decode cX11_closes 46 = .ok (.aload_n 0, 1) := by decide +kernel
theorem dX11_closes_47 : decode cX11_closes 47 = .ok (.dup, 1) := by decide +kernel
theorem dX11_closes_48 : decode cX11_closes 48 = .ok (.getfield 93, 3) := by decide +kernel
theorem dX11_closes_51 : decode cX11_closes 51 = .ok (.iconst 1, 1) := by decide +kernel
theorem dX11_closes_52 : decode cX11_closes 52 = .ok (.iadd, 1) := by decide +kernel
theorem dX11_closes_53 : decode cX11_closes 53 = .ok (.putfield 93, 3) := by decide +kernel
theorem dX11_closes_56 : decode cX11_closes 56 = .ok (.aload_n 0, 1) := by decide +kernel
theorem dX11_closes_57 : decode cX11_closes 57 = .ok (.iconst 3, 1) := by decide +kernel
theorem dX11_closes_58 : decode cX11_closes 58 = .ok (.invokevirtual 195, 3) := by decide +kernel
theorem dX11_closes_61 : decode cX11_closes 61 = .ok (.goto (-56), 3) := by decide +kernel
theorem dX11_closes_64 : decode cX11_closes 64 = .ok (.return_, 1) := by decide +kernel
theorem hd_X11_isInside : yX11_isInside.cls ≠ "java/lang/invoke/MethodHandle" ∧ yX11_isInside.cls ≠ "java/lang/invoke/VarHandle" ∧ (parseMethodDescriptor yX11_isInside.desc).map (fun d => d.parameters.length) = some 0 := ⟨by decide +kernel, by decide +kernel, by decide +kernel⟩
theorem hd_X11_layDown : yX11_layDown.cls ≠ "java/lang/invoke/MethodHandle" ∧ yX11_layDown.cls ≠ "java/lang/invoke/VarHandle" ∧ (parseMethodDescriptor yX11_layDown.desc).map (fun d => d.parameters.length) = some 1 := ⟨by decide +kernel, by decide +kernel, by decide +kernel⟩
set_option maxHeartbeats 4000000 in
set_option maxRecDepth 100000 in
theorem v_closes (l : Launch) (D : va_G) (K : Nat → ClassId) (ad : Nat → Nat) (z : TS) (o : Ok z) (hp : PIx z) (ho : 0 ≤ SO z) : cV l yX11_closes cX11_closes 1 ({ frames := 2, cells := 0, slots := 0, locals := 43 }) D K ad z [.ref (ad 386)] (fun u => Ok u ∧ KP2 z u ∧ (Scx z u) ∧ (PIx u) ∧ (SO z ≤ SO u) ∧ (cn u ≤ cn z ∧ Gd (cn u - cn z) (cn z - cn u + 1) z u)) := by
  have sc0 : Scx z z := Scx.rf hp.2.1
  have so0 : SO z + 0 ≤ SO z := by omega
  have gd0 : Gd (cn z - cn z) (cn z - cn z + 1) z z := Gd.wk Gd.rf (by omega) (by omega)
  have cl0 : cn z ≤ cn z := Int.le_refl _
  refine t_enterV (by decide) (Nat.le_of_ble_eq_true rfl) rfl rfl ?_
  intro p e s m args below meth c A R Q H locs ls E hfr hlo RET G hl
  have E : mE p s m meth c cX11_closes args 1 RX11 D K A := E
  have hl : lv_has ls 1 [(0, .ref (ad 386))] := hl
  refine lv_aload_n E.1 E.2.1 dX11_closes_0 rfl (lv_at hl 0 rfl) ?_
  refine lv_iconst (v := 3) E.1 E.2.1 dX11_closes_1 (by decide) ?_
  refine t_vv E G hl (v_layDown l D K ad z o (3 : Int32) (iv_mono (iv_lit (lo := 3) (hi := 3) 3 (by decide) (by decide)) (by decide) (by decide)) hp (by have h1 := ho; have h2 := so0; omega)) 11 (rfl : ro 386 = 11) (by decide) rfl rfl 1 rfl mw_code_X11_layDown mw_ini_11 mw_ml_11_195 mw_inst_X11_layDown mw_sel_X11_layDown hd_X11_layDown ⟨Nat.le_trans (by decide) hfr, Nat.le_trans (by decide) hlo⟩ rfl rfl rfl (Nat.le_of_ble_eq_true rfl) dX11_closes_2 (fun zz1 H locs hp3 G => ?_)
  obtain ⟨oo4, kk5, h6, h7, h8, h9, h10⟩ := hp3
  have kk11 : KP2 z zz1 := KPf.tr KPf.rf (KPL.p2 kk5)
  have h12 := Scx.tr sc0 (scx_p sc0.1 kk5 rfl rfl)
  have h13 : SO z + 0 ≤ SO zz1 := by have h1 := so0; have h2 := h7; omega
  have h14 := cn_nn zz1
  have h15 := h8.1
  have h16 : Gd (cn zz1 - cn z) (cn z - cn zz1 + 1) z zz1 := Gd.tr (Gd.wk (d' := cn z - cn z) (m' := cn z - cn zz1 + 1) gd0 (Int.le_refl _) (by omega)) (KPf.rf : KP2 z z) h8.2 (by omega) (by omega)
  have h17 : cn zz1 ≤ cn z := by have h := cl0; omega
  have LOOP5 : ∀ n : Nat, ∀ (zz18 : TS) (H : Heap) (locs : List Loc) (ls : Array Slot), mG D A s H locs (wd K ad zz18) → Ok zz18 → KP2 z zz18 → Scx z zz18 → PIx zz18 → SO z + 0 ≤ SO zz18 → cn zz18 ≤ cn z → Gd (cn zz18 - cn z) (cn z - cn zz18 + 1) z zz18 → 400 < (tI zz18 386 8).toInt + (n : Int) → lv_has ls 1 [(0, .ref (ad 386))] → W p l e R s m args below meth c H locs 0 0 Q (F0 m 5 ls []) := by
    intro n
    induction n with
    | zero =>
      intro zz18 H locs ls G oo19 kk20 h22 h23 h24 h25 h26 m21 hl
      exact absurd m21 (by have := (oo19.i (j := 386) 11 8 rfl).2; have e : ihi 11 8 = 400 := (by decide); omega)
    | succ n ih5 =>
      intro zz18 H locs ls G oo19 kk20 h22 h23 h24 h25 h26 m21 hl
      refine lv_aload_n E.1 E.2.1 dX11_closes_5 rfl (lv_at hl 0 rfl) ?_
      have scl27 : Scx zz18 zz18 := Scx.rf h22.1
      refine t_vi E G hl (v_see l D K ad zz18 oo19 h22.1) 11 (rfl : ro 386 = 11) (by decide) rfl rfl 0 rfl mw_code_X11_see mw_ini_11 mw_ml_11_96 mw_inst_X11_see mw_sel_X11_see hd_X11_see ⟨Nat.le_trans (by decide) hfr, Nat.le_trans (by decide) hlo⟩ rfl rfl rfl (Nat.le_of_ble_eq_true rfl) dX11_closes_6 (fun r29 zz28 H locs hp30 G => ?_)
      obtain ⟨oo31, kk32, b33, h34, h35, h36, h37⟩ := hp30
      have kk38 : KP2 z zz28 := KPf.tr kk20 (KN8.p2 kk32)
      have h39 := Scx.tr h22 h34
      have h40 := Scx.tr scl27 h34
      have sm41 := Same.of kk32 rfl rfl rfl
      have h42 : PIx zz28 := pi_q h23 sm41 h39.1 (kk32.1 386 12 rfl) (kk32.1 386 11 rfl)
      have h43 : SO z + 0 ≤ SO zz28 := so_q 0 h24 sm41 (kk32.1 386 16 rfl) (by have h := h34.2; omega) (by decide)
      have h44 : cn zz28 = cn zz18 := cn_k (kk32.1 386 16 rfl) (kk32.2.1 393 rfl).1
      have h45 : Gd (cn zz28 - cn z) (cn z - cn zz28 + 1) z zz28 := by rw [h44]; exact Gd.sm h26 sm41
      have h46 : cn zz28 ≤ cn z := by rw [h44]; exact h25
      refine lv_bipush (v := 93) E.1 E.2.1 dX11_closes_9 (by decide) ?_
      refine lv_icmp_ne (tgt := 64) E.1 E.2.1 dX11_closes_11 (by decide) (fun c47 => ?_) (fun c47 => ?_)
      · skip
        exact RET G ⟨oo31, kk38, h39, h42, (by have h := h43; omega), ⟨h46, h45⟩⟩ dX11_closes_64
      · skip
        have b48 : iv 93 93 r29 := iv_eq c47 (iv_lit (lo := 93) (hi := 93) 93 (by decide) (by decide))
        have h49 : LSx zz28 := h37 (Int.le_trans (by decide) b48.1)
        refine lv_aload_n E.1 E.2.1 dX11_closes_14 rfl (lv_at hl 0 rfl) ?_
        refine t_vi E G hl (v_isInside l D K ad zz28 oo31) 11 (rfl : ro 386 = 11) (by decide) rfl rfl 0 rfl mw_code_X11_isInside mw_ini_11 mw_ml_11_198 mw_inst_X11_isInside mw_sel_X11_isInside hd_X11_isInside ⟨Nat.le_trans (by decide) hfr, Nat.le_trans (by decide) hlo⟩ rfl rfl rfl (Nat.le_of_ble_eq_true rfl) dX11_closes_15 (fun r51 zz50 H locs hp52 G => ?_)
        obtain ⟨hz55, b53, h54⟩ := hp52
        rw [hz55] at G
        refine lv_if_eq (tgt := 64) E.1 E.2.1 dX11_closes_18 (by decide) (fun c56 => ?_) (fun c56 => ?_)
        · skip
          have b57 : iv 0 0 r51 := iv_eq c56 (iv_lit (lo := 0) (hi := 0) 0 (by decide) (by decide))
          exact RET G ⟨oo31, kk38, h39, h42, (by have h := h43; omega), ⟨h46, h45⟩⟩ dX11_closes_64
        · skip
          have b58 : iv 1 1 r51 := ne_lo c56 b53 (by decide) (by decide)
          refine lv_aload_n E.1 E.2.1 dX11_closes_21 rfl (lv_at hl 0 rfl) ?_
          refine lv_iconst (v := 1) E.1 E.2.1 dX11_closes_22 (by decide) ?_
          refine t_vv E G hl (v_layDown l D K ad zz28 oo31 (1 : Int32) (iv_mono (iv_lit (lo := 1) (hi := 1) 1 (by decide) (by decide)) (by decide) (by decide)) h42 (by have h1 := ho; have h2 := h43; omega)) 11 (rfl : ro 386 = 11) (by decide) rfl rfl 1 rfl mw_code_X11_layDown mw_ini_11 mw_ml_11_195 mw_inst_X11_layDown mw_sel_X11_layDown hd_X11_layDown ⟨Nat.le_trans (by decide) hfr, Nat.le_trans (by decide) hlo⟩ rfl rfl rfl (Nat.le_of_ble_eq_true rfl) dX11_closes_23 (fun zz59 H locs hp61 G => ?_)
          obtain ⟨oo62, kk63, h64, h65, h66, h67, h68⟩ := hp61
          have kk69 : KP2 z zz59 := KPf.tr kk38 (KPL.p2 kk63)
          have h70 := Scx.tr h39 (scx_p h39.1 kk63 rfl rfl)
          have h71 : LSx zz59 := LSx.kp h49 kk63 (kk63.1 386 8 rfl) rfl
          have h72 := Scx.tr h40 (scx_p h40.1 kk63 rfl rfl)
          have h73 : SO z + 0 ≤ SO zz59 := by have h1 := h43; have h2 := h65; omega
          have h74 := cn_nn zz59
          have h75 := h66.1
          have h76 : Gd (cn zz59 - cn z) (cn z - cn zz59 + 1) z zz59 := Gd.tr (Gd.wk (d' := cn zz28 - cn z) (m' := cn z - cn zz59 + 1) h45 (Int.le_refl _) (by omega)) kk38 h66.2 (by omega) (by omega)
          have h77 : cn zz59 ≤ cn z := by have h := h46; omega
          have h78 := op_ge (h54 c56) h68
          refine lv_aload_n E.1 E.2.1 dX11_closes_26 rfl (lv_at hl 0 rfl) ?_
          refine lv_dup E.1 E.2.1 dX11_closes_27 rfl ?_
          refine t_get E G 11 16 (rfl : ro 386 = 11) (C := RX11) (T := TX11) (N := 37) rfl (by decide) (by decide) (by decide) mw_fl_11_156 (fvl_i rfl) dX11_closes_28 ?_
          refine lv_topi (fun v79 e80 => ?_)
          have b81 : iv 0 400 v79 := by rw [e80]; exact oo62.i 11 16 (rfl : ro 386 = 11)
          have b82 : iv 1 400 v79 := ⟨by have e := congrArg Int32.toInt e80; have := h78; omega, b81.2⟩
          refine lv_iconst (v := 1) E.1 E.2.1 dX11_closes_31 (by decide) ?_
          refine lv_isub E.1 E.2.1 dX11_closes_32 ?_
          refine lv_topi (fun v83 e84 => ?_)
          have b85 : iv 0 399 v83 := by rw [e84]; exact iv_sub b82 (iv_lit (lo := 1) (hi := 1) 1 (by decide) (by decide)) (by decide) (by decide) (by decide) (by decide)
          have l86 : v83.toInt = (-1) + 1 * v79.toInt := (show v83.toInt = v79.toInt - 1 by rw [e84]; exact ti_subc 1 (by decide) b82 (by decide) (by decide)).trans (by omega)
          refine t_puti E G 11 16 (rfl : ro 386 = 11) (C := RX11) (T := TX11) (N := 37) rfl (by decide) (by decide) (by decide) rfl rfl mw_fl_11_156 rfl dX11_closes_33 (fun H locs G => ?_)
          have h87 : cn (setI zz59 386 16 v83) = cn zz59 := cn_top (h67 rfl) e80.symm.symm b82 (l86.trans (by omega))
          obtain ⟨zz95, G, oo96, kk97, h98, h88, h89, h90, h91, h92, h93, h94⟩ : ∃ u : TS, mG D A s H locs (wd K ad u) ∧ Ok u ∧ KP2 z u ∧ tI u 386 16 = v83 ∧ (PIx u) ∧ (SO z + 1 ≤ SO u) ∧ (Gd (cn u - cn z) (cn z - cn u + 1) z u) ∧ (cn u ≤ cn z) ∧ (Scx zz18 u) ∧ (Scx z u) ∧ (LSx u) := ⟨_, G, ok_i oo62 11 (rfl : ro 386 = 11) (iv_mono b85 (by decide) (by decide)) (by decide), KPf.tr kk69 (KPf_i 11 (rfl : ro 386 = 11) (by decide)), sI_self, (pi_q h64 (Same.i (by decide)) h64.2.1 rfl rfl), (so_op (d := -1) h73 (Same.i (by decide)) rfl (by rw [sI_self]; have e := congrArg Int32.toInt e80.symm.symm; have := l86; omega) (by decide)), (by rw [h87]; exact Gd.sm h76 (Same.i (by decide))), (by rw [h87]; exact h77), h72, h70, h71⟩
          refine lv_aload_n E.1 E.2.1 dX11_closes_36 rfl (lv_at hl 0 rfl) ?_
          refine lv_dup E.1 E.2.1 dX11_closes_37 rfl ?_
          refine t_get E G 11 13 (rfl : ro 386 = 11) (C := RX11) (T := TX11) (N := 37) rfl (by decide) (by decide) (by decide) mw_fl_11_153 (fvl_i rfl) dX11_closes_38 ?_
          refine lv_topi (fun v99 e100 => ?_)
          refine lv_iconst (v := 1) E.1 E.2.1 dX11_closes_41 (by decide) ?_
          refine lv_isub E.1 E.2.1 dX11_closes_42 ?_
          refine lv_topi (fun v101 e102 => ?_)
          refine t_puti E G 11 13 (rfl : ro 386 = 11) (C := RX11) (T := TX11) (N := 37) rfl (by decide) (by decide) (by decide) rfl rfl mw_fl_11_153 rfl dX11_closes_43 (fun H locs G => ?_)
          obtain ⟨zz110, G, oo111, kk112, h113, h114, h103, h104, h105, h106, h107, h108, h109⟩ : ∃ u : TS, mG D A s H locs (wd K ad u) ∧ Ok u ∧ KP2 z u ∧ tI u 386 16 = v83 ∧ tI u 386 13 = v101 ∧ (Scx z u) ∧ (LSx u) ∧ (PIx u) ∧ (SO z + 1 ≤ SO u) ∧ (Gd (cn u - cn z) (cn z - cn u + 1) z u) ∧ (cn u ≤ cn z) ∧ (Scx zz18 u) := ⟨_, G, ok_i oo96 11 (rfl : ro 386 = 11) (iv_mono (iv_full v101) (by decide) (by decide)) (by decide), KPf.tr kk97 (KPf_i 11 (rfl : ro 386 = 11) (by decide)), (sI_k h98 (by decide)), sI_self, h93, h94, (pi_q h88 (Same.i (by decide)) h93.1 rfl rfl), (so_q 0 h89 (Same.i (by decide)) rfl (by show (tI zz95 386 8).toInt + 0 ≤ (tI zz95 386 8).toInt; omega) (by decide)), (Gd.sm h90 (Same.i (by decide))), h91, h92⟩
          refine lv_aload_n E.1 E.2.1 dX11_closes_46 rfl (lv_at hl 0 rfl) ?_
          refine lv_dup E.1 E.2.1 dX11_closes_47 rfl ?_
          refine t_get E G 11 8 (rfl : ro 386 = 11) (C := RX11) (T := TX11) (N := 37) rfl (by decide) (by decide) (by decide) mw_fl_11_93 (fvl_i rfl) dX11_closes_48 ?_
          refine lv_topi (fun v115 e116 => ?_)
          have b117 : iv 0 400 v115 := by rw [e116]; exact oo111.i 11 8 (rfl : ro 386 = 11)
          have b118 : iv 0 399 v115 := LSx.iv oo111 h104 e116
          refine lv_iconst (v := 1) E.1 E.2.1 dX11_closes_51 (by decide) ?_
          refine lv_iadd E.1 E.2.1 dX11_closes_52 ?_
          refine lv_topi (fun v119 e120 => ?_)
          have b121 : iv 1 400 v119 := by rw [e120]; exact iv_add b118 (iv_lit (lo := 1) (hi := 1) 1 (by decide) (by decide)) (by decide) (by decide) (by decide) (by decide)
          have l122 : v119.toInt = 1 + 1 * v115.toInt := (show v119.toInt = v115.toInt + 1 by rw [e120]; exact ti_addc 1 (by decide) b118 (by decide) (by decide)).trans (by omega)
          refine t_puti E G 11 8 (rfl : ro 386 = 11) (C := RX11) (T := TX11) (N := 37) rfl (by decide) (by decide) (by decide) rfl rfl mw_fl_11_93 rfl dX11_closes_53 (fun H locs G => ?_)
          obtain ⟨zz130, G, oo131, kk132, h133, h134, h135, h123, h124, h125, h126, h127, h128, h129⟩ : ∃ u : TS, mG D A s H locs (wd K ad u) ∧ Ok u ∧ KP2 z u ∧ tI u 386 16 = v83 ∧ tI u 386 13 = v101 ∧ tI u 386 8 = v119 ∧ (Scx z u) ∧ (PIx u) ∧ (SO z + 2 ≤ SO u) ∧ (Gd (cn u - cn z) (cn z - cn u + 1) z u) ∧ (cn u ≤ cn z) ∧ (Scx zz18 u) ∧ ((tI zz18 386 8).toInt + 1 ≤ (tI u 386 8).toInt) := ⟨_, G, ok_i oo111 11 (rfl : ro 386 = 11) (iv_mono b121 (by decide) (by decide)) (by decide), KPf.tr kk112 (KPf_i 11 (rfl : ro 386 = 11) (by decide)), (sI_k h113 (by decide)), (sI_k h114 (by decide)), sI_self, (Scx.tr h103 (up_ls e116.symm.symm h104 (l122.trans (by omega))).1), (pi_q h105 (Same.i (by decide)) (up_ls e116.symm.symm h104 (l122.trans (by omega))).1.1 rfl rfl), (so_q 1 h106 (Same.i (by decide)) rfl (up_ls e116.symm.symm h104 (l122.trans (by omega))).2 (by decide)), (Gd.sm h107 (Same.i (by decide))), h108, (Scx.tr h109 (up_ls e116.symm.symm h104 (l122.trans (by omega))).1), (by have h1 := (up_ls e116.symm.symm h104 (l122.trans (by omega))).2; have h2 := h109.2; omega)⟩
          refine lv_aload_n E.1 E.2.1 dX11_closes_56 rfl (lv_at hl 0 rfl) ?_
          refine lv_iconst (v := 3) E.1 E.2.1 dX11_closes_57 (by decide) ?_
          refine t_vv E G hl (v_layDown l D K ad zz130 oo131 (3 : Int32) (iv_mono (iv_lit (lo := 3) (hi := 3) 3 (by decide) (by decide)) (by decide) (by decide)) h124 (by have h1 := ho; have h2 := h125; omega)) 11 (rfl : ro 386 = 11) (by decide) rfl rfl 1 rfl mw_code_X11_layDown mw_ini_11 mw_ml_11_195 mw_inst_X11_layDown mw_sel_X11_layDown hd_X11_layDown ⟨Nat.le_trans (by decide) hfr, Nat.le_trans (by decide) hlo⟩ rfl rfl rfl (Nat.le_of_ble_eq_true rfl) dX11_closes_58 (fun zz136 H locs hp138 G => ?_)
          obtain ⟨oo139, kk140, h141, h142, h143, h144, h145⟩ := hp138
          have kk146 : KP2 z zz136 := KPf.tr kk132 (KPL.p2 kk140)
          have h147 : tI zz136 386 8 = v119 := KPf.i kk140 11 (rfl : ro 386 = 11) (by decide) h135
          have h148 := Scx.tr h123 (scx_p h123.1 kk140 rfl rfl)
          have h149 := Scx.tr h128 (scx_p h128.1 kk140 rfl rfl)
          have h150 : (tI zz18 386 8).toInt + 1 ≤ (tI zz136 386 8).toInt := by have h1 := h129; have h2 := (scx_p h128.1 kk140 rfl rfl).2; omega
          have h151 : SO z + 2 ≤ SO zz136 := by have h1 := h125; have h2 := h142; omega
          have h152 := cn_nn zz136
          have h153 := h143.1
          have h154 : Gd (cn zz136 - cn z) (cn z - cn zz136 + 1) z zz136 := Gd.tr (Gd.wk (d' := cn zz130 - cn z) (m' := cn z - cn zz136 + 1) h126 (Int.le_refl _) (by omega)) kk132 h143.2 (by omega) (by omega)
          have h155 : cn zz136 ≤ cn z := by have h := h127; omega
          refine lv_goto (tgt := 5) E.1 E.2.1 dX11_closes_61 (by decide) ?_
          exact ih5 zz136 H locs ls G oo139 kk146 h148 h141 (by have h := h151; omega) h155 h154 (by have := h150; have := m21; omega) (lv_sub hl [0] rfl)
  exact LOOP5 401 zz1 H locs ls G oo4 kk11 h12 h6 (by have h := h13; omega) h17 h16 (by have := (oo4.i (j := 386) 11 8 rfl).1; have e : ilo 11 8 = 0 := (by decide); omega) (lv_sub hl [0] rfl)
