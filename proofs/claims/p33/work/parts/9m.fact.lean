theorem mw_cL_11_187 : (Cond.constantLong RX11 187 (7237492) : Cond) ∈ cw := cw_of (List.mem_append_right _ (List.mem_append_right _ (List.mem_append_right _ (List.mem_append_right _ (List.mem_append_right _ (List.mem_append_right _ (List.mem_append_left _ (List.mem_of_getElem? (i := 120) (by decide +kernel))))))))) (by decide +kernel)
theorem mw_code_X11_compare : (Cond.code yX11_compare cX11_compare 5 (some .boolean) : Cond) ∈ cw := cw_of (List.mem_append_right _ (List.mem_append_right _ (List.mem_append_right _ (List.mem_append_right _ (List.mem_append_right _ (List.mem_append_right _ (List.mem_append_left _ (List.mem_of_getElem? (i := 128) rfl)))))))) (by decide +kernel)
theorem mw_code_X11_opens : (Cond.code yX11_opens cX11_opens 2 (some .boolean) : Cond) ∈ cw := cw_of (List.mem_append_right _ (List.mem_append_right _ (List.mem_append_right _ (List.mem_append_right _ (List.mem_append_right _ (List.mem_append_right _ (List.mem_append_left _ (List.mem_of_getElem? (i := 124) rfl)))))))) (by decide +kernel)
theorem mw_inst_X11_compare : (Cond.instanceMethod yX11_compare : Cond) ∈ cw := cw_of (List.mem_append_right _ (List.mem_append_right _ (List.mem_append_right _ (List.mem_append_right _ (List.mem_append_right _ (List.mem_append_right _ (List.mem_append_left _ (List.mem_of_getElem? (i := 127) (by decide +kernel))))))))) (by decide +kernel)
theorem mw_inst_X11_opens : (Cond.instanceMethod yX11_opens : Cond) ∈ cw := cw_of (List.mem_append_right _ (List.mem_append_right _ (List.mem_append_right _ (List.mem_append_right _ (List.mem_append_right _ (List.mem_append_right _ (List.mem_append_left _ (List.mem_of_getElem? (i := 123) (by decide +kernel))))))))) (by decide +kernel)
theorem mw_ml_11_189 : (Cond.methodLink RX11 189 yX11_opens : Cond) ∈ cw := cw_of (List.mem_append_right _ (List.mem_append_right _ (List.mem_append_right _ (List.mem_append_right _ (List.mem_append_right _ (List.mem_append_right _ (List.mem_append_left _ (List.mem_of_getElem? (i := 121) (by decide +kernel))))))))) (by decide +kernel)
theorem mw_ml_11_192 : (Cond.methodLink RX11 192 yX11_compare : Cond) ∈ cw := cw_of (List.mem_append_right _ (List.mem_append_right _ (List.mem_append_right _ (List.mem_append_right _ (List.mem_append_right _ (List.mem_append_right _ (List.mem_append_left _ (List.mem_of_getElem? (i := 125) (by decide +kernel))))))))) (by decide +kernel)
theorem mw_sel_X11_compare : (Cond.selects RX11 yX11_compare yX11_compare : Cond) ∈ cw := cw_of (List.mem_append_left _ (List.mem_of_getElem? (i := 75) (by decide +kernel))) (by decide +kernel)
theorem mw_sel_X11_opens : (Cond.selects RX11 yX11_opens yX11_opens : Cond) ∈ cw := cw_of (List.mem_append_left _ (List.mem_of_getElem? (i := 74) (by decide +kernel))) (by decide +kernel)
theorem dX11_fact_0 : decode cX11_fact 0 = .ok (.iconst 1, 1) := by decide +kernel
theorem dX11_fact_1 : decode cX11_fact 1 = .ok (.istore_n 1, 1) := by decide +kernel
theorem dX11_fact_2 : decode cX11_fact 2 = .ok (.iload_n 1, 1) := by decide +kernel
theorem dX11_fact_3 : decode cX11_fact 3 = .ok (.ifCond .eq 72, 3) := by decide +kernel
theorem dX11_fact_6 : decode cX11_fact 6 = .ok (.iconst 0, 1) := by decide +kernel
theorem dX11_fact_7 : decode cX11_fact 7 = .ok (.istore_n 1, 1) := by decide +kernel
theorem dX11_fact_8 : decode cX11_fact 8 = .ok (.aload_n 0, 1) := by decide +kernel
theorem dX11_fact_9 : decode cX11_fact 9 = .ok (.invokevirtual 96, 3) := by decide +kernel
theorem dX11_fact_12 : decode cX11_fact 12 = .ok (.istore_n 2, 1) := by decide +kernel
theorem dX11_fact_13 : decode cX11_fact 13 = .ok (.aload_n 0, 1) := by decide +kernel
theorem dX11_fact_14 : decode cX11_fact 14 = .ok (.ldc2_w 187, 3) := by decide +kernel
theorem dX11_fact_17 : decode cX11_fact 17 = .ok (.invokevirtual 104, 3) := by decide +kernel
theorem dX11_fact_20 : decode cX11_fact 20 = .ok (.ifCond .eq 23, 3) := by decide +kernel
theorem dX11_fact_23 : decode cX11_fact 23 = .ok (.aload_n 0, 1) := by decide +kernel
theorem dX11_fact_24 : decode cX11_fact 24 = .ok (.bipush 11, 2) := by decide +kernel
theorem dX11_fact_26 : decode cX11_fact 26 = .ok (.invokevirtual 189, 3) := by decide +kernel
theorem dX11_fact_29 : decode cX11_fact 29 = .ok (.ifCond .ne 5, 3) := by decide +kernel
theorem dX11_fact_32 : decode cX11_fact 32 = .ok (.iconst 0, 1) := by decide +kernel
theorem dX11_fact_33 : decode cX11_fact 33 = .ok (.ireturn, 1) := by decide +kernel
theorem dX11_fact_34 : decode cX11_fact 34 = .ok (.aload_n 0, 1) := by decide +kernel
theorem dX11_fact_35 : decode cX11_fact 35 = .ok (.invokevirtual 108, 3) := by decide +kernel
theorem dX11_fact_38 : decode cX11_fact 38 = .ok (.iconst 1, 1) := by decide +kernel
theorem dX11_fact_39 : decode cX11_fact 39 = .ok (.istore_n 1, 1) := by decide +kernel
theorem dX11_fact_40 : decode cX11_fact 40 = .ok (.goto 32, 3) := by decide +kernel
theorem dX11_fact_43 : decode cX11_fact 43 = .ok (.iload_n 2, 1) := by decide +kernel
theorem dX11_fact_44 : decode cX11_fact 44 = .ok (.bipush 91, 2) := by decide +kernel
theorem dX11_fact_46 : decode cX11_fact 46 = .ok (.if_icmp .ne 26, 3) := by decide +kernel
theorem dX11_fact_49 : decode cX11_fact 49 = .ok (.aload_n 0, 1) := by decide +kernel
theorem dX11_fact_50 : decode cX11_fact 50 = .ok (.bipush 91, 2) := by decide +kernel
theorem dX11_fact_52 : decode cX11_fact 52 = .ok (.invokevirtual 189, 3) := by decide +kernel
theorem dX11_fact_55 : decode cX11_fact 55 = .ok (.ifCond .ne 5, 3) := by decide +kernel
theorem dX11_fact_58 : decode cX11_fact 58 = .ok (.iconst 0, 1) := by decide +kernel
theorem dX11_fact_59 : decode cX11_fact 59 = .ok (.ireturn, 1) := by decide +kernel
theorem dX11_fact_60 : decode cX11_fact 60 = .ok (.aload_n 0, 1) := by decide +kernel
theorem dX11_fact_61 : decode cX11_fact 61 = .ok (.dup, 1) := by decide +kernel
theorem dX11_fact_62 : decode cX11_fact 62 = .ok (.getfield 93, 3) := by decide +kernel
theorem dX11_fact_65 : decode cX11_fact 65 = .ok (.iconst 1, 1) := by decide +kernel
theorem dX11_fact_66 : decode cX11_fact 66 = .ok (.iadd, 1) := by decide +kernel
theorem dX11_fact_67 : decode cX11_fact 67 = .ok (.putfield 93, 3) := by decide +kernel
theorem dX11_fact_70 : decode cX11_fact 70 = .ok (.iconst 1, 1) := by decide +kernel
theorem dX11_fact_71 : decode cX11_fact 71 = .ok (.istore_n 1, 1) := by decide +kernel
theorem dX11_fact_72 : decode cX11_fact 72 = .ok (.goto (-70), 3) := by decide +kernel
theorem dX11_fact_75 : decode cX11_fact 75 = .ok (.aload_n 0, 1) := by decide +kernel
theorem dX11_fact_76 : decode cX11_fact 76 = .ok (.invokevirtual 192, 3) := by decide +kernel
theorem dX11_fact_79 : decode cX11_fact 79 = .ok (.ireturn, 1) := by decide +kernel
theorem hd_X11_compare : yX11_compare.cls ≠ "java/lang/invoke/MethodHandle" ∧ yX11_compare.cls ≠ "java/lang/invoke/VarHandle" ∧ (parseMethodDescriptor yX11_compare.desc).map (fun d => d.parameters.length) = some 0 := ⟨by decide +kernel, by decide +kernel, by decide +kernel⟩
theorem hd_X11_opens : yX11_opens.cls ≠ "java/lang/invoke/MethodHandle" ∧ yX11_opens.cls ≠ "java/lang/invoke/VarHandle" ∧ (parseMethodDescriptor yX11_opens.desc).map (fun d => d.parameters.length) = some 1 := ⟨by decide +kernel, by decide +kernel, by decide +kernel⟩
theorem cn_top {z : TS} {a a' : Int32} (t : TOPx z) (ea : a = tI z 386 16) (b : iv 1 400 a) (l : a'.toInt = a.toInt - 1) : cn (setI z 386 16 a') = cn z := by
  have b1 := b.1
  have e : a'.toNatClampNeg = a'.toInt.toNat := rfl
  have q := cn_pop (u := setI z 386 16 a') ea.symm b rfl sI_self l rfl
  rcases t with t | t
  · rw [← ea] at t; omega
  · rw [← ea, ← l, ← e] at t
    rw [if_neg t] at q
    omega
theorem so_zero {z : TS} : SLk z + 0 ≤ SO (setI z 386 16 0) := by
  have q := sl_q (z := z) (c := 0) (c' := 0) (u := setI z 386 16 0) 0 (by omega) (Same.i (by decide)) (by show (tI z 386 8).toInt + 0 ≤ (tI z 386 8).toInt; omega) (by omega)
  unfold SO
  rw [sI_self]
  have e : (0 : Int32).toInt = 0 := by decide
  omega
theorem cn_zero {z : TS} : cn (setI z 386 16 0) = 0 := by
  unfold cn
  rw [sI_self]
  rfl
theorem op_ge {z u : TS} (h : ∃ k : Nat, (k : Int) < (tI z 386 16).toInt ∧ tA z 393 k = 91) (nb : NBx z u) : 1 ≤ (tI u 386 16).toInt := by
  obtain ⟨k, h1, h2⟩ := h
  have := nb k h1 h2
  omega
set_option maxHeartbeats 4000000 in
set_option maxRecDepth 100000 in
theorem v_fact (l : Launch) (D : va_G) (K : Nat → ClassId) (ad : Nat → Nat) (z : TS) (o : Ok z) (hp : PIx z) (ho : 0 ≤ SO z) : cI l yX11_fact cX11_fact 3 .boolean ({ frames := 7, cells := 0, slots := 0, locals := 154 }) D K ad z [.ref (ad 386)] (fun r u => Ok u ∧ KP2 z u ∧ iv 0 1 r ∧ (Scx z u) ∧ (PIx u) ∧ (SO z ≤ SO u) ∧ (¬ r = 0 → Gd 1 0 z u ∧ cn u = cn z)) := by
  have sc0 : Scx z z := Scx.rf hp.2.1
  have so0 : SO z + 0 ≤ SO z := by omega
  have gd0 : Gd (cn z - cn z + 0) 0 z z := Gd.wk Gd.rf (by omega) (by omega)
  refine t_enterI (by decide) (Nat.le_of_ble_eq_true rfl) rfl rfl ?_
  intro p e s m args below meth c A R Q H locs ls E hfr hlo RET G hl
  have E : mE p s m meth c cX11_fact args 3 RX11 D K A := E
  have hl : lv_has ls 3 [(0, .ref (ad 386))] := hl
  refine lv_iconst (v := 1) E.1 E.2.1 dX11_fact_0 (by decide) ?_
  refine lv_istore_n (lv' := [(1, .int 1), (0, .ref (ad 386))]) E.1 E.2.1 dX11_fact_1 rfl hl (by decide) rfl (fun ls hl => ?_)
  have LOOP2 : ∀ n : Nat, ∀ (zz2 : TS) (y1 : Int32) (H : Heap) (locs : List Loc) (ls : Array Slot), mG D A s H locs (wd K ad zz2) → Ok zz2 → KP2 z zz2 → iv 0 1 y1 → Scx z zz2 → PIx zz2 → SO z + 0 ≤ SO zz2 → Gd (cn zz2 - cn z + 0) 0 z zz2 → cn zz2 = cn z → 800 + y1.toInt < 2 * (tI zz2 386 8).toInt + (n : Int) → lv_has ls 3 [(1, .int y1), (0, .ref (ad 386))] → W p l e R s m args below meth c H locs 0 0 Q (F0 m 2 ls []) := by
    intro n
    induction n with
    | zero =>
      intro zz2 y1 H locs ls G oo3 kk4 b6 h7 h8 h9 h10 h11 m5 hl
      exact absurd m5 (by have := (oo3.i (j := 386) 11 8 rfl).2; have e : ihi 11 8 = 400 := (by decide); have := b6.1; omega)
    | succ n ih2 =>
      intro zz2 y1 H locs ls G oo3 kk4 b6 h7 h8 h9 h10 h11 m5 hl
      refine lv_iload_n E.1 E.2.1 dX11_fact_2 rfl (lv_at hl 0 rfl) ?_
      have scl12 : Scx zz2 zz2 := Scx.rf h7.1
      refine lv_if_eq (tgt := 75) E.1 E.2.1 dX11_fact_3 (by decide) (fun c13 => ?_) (fun c13 => ?_)
      · skip
        have b14 : iv 0 0 y1 := iv_eq c13 (iv_lit (lo := 0) (hi := 0) 0 (by decide) (by decide))
        refine lv_aload_n E.1 E.2.1 dX11_fact_75 rfl (lv_at hl 1 rfl) ?_
        refine t_vi E G hl (v_compare l D K ad zz2 oo3 h8 (so_s oo3 (by have h1 := ho; have h2 := h9; omega))) 11 (rfl : ro 386 = 11) (by decide) rfl rfl 0 rfl mw_code_X11_compare mw_ini_11 mw_ml_11_192 mw_inst_X11_compare mw_sel_X11_compare hd_X11_compare ⟨Nat.le_trans (by decide) hfr, Nat.le_trans (by decide) hlo⟩ rfl rfl rfl (Nat.le_of_ble_eq_true rfl) dX11_fact_76 (fun r16 zz15 H locs hp17 G => ?_)
        obtain ⟨oo18, kk19, b20, h21, h22, h23, h24⟩ := hp17
        have kk25 : KP2 z zz15 := KPf.tr kk4 (KP1.p2 kk19)
        have h26 := Scx.tr h7 h21
        have h27 := Scx.tr scl12 h21
        have h28 : SO z + 0 ≤ SO zz15 := so_p h9 h23 (kk19.1 386 16 rfl)
        have h29 : cn zz15 = cn zz2 := cn_k (kk19.1 386 16 rfl) (kk19.2.1 393 rfl).1
        exact RET G ⟨oo18, kk25, (iv_mono b20 (by decide) (by decide)), h26, h22, (by have h := h28; omega), (fun h => ⟨Gd.tr (Gd.wk (d' := 0) (m' := 0) h10 (by have q := h11; omega) (Int.le_refl _)) kk4 (h24 h) (by decide) (by decide), by rw [h29]; exact h11⟩)⟩ (nar_b b20) dX11_fact_79
      · skip
        have b30 : iv 1 1 y1 := ne_lo c13 b6 (by decide) (by decide)
        refine lv_iconst (v := 0) E.1 E.2.1 dX11_fact_6 (by decide) ?_
        refine lv_istore_n (lv' := [(1, .int 0), (0, .ref (ad 386))]) E.1 E.2.1 dX11_fact_7 rfl hl (by decide) rfl (fun ls hl => ?_)
        refine lv_aload_n E.1 E.2.1 dX11_fact_8 rfl (lv_at hl 1 rfl) ?_
        refine t_vi E G hl (v_see l D K ad zz2 oo3 h7.1) 11 (rfl : ro 386 = 11) (by decide) rfl rfl 0 rfl mw_code_X11_see mw_ini_11 mw_ml_11_96 mw_inst_X11_see mw_sel_X11_see hd_X11_see ⟨Nat.le_trans (by decide) hfr, Nat.le_trans (by decide) hlo⟩ rfl rfl rfl (Nat.le_of_ble_eq_true rfl) dX11_fact_9 (fun r32 zz31 H locs hp33 G => ?_)
        obtain ⟨oo34, kk35, b36, h37, h38, h39, h40⟩ := hp33
        have kk41 : KP2 z zz31 := KPf.tr kk4 (KN8.p2 kk35)
        have h42 := Scx.tr h7 h37
        have h43 := Scx.tr scl12 h37
        have sm44 := Same.of kk35 rfl rfl rfl
        have h45 : PIx zz31 := pi_q h8 sm44 h42.1 (kk35.1 386 12 rfl) (kk35.1 386 11 rfl)
        have h46 : SO z + 0 ≤ SO zz31 := so_q 0 h9 sm44 (kk35.1 386 16 rfl) (by have h := h37.2; omega) (by decide)
        have h47 : cn zz31 = cn zz2 := cn_k (kk35.1 386 16 rfl) (kk35.2.1 393 rfl).1
        have h48 : Gd (cn zz31 - cn z + 0) 0 z zz31 := by rw [h47]; exact Gd.sm h10 sm44
        have h49 : cn zz31 = cn z := by rw [h47]; exact h11
        refine lv_istore_n (lv' := [(2, .int r32), (1, .int 0), (0, .ref (ad 386))]) E.1 E.2.1 dX11_fact_12 rfl hl (by decide) rfl (fun ls hl => ?_)
        refine lv_aload_n E.1 E.2.1 dX11_fact_13 rfl (lv_at hl 2 rfl) ?_
        refine lv_ldc2 (v := 7237492) E.1 E.2.1 E.2.2.2.1 (E.2.2.2.2.1 _ mw_cL_11_187) dX11_fact_14 ?_
        refine t_vi E G hl (v_isWord l D K ad zz31 oo34 7237492 h42.1) 11 (rfl : ro 386 = 11) (by decide) rfl rfl 1 rfl mw_code_X11_isWord mw_ini_11 mw_ml_11_104 mw_inst_X11_isWord mw_sel_X11_isWord hd_X11_isWord ⟨Nat.le_trans (by decide) hfr, Nat.le_trans (by decide) hlo⟩ rfl rfl rfl (Nat.le_of_ble_eq_true rfl) dX11_fact_17 (fun r51 zz50 H locs hp52 G => ?_)
        obtain ⟨oo53, kk54, b55, h56, h57, h58, h59⟩ := hp52
        have kk60 : KP2 z zz50 := KPf.tr kk41 (KN8.p2 kk54)
        have h61 := Scx.tr h42 h56
        have h62 : 0 ≤ r32.toInt → LSx zz50 := fun q => LSx.k (h40 q) kk54 (h58 h38) rfl
        have h63 := Scx.tr h43 h56
        have sm64 := Same.of kk54 rfl rfl rfl
        have h65 : PIx zz50 := pi_q h45 sm64 h61.1 (kk54.1 386 12 rfl) (kk54.1 386 11 rfl)
        have h66 : SO z + 0 ≤ SO zz50 := so_q 0 h46 sm64 (kk54.1 386 16 rfl) (by have h := h56.2; omega) (by decide)
        have h67 : cn zz50 = cn zz31 := cn_k (kk54.1 386 16 rfl) (kk54.2.1 393 rfl).1
        have h68 : Gd (cn zz50 - cn z + 0) 0 z zz50 := by rw [h67]; exact Gd.sm h48 sm64
        have h69 : cn zz50 = cn z := by rw [h67]; exact h49
        refine lv_if_eq (tgt := 43) E.1 E.2.1 dX11_fact_20 (by decide) (fun c70 => ?_) (fun c70 => ?_)
        · skip
          have b71 : iv 0 0 r51 := iv_eq c70 (iv_lit (lo := 0) (hi := 0) 0 (by decide) (by decide))
          refine lv_iload_n E.1 E.2.1 dX11_fact_43 rfl (lv_at hl 0 rfl) ?_
          refine lv_bipush (v := 91) E.1 E.2.1 dX11_fact_44 (by decide) ?_
          refine lv_icmp_ne (tgt := 72) E.1 E.2.1 dX11_fact_46 (by decide) (fun c72 => ?_) (fun c72 => ?_)
          · skip
            refine lv_goto (tgt := 2) E.1 E.2.1 dX11_fact_72 (by decide) ?_
            exact ih2 zz50 0 H locs ls G oo53 kk60 (iv_mono (iv_lit (lo := 0) (hi := 0) 0 (by decide) (by decide)) (by decide) (by decide)) h61 h65 (by have h := h66; omega) h68 h69 (by have h1 := m5; have h2 := h63.2; have h3 := b30.1; have e1 : (1 : Int32).toInt = 1 := (by decide); have e0 : (0 : Int32).toInt = 0 := (by decide); omega) (lv_sub hl [1, 2] rfl)
          · skip
            have b73 : iv 91 91 r32 := iv_eq c72 (iv_lit (lo := 91) (hi := 91) 91 (by decide) (by decide))
            have h74 : LSx zz50 := h62 (Int.le_trans (by decide) b73.1)
            refine lv_aload_n E.1 E.2.1 dX11_fact_49 rfl (lv_at hl 2 rfl) ?_
            refine lv_bipush (v := 91) E.1 E.2.1 dX11_fact_50 (by decide) ?_
            refine t_vi E G hl (v_opens_91 l D K ad zz50 oo53 (so_o oo53 (by have h1 := ho; have h2 := h66; omega) h74)) 11 (rfl : ro 386 = 11) (by decide) rfl rfl 1 rfl mw_code_X11_opens mw_ini_11 mw_ml_11_189 mw_inst_X11_opens mw_sel_X11_opens hd_X11_opens ⟨Nat.le_trans (by decide) hfr, Nat.le_trans (by decide) hlo⟩ rfl rfl rfl (Nat.le_of_ble_eq_true rfl) dX11_fact_52 (fun r76 zz75 H locs hp77 G => ?_)
            obtain ⟨oo78, kk79, b80, h81, h82⟩ := hp77
            have kk83 : KP2 z zz75 := KPf.tr kk60 (KOp.p2 kk79)
            have h84 := Scx.tr h61 (Scx.k h61.1 kk79 rfl rfl)
            have h85 : LSx zz75 := LSx.k h74 kk79 (kk79.1 386 8 rfl) rfl
            have h86 : 0 ≤ r32.toInt → LSx zz75 := fun q => LSx.k (h62 q) kk79 (kk79.1 386 8 rfl) rfl
            have h87 := Scx.tr h63 (Scx.k h63.1 kk79 rfl rfl)
            have sm88 := Same.of kk79 rfl rfl rfl
            have h89 : PIx zz75 := pi_q h65 sm88 h84.1 (kk79.1 386 12 rfl) (kk79.1 386 11 rfl)
            refine lv_if_ne (tgt := 60) E.1 E.2.1 dX11_fact_55 (by decide) (fun c90 => ?_) (fun c90 => ?_)
            · skip
              have b91 : iv 1 1 r76 := ne_lo c90 b80 (by decide) (by decide)
              have h92 : SO z + (-1) ≤ SO zz75 := so_op (d := 1) h66 sm88 (kk79.1 386 8 rfl) (h81 c90).1 (by decide)
              have h93 : Gd (cn zz75 - cn z + 0) 0 z zz75 := by rw [(h81 c90).2]; exact Gd.sm h68 sm88
              have h94 : cn zz75 = cn z := by rw [(h81 c90).2]; exact h69
              refine lv_aload_n E.1 E.2.1 dX11_fact_60 rfl (lv_at hl 2 rfl) ?_
              refine lv_dup E.1 E.2.1 dX11_fact_61 rfl ?_
              refine t_get E G 11 8 (rfl : ro 386 = 11) (C := RX11) (T := TX11) (N := 37) rfl (by decide) (by decide) (by decide) mw_fl_11_93 (fvl_i rfl) dX11_fact_62 ?_
              refine lv_topi (fun v95 e96 => ?_)
              have b97 : iv 0 400 v95 := by rw [e96]; exact oo78.i 11 8 (rfl : ro 386 = 11)
              have b98 : iv 0 399 v95 := LSx.iv oo78 h85 e96
              refine lv_iconst (v := 1) E.1 E.2.1 dX11_fact_65 (by decide) ?_
              refine lv_iadd E.1 E.2.1 dX11_fact_66 ?_
              refine lv_topi (fun v99 e100 => ?_)
              have b101 : iv 1 400 v99 := by rw [e100]; exact iv_add b98 (iv_lit (lo := 1) (hi := 1) 1 (by decide) (by decide)) (by decide) (by decide) (by decide) (by decide)
              have l102 : v99.toInt = 1 + 1 * v95.toInt := (show v99.toInt = v95.toInt + 1 by rw [e100]; exact ti_addc 1 (by decide) b98 (by decide) (by decide)).trans (by omega)
              refine t_puti E G 11 8 (rfl : ro 386 = 11) (C := RX11) (T := TX11) (N := 37) rfl (by decide) (by decide) (by decide) rfl rfl mw_fl_11_93 rfl dX11_fact_67 (fun H locs G => ?_)
              obtain ⟨zz110, G, oo111, kk112, h113, h103, h104, h105, h106, h107, h108, h109⟩ : ∃ u : TS, mG D A s H locs (wd K ad u) ∧ Ok u ∧ KP2 z u ∧ tI u 386 8 = v99 ∧ (Scx z u) ∧ (PIx u) ∧ (SO z + 0 ≤ SO u) ∧ (Gd (cn u - cn z + 0) 0 z u) ∧ (cn u = cn z) ∧ (Scx zz2 u) ∧ ((tI zz2 386 8).toInt + 1 ≤ (tI u 386 8).toInt) := ⟨_, G, ok_i oo78 11 (rfl : ro 386 = 11) (iv_mono b101 (by decide) (by decide)) (by decide), KPf.tr kk83 (KPf_i 11 (rfl : ro 386 = 11) (by decide)), sI_self, (Scx.tr h84 (up_ls e96.symm.symm h85 (l102.trans (by omega))).1), (pi_q h89 (Same.i (by decide)) (up_ls e96.symm.symm h85 (l102.trans (by omega))).1.1 rfl rfl), (so_q 1 h92 (Same.i (by decide)) rfl (up_ls e96.symm.symm h85 (l102.trans (by omega))).2 (by decide)), (Gd.sm h93 (Same.i (by decide))), h94, (Scx.tr h87 (up_ls e96.symm.symm h85 (l102.trans (by omega))).1), (by have h1 := (up_ls e96.symm.symm h85 (l102.trans (by omega))).2; have h2 := h87.2; omega)⟩
              refine lv_iconst (v := 1) E.1 E.2.1 dX11_fact_70 (by decide) ?_
              refine lv_istore_n (lv' := [(1, .int 1), (2, .int r32), (0, .ref (ad 386))]) E.1 E.2.1 dX11_fact_71 rfl hl (by decide) rfl (fun ls hl => ?_)
              refine lv_goto (tgt := 2) E.1 E.2.1 dX11_fact_72 (by decide) ?_
              exact ih2 zz110 1 H locs ls G oo111 kk112 (iv_mono (iv_lit (lo := 1) (hi := 1) 1 (by decide) (by decide)) (by decide) (by decide)) h103 h104 (by have h := h105; omega) h106 h107 (by have h1 := m5; have h2 := h109; have h3 := b30.1; have e1 : (1 : Int32).toInt = 1 := (by decide); have e0 : (0 : Int32).toInt = 0 := (by decide); omega) (lv_sub hl [0, 2] rfl)
            · skip
              have b114 : iv 0 0 r76 := iv_eq c90 (iv_lit (lo := 0) (hi := 0) 0 (by decide) (by decide))
              have h115 : SO z + 0 ≤ SO zz75 := so_q 0 h66 sm88 (h82 c90).1 (by rw [kk79.1 386 8 rfl]; omega) (by decide)
              have h116 : Gd (cn zz75 - cn z + 0) 0 z zz75 := by rw [(h82 c90).2]; exact Gd.sm h68 sm88
              have h117 : cn zz75 = cn z := by rw [(h82 c90).2]; exact h69
              refine lv_iconst (v := 0) E.1 E.2.1 dX11_fact_58 (by decide) ?_
              exact RET G ⟨oo78, kk83, (iv_mono (iv_lit (lo := 0) (hi := 0) 0 (by decide) (by decide)) (by decide) (by decide)), h84, h89, (by have h := h115; omega), (fun h => absurd rfl h)⟩ (by decide) dX11_fact_59
        · skip
          have b118 : iv 1 1 r51 := ne_lo c70 b55 (by decide) (by decide)
          have h119 : LTx zz50 := h59 c70
          refine lv_aload_n E.1 E.2.1 dX11_fact_23 rfl (lv_at hl 2 rfl) ?_
          refine lv_bipush (v := 11) E.1 E.2.1 dX11_fact_24 (by decide) ?_
          refine t_vi E G hl (v_opens_11 l D K ad zz50 oo53 (so_o oo53 (by have h1 := ho; have h2 := h66; omega) (LTx.ls h119))) 11 (rfl : ro 386 = 11) (by decide) rfl rfl 1 rfl mw_code_X11_opens mw_ini_11 mw_ml_11_189 mw_inst_X11_opens mw_sel_X11_opens hd_X11_opens ⟨Nat.le_trans (by decide) hfr, Nat.le_trans (by decide) hlo⟩ rfl rfl rfl (Nat.le_of_ble_eq_true rfl) dX11_fact_26 (fun r121 zz120 H locs hp122 G => ?_)
          obtain ⟨oo123, kk124, b125, h126, h127⟩ := hp122
          have kk128 : KP2 z zz120 := KPf.tr kk60 (KOp.p2 kk124)
          have h129 := Scx.tr h61 (Scx.k h61.1 kk124 rfl rfl)
          have h130 : LTx zz120 := LTx.k h119 kk124 (kk124.1 386 8 rfl) rfl rfl
          have h131 : 0 ≤ r32.toInt → LSx zz120 := fun q => LSx.k (h62 q) kk124 (kk124.1 386 8 rfl) rfl
          have h132 := Scx.tr h63 (Scx.k h63.1 kk124 rfl rfl)
          have sm133 := Same.of kk124 rfl rfl rfl
          have h134 : PIx zz120 := pi_q h65 sm133 h129.1 (kk124.1 386 12 rfl) (kk124.1 386 11 rfl)
          refine lv_if_ne (tgt := 34) E.1 E.2.1 dX11_fact_29 (by decide) (fun c135 => ?_) (fun c135 => ?_)
          · skip
            have b136 : iv 1 1 r121 := ne_lo c135 b125 (by decide) (by decide)
            have h137 : SO z + (-1) ≤ SO zz120 := so_op (d := 1) h66 sm133 (kk124.1 386 8 rfl) (h126 c135).1 (by decide)
            have h138 : Gd (cn zz120 - cn z + 0) 0 z zz120 := by rw [(h126 c135).2]; exact Gd.sm h68 sm133
            have h139 : cn zz120 = cn z := by rw [(h126 c135).2]; exact h69
            refine lv_aload_n E.1 E.2.1 dX11_fact_34 rfl (lv_at hl 2 rfl) ?_
            refine t_vv E G hl (v_passWord l D K ad zz120 oo123 h129.1) 11 (rfl : ro 386 = 11) (by decide) rfl rfl 0 rfl mw_code_X11_passWord mw_ini_11 mw_ml_11_108 mw_inst_X11_passWord mw_sel_X11_passWord hd_X11_passWord ⟨Nat.le_trans (by decide) hfr, Nat.le_trans (by decide) hlo⟩ rfl rfl rfl (Nat.le_of_ble_eq_true rfl) dX11_fact_35 (fun zz140 H locs hp142 G => ?_)
            obtain ⟨oo143, kk144, h145, h146⟩ := hp142
            have kk147 : KP2 z zz140 := KPf.tr kk128 (KN8.p2 kk144)
            have h148 := Scx.tr h129 h145
            have h149 := Scx.tr h132 h145
            have h150 : (tI zz2 386 8).toInt + 1 ≤ (tI zz140 386 8).toInt := by have h1 := h146 h130; have h2 := h132.2; omega
            have sm151 := Same.of kk144 rfl rfl rfl
            have h152 : PIx zz140 := pi_q h134 sm151 h148.1 (kk144.1 386 12 rfl) (kk144.1 386 11 rfl)
            have h153 : SO z + 0 ≤ SO zz140 := so_q 1 h137 sm151 (kk144.1 386 16 rfl) (h146 h130) (by decide)
            have h154 : cn zz140 = cn zz120 := cn_k (kk144.1 386 16 rfl) (kk144.2.1 393 rfl).1
            have h155 : Gd (cn zz140 - cn z + 0) 0 z zz140 := by rw [h154]; exact Gd.sm h138 sm151
            have h156 : cn zz140 = cn z := by rw [h154]; exact h139
            refine lv_iconst (v := 1) E.1 E.2.1 dX11_fact_38 (by decide) ?_
            refine lv_istore_n (lv' := [(1, .int 1), (2, .int r32), (0, .ref (ad 386))]) E.1 E.2.1 dX11_fact_39 rfl hl (by decide) rfl (fun ls hl => ?_)
            refine lv_goto (tgt := 72) E.1 E.2.1 dX11_fact_40 (by decide) ?_
            refine lv_goto (tgt := 2) E.1 E.2.1 dX11_fact_72 (by decide) ?_
            exact ih2 zz140 1 H locs ls G oo143 kk147 (iv_mono (iv_lit (lo := 1) (hi := 1) 1 (by decide) (by decide)) (by decide) (by decide)) h148 h152 (by have h := h153; omega) h155 h156 (by have h1 := m5; have h2 := h150; have h3 := b30.1; have e1 : (1 : Int32).toInt = 1 := (by decide); have e0 : (0 : Int32).toInt = 0 := (by decide); omega) (lv_sub hl [0, 2] rfl)
          · skip
            have b157 : iv 0 0 r121 := iv_eq c135 (iv_lit (lo := 0) (hi := 0) 0 (by decide) (by decide))
            have h158 : SO z + 0 ≤ SO zz120 := so_q 0 h66 sm133 (h127 c135).1 (by rw [kk124.1 386 8 rfl]; omega) (by decide)
            have h159 : Gd (cn zz120 - cn z + 0) 0 z zz120 := by rw [(h127 c135).2]; exact Gd.sm h68 sm133
            have h160 : cn zz120 = cn z := by rw [(h127 c135).2]; exact h69
            refine lv_iconst (v := 0) E.1 E.2.1 dX11_fact_32 (by decide) ?_
            exact RET G ⟨oo123, kk128, (iv_mono (iv_lit (lo := 0) (hi := 0) 0 (by decide) (by decide)) (by decide) (by decide)), h129, h134, (by have h := h158; omega), (fun h => absurd rfl h)⟩ (by decide) dX11_fact_33
  exact LOOP2 802 z 1 H locs ls G o KPf.rf (iv_mono (iv_lit (lo := 1) (hi := 1) 1 (by decide) (by decide)) (by decide) (by decide)) sc0 hp (by have h := so0; omega) gd0 rfl (by have := (o.i (j := 386) 11 8 rfl).1; have e : ilo 11 8 = 0 := (by decide); have e1 : (1 : Int32).toInt = 1 := (by decide); omega) (lv_sub hl [0, 1] rfl)
