theorem mw_code_X11_strength : (Cond.code yX11_strength cX11_strength 1 (some .int) : Cond) ∈ cw := cw_of (List.mem_append_right _ (List.mem_append_right _ (List.mem_append_right _ (List.mem_append_right _ (List.mem_append_right _ (List.mem_append_right _ (List.mem_append_left _ (List.mem_of_getElem? (i := 139) rfl)))))))) (by decide +kernel)
theorem mw_ml_11_159 : (Cond.methodLink RX11 159 yX11_strength : Cond) ∈ cw := cw_of (List.mem_append_right _ (List.mem_append_right _ (List.mem_append_right _ (List.mem_append_right _ (List.mem_append_right _ (List.mem_append_right _ (List.mem_append_left _ (List.mem_of_getElem? (i := 137) (by decide +kernel))))))))) (by decide +kernel)
theorem mw_stat_X11_strength : (Cond.static yX11_strength : Cond) ∈ cw := cw_of (List.mem_append_right _ (List.mem_append_right _ (List.mem_append_right _ (List.mem_append_right _ (List.mem_append_right _ (List.mem_append_right _ (List.mem_append_left _ (List.mem_of_getElem? (i := 138) (by decide +kernel))))))))) (by decide +kernel)
theorem dX11_layDown_0 : decode cX11_layDown 0 = .ok (.aload_n 0, 1) := by decide +kernel
theorem dX11_layDown_1 : decode cX11_layDown 1 = .ok (.getfield 156, 3) := by decide +kernel
theorem dX11_layDown_4 : decode cX11_layDown 4 = .ok (.ifCond .le 72, 3) := by decide +kernel
theorem dX11_layDown_7 : decode cX11_layDown 7 = .ok (.aload_n 0, 1) := by decide +kernel
theorem dX11_layDown_8 : decode cX11_layDown 8 = .ok (.getfield 29, 3) := by decide +kernel
theorem dX11_layDown_11 : decode cX11_layDown 11 = .ok (.aload_n 0, 1) := by decide +kernel
theorem dX11_layDown_12 : decode cX11_layDown 12 = .ok (.getfield 156, 3) := by decide +kernel
theorem dX11_layDown_15 : decode cX11_layDown 15 = .ok (.iconst 1, 1) := by decide +kernel
theorem dX11_layDown_16 : decode cX11_layDown 16 = .ok (.isub, 1) := by decide +kernel
theorem dX11_layDown_17 : decode cX11_layDown 17 = .ok (.iaload, 1) := by decide +kernel
theorem dX11_layDown_18 : decode cX11_layDown 18 = .ok (.invokestatic 159, 3) := by decide +kernel
theorem dX11_layDown_21 : decode cX11_layDown 21 = .ok (.iload_n 1, 1) := by decide +kernel
theorem dX11_layDown_22 : decode cX11_layDown 22 = .ok (.if_icmp .lt 54, 3) := by decide +kernel
theorem dX11_layDown_25 : decode cX11_layDown 25 = .ok (.aload_n 0, 1) := by decide +kernel
theorem dX11_layDown_26 : decode cX11_layDown 26 = .ok (.dup, 1) := by decide +kernel
theorem dX11_layDown_27 : decode cX11_layDown 27 = .ok (.getfield 156, 3) := by decide +kernel
theorem dX11_layDown_30 : decode cX11_layDown 30 = .ok (.iconst 1, 1) := by decide +kernel
theorem dX11_layDown_31 : decode cX11_layDown 31 = .ok (.isub, 1) := by decide +kernel
theorem dX11_layDown_32 : decode cX11_layDown 32 = .ok (.putfield 156, 3) := by decide +kernel
theorem dX11_layDown_35 : decode cX11_layDown 35 = .ok (.aload_n 0, 1) := by decide +kernel
theorem dX11_layDown_36 : decode cX11_layDown 36 = .ok (.aload_n 0, 1) := by decide +kernel
theorem dX11_layDown_37 : decode cX11_layDown 37 = .ok (.getfield 29, 3) := by decide +kernel
theorem dX11_layDown_40 : decode cX11_layDown 40 = .ok (.aload_n 0, 1) := by decide +kernel
theorem dX11_layDown_41 : decode cX11_layDown 41 = .ok (.getfield 156, 3) := by decide +kernel
theorem dX11_layDown_44 : decode cX11_layDown 44 = .ok (.iaload, 1) := by decide +kernel
theorem dX11_layDown_45 : decode cX11_layDown 45 = .ok (.iconst 0, 1) := by decide +kernel
theorem dX11_layDown_46 : decode cX11_layDown 46 = .ok (.invokevirtual 163, 3) := by decide +kernel
theorem dX11_layDown_49 : decode cX11_layDown 49 = .ok (.aload_n 0, 1) := by decide +kernel
theorem dX11_layDown_50 : decode cX11_layDown 50 = .ok (.getfield 29, 3) := by decide +kernel
theorem dX11_layDown_53 : decode cX11_layDown 53 = .ok (.aload_n 0, 1) := by decide +kernel
theorem dX11_layDown_54 : decode cX11_layDown 54 = .ok (.getfield 156, 3) := by decide +kernel
theorem dX11_layDown_57 : decode cX11_layDown 57 = .ok (.iaload, 1) := by decide +kernel
theorem dX11_layDown_58 : decode cX11_layDown 58 = .ok (.bipush 11, 2) := by decide +kernel
theorem dX11_layDown_60 : decode cX11_layDown 60 = .ok (.if_icmp .ne (-60), 3) := by decide +kernel
theorem dX11_layDown_63 : decode cX11_layDown 63 = .ok (.aload_n 0, 1) := by decide +kernel
theorem dX11_layDown_64 : decode cX11_layDown 64 = .ok (.dup, 1) := by decide +kernel
theorem dX11_layDown_65 : decode cX11_layDown 65 = .ok (.getfield 153, 3) := by decide +kernel
theorem dX11_layDown_68 : decode cX11_layDown 68 = .ok (.iconst 1, 1) := by decide +kernel
theorem dX11_layDown_69 : decode cX11_layDown 69 = .ok (.isub, 1) := by decide +kernel
theorem dX11_layDown_70 : decode cX11_layDown 70 = .ok (.putfield 153, 3) := by decide +kernel
theorem dX11_layDown_73 : decode cX11_layDown 73 = .ok (.goto (-73), 3) := by decide +kernel
theorem dX11_layDown_76 : decode cX11_layDown 76 = .ok (.return_, 1) := by decide +kernel
theorem hd_X11_strength : yX11_strength.cls ≠ "java/lang/invoke/MethodHandle" ∧ yX11_strength.cls ≠ "java/lang/invoke/VarHandle" ∧ (parseMethodDescriptor yX11_strength.desc).map (fun d => d.parameters.length) = some 1 := ⟨by decide +kernel, by decide +kernel, by decide +kernel⟩
theorem nb_pop {z zz u : TS} {a a' v : Int32} (nb : NBx z zz) (row : tA zz 393 = tA z 393) (ea : tI zz 386 16 = a) (b : iv 1 400 a) (eu : tI u 386 16 = a') (l : a'.toInt = a.toInt - 1) (hv : v = tA zz 393 a'.toNatClampNeg) (hn : ¬ v = 91) : NBx z u := by
  intro k hk h91
  have q := nb k hk h91
  rw [ea] at q
  rw [eu]
  have b1 := b.1
  have e : a'.toNatClampNeg = a'.toInt.toNat := rfl
  have hne : ¬ k = a'.toNatClampNeg := fun w => hn (by rw [hv, ← w, row]; exact h91)
  omega
theorem top_of {z : TS} {a i v : Int32} (ea : a = tI z 386 16) (hv : v = tA z 393 i.toNatClampNeg) (l : i.toInt = a.toInt - 1) (h : ¬ (v = 12 ∨ v = 13)) : TOPx z := by
  refine Or.inr ?_
  have e : i.toNatClampNeg = i.toInt.toNat := rfl
  rw [← ea, ← l, ← e, ← hv]
  exact h
theorem top_0 {z : TS} {a : Int32} (ea : a = tI z 386 16) (h : a ≤ 0) : TOPx z := by
  refine Or.inl ?_
  rw [← ea]
  have := Int32.le_iff_toInt_le.mp h
  have e : (0 : Int32).toInt = 0 := by decide
  omega
set_option maxHeartbeats 4000000 in
set_option maxRecDepth 100000 in
theorem v_layDown (l : Launch) (D : va_G) (K : Nat → ClassId) (ad : Nat → Nat) (z : TS) (o : Ok z) (x1 : Int32) (bx1 : iv 1 3 x1) (hp : PIx z) (ho : 0 ≤ SO z) : cV l yX11_layDown cX11_layDown 2 ({ frames := 1, cells := 0, slots := 0, locals := 22 }) D K ad z [.ref (ad 386), .int x1] (fun u => Ok u ∧ KPL z u ∧ (PIx u) ∧ (SO z ≤ SO u) ∧ (cn u ≤ cn z ∧ Gd (cn u - cn z) (cn z - cn u + 1) z u) ∧ (x1 = 1 → TOPx u) ∧ (NBx z u)) := by
  refine t_enterV (by decide) (Nat.le_of_ble_eq_true rfl) rfl rfl ?_
  intro p e s m args below meth c A R Q H locs ls E hfr hlo RET G hl
  have E : mE p s m meth c cX11_layDown args 2 RX11 D K A := E
  have hl : lv_has ls 2 [(0, .ref (ad 386)), (1, .int x1)] := hl
  have LOOP0 : ∀ n : Nat, ∀ (zz1 : TS) (H : Heap) (locs : List Loc) (ls : Array Slot), mG D A s H locs (wd K ad zz1) → Ok zz1 → KPL z zz1 → PIx zz1 → SO z + 0 ≤ SO zz1 → cn zz1 ≤ cn z → Gd (cn zz1 - cn z) (cn z - cn zz1 + 1) z zz1 → NBx z zz1 → (tI zz1 386 16).toInt < (n : Int) → lv_has ls 2 [(0, .ref (ad 386)), (1, .int x1)] → W p l e R s m args below meth c H locs 0 0 Q (F0 m 0 ls []) := by
    intro n
    induction n with
    | zero =>
      intro zz1 H locs ls G oo2 kk3 h5 h6 h7 h8 h9 m4 hl
      exact absurd m4 (by have := (oo2.i (j := 386) 11 16 rfl).1; have e : ilo 11 16 = 0 := (by decide); omega)
    | succ n ih0 =>
      intro zz1 H locs ls G oo2 kk3 h5 h6 h7 h8 h9 m4 hl
      refine lv_aload_n E.1 E.2.1 dX11_layDown_0 rfl (lv_at hl 0 rfl) ?_
      refine t_get E G 11 16 (rfl : ro 386 = 11) (C := RX11) (T := TX11) (N := 37) rfl (by decide) (by decide) (by decide) mw_fl_11_156 (fvl_i rfl) dX11_layDown_1 ?_
      refine lv_topi (fun v10 e11 => ?_)
      have b12 : iv 0 400 v10 := by rw [e11]; exact oo2.i 11 16 (rfl : ro 386 = 11)
      refine lv_if_le (tgt := 76) E.1 E.2.1 dX11_layDown_4 (by decide) (fun c13 => ?_) (fun c13 => ?_)
      · skip
        have b14 : iv 0 0 v10 := le_l c13 b12 (iv_lit (lo := 0) (hi := 0) 0 (by decide) (by decide)) (by decide)
        exact RET G ⟨oo2, kk3, h5, (by have h := h6; omega), ⟨h7, h8⟩, (fun _ => top_0 e11.symm.symm c13), h9⟩ dX11_layDown_76
      · skip
        have b15 : iv 1 400 v10 := lt_r (Int32.not_le.mp c13) (iv_lit (lo := 0) (hi := 0) 0 (by decide) (by decide)) b12 (by decide)
        refine lv_aload_n E.1 E.2.1 dX11_layDown_7 rfl (lv_at hl 0 rfl) ?_
        refine t_get E G 11 15 (rfl : ro 386 = 11) (C := RX11) (T := TX11) (N := 37) rfl (by decide) (by decide) (by decide) mw_fl_11_29 (v := .ref (ad 393)) (fvl_o (n := 7) rfl) dX11_layDown_8 ?_
        refine lv_aload_n E.1 E.2.1 dX11_layDown_11 rfl (lv_at hl 0 rfl) ?_
        refine t_get E G 11 16 (rfl : ro 386 = 11) (C := RX11) (T := TX11) (N := 37) rfl (by decide) (by decide) (by decide) mw_fl_11_156 (fvl_i rfl) dX11_layDown_12 ?_
        refine m_ci v10 e11.symm ?_
        refine lv_iconst (v := 1) E.1 E.2.1 dX11_layDown_15 (by decide) ?_
        refine lv_isub E.1 E.2.1 dX11_layDown_16 ?_
        refine lv_topi (fun v16 e17 => ?_)
        have b18 : iv 0 399 v16 := by rw [e17]; exact iv_sub b15 (iv_lit (lo := 1) (hi := 1) 1 (by decide) (by decide)) (by decide) (by decide) (by decide) (by decide)
        have l19 : v16.toInt = (-1) + 1 * v10.toInt := (show v16.toInt = v10.toInt - 1 by rw [e17]; exact ti_subc 1 (by decide) b15 (by decide) (by decide)).trans (by omega)
        refine t_iald E G 51 (rfl : ro 393 = 51) (by decide) (by decide) rfl (n := 400) rfl (iv_vp b18 (by decide) (by decide)) dX11_layDown_17 ?_
        refine lv_topi (fun v20 e21 => ?_)
        refine t_si E G hl (v_strength l D K ad zz1 oo2 v20) 1 rfl mw_code_X11_strength mw_ini_11 mw_ml_11_159 mw_stat_X11_strength hd_X11_strength ⟨Nat.le_trans (by decide) hfr, Nat.le_trans (by decide) hlo⟩ rfl rfl rfl (Nat.le_of_ble_eq_true rfl) dX11_layDown_18 (fun r23 zz22 H locs hp24 G => ?_)
        obtain ⟨hz28, b25, h26, h27⟩ := hp24
        rw [hz28] at G
        refine lv_iload_n E.1 E.2.1 dX11_layDown_21 rfl (lv_at hl 1 rfl) ?_
        refine lv_icmp_lt (tgt := 76) E.1 E.2.1 dX11_layDown_22 (by decide) (fun c29 => ?_) (fun c29 => ?_)
        · skip
          have b30 : iv 0 2 r23 := lt_l c29 b25 bx1 (by decide)
          exact RET G ⟨oo2, kk3, h5, (by have h := h6; omega), ⟨h7, h8⟩, (fun h1 => top_of e11.symm.symm e21 (l19.trans (by omega)) (h27 (zero_of (show iv 0 0 r23 from ⟨b30.1, by have q := Int32.lt_iff_toInt_lt.mp c29; have q2 := congrArg Int32.toInt h1; have e1 : (1 : Int32).toInt = 1 := (by decide); omega⟩)))), h9⟩ dX11_layDown_76
        · skip
          have b31 : iv 1 3 r23 := le_r (Int32.not_lt.mp c29) bx1 b25 (by decide)
          refine lv_aload_n E.1 E.2.1 dX11_layDown_25 rfl (lv_at hl 0 rfl) ?_
          refine lv_dup E.1 E.2.1 dX11_layDown_26 rfl ?_
          refine t_get E G 11 16 (rfl : ro 386 = 11) (C := RX11) (T := TX11) (N := 37) rfl (by decide) (by decide) (by decide) mw_fl_11_156 (fvl_i rfl) dX11_layDown_27 ?_
          refine m_ci v10 e11.symm ?_
          refine lv_iconst (v := 1) E.1 E.2.1 dX11_layDown_30 (by decide) ?_
          refine lv_isub E.1 E.2.1 dX11_layDown_31 ?_
          refine lv_topi (fun v32 e33 => ?_)
          have b34 : iv 0 399 v32 := by rw [e33]; exact iv_sub b15 (iv_lit (lo := 1) (hi := 1) 1 (by decide) (by decide)) (by decide) (by decide) (by decide) (by decide)
          have l35 : v32.toInt = (-1) + 1 * v10.toInt := (show v32.toInt = v10.toInt - 1 by rw [e33]; exact ti_subc 1 (by decide) b15 (by decide) (by decide)).trans (by omega)
          refine t_puti E G 11 16 (rfl : ro 386 = 11) (C := RX11) (T := TX11) (N := 37) rfl (by decide) (by decide) (by decide) rfl rfl mw_fl_11_156 rfl dX11_layDown_32 (fun H locs G => ?_)
          have h36 : v20 = tA zz1 393 v32.toNatClampNeg := e21.trans (by rw [show v16 = v32 from Int32.toInt_inj.mp (by rw [l19, l35])])
          obtain ⟨zz42, G, oo43, kk44, h45, h37, h38, h39, h40, h41⟩ : ∃ u : TS, mG D A s H locs (wd K ad u) ∧ Ok u ∧ KPL z u ∧ tI u 386 16 = v32 ∧ (tA u 393 = tA zz1 393) ∧ (PIx u) ∧ (SO z + 1 ≤ SO u) ∧ (cn zz1 = cn u + (if v20 = 12 ∨ v20 = 13 then 1 else 0)) ∧ (Gd (cn zz1 - cn z) (cn z - cn zz1 + 1) z u) := ⟨_, G, ok_i oo2 11 (rfl : ro 386 = 11) (iv_mono b34 (by decide) (by decide)) (by decide), KPf.tr kk3 (KPf_i 11 (rfl : ro 386 = 11) (by decide)), sI_self, rfl, (pi_q h5 (Same.i (by decide)) h5.2.1 rfl rfl), (so_op (d := -1) h6 (Same.i (by decide)) rfl (by rw [sI_self]; have e := congrArg Int32.toInt e11.symm.symm; have := l35; omega) (by decide)), (cn_pop e11.symm.symm.symm b15 rfl sI_self (l35.trans (by omega)) h36), (Gd.sm h8 (Same.i (by decide)))⟩
          refine lv_aload_n E.1 E.2.1 dX11_layDown_35 rfl (lv_at hl 0 rfl) ?_
          refine lv_aload_n E.1 E.2.1 dX11_layDown_36 rfl (lv_at hl 0 rfl) ?_
          refine t_get E G 11 15 (rfl : ro 386 = 11) (C := RX11) (T := TX11) (N := 37) rfl (by decide) (by decide) (by decide) mw_fl_11_29 (v := .ref (ad 393)) (fvl_o (n := 7) rfl) dX11_layDown_37 ?_
          refine lv_aload_n E.1 E.2.1 dX11_layDown_40 rfl (lv_at hl 0 rfl) ?_
          refine t_get E G 11 16 (rfl : ro 386 = 11) (C := RX11) (T := TX11) (N := 37) rfl (by decide) (by decide) (by decide) mw_fl_11_156 (fvl_i rfl) dX11_layDown_41 ?_
          refine m_ci v32 h45 ?_
          refine t_iald E G 51 (rfl : ro 393 = 51) (by decide) (by decide) rfl (n := 400) rfl (iv_vp b34 (by decide) (by decide)) dX11_layDown_44 ?_
          refine m_ci v20 (by rw [h37]; exact h36.symm) ?_
          refine lv_iconst (v := 0) E.1 E.2.1 dX11_layDown_45 (by decide) ?_
          rcases h26 (ivne2 b31 (iv_lit (lo := 0) (hi := 0) 0 (by decide) (by decide)) (by decide)) with hv46 | hv46
          · skip
            have b47 : iv 11 11 v20 := iv_eq hv46 (iv_lit (lo := 11) (hi := 11) 11 (by decide) (by decide))
            refine t_vv E G hl (v_puts_not l D K ad zz42 oo43 v20 (iv_mono b47 (by decide) (by decide)) h38 (le399 oo43 (so_1 oo43 (by have h1 := ho; have h2 := h39; omega)))) 11 (rfl : ro 386 = 11) (by decide) rfl rfl 2 rfl mw_code_X11_puts mw_ini_11 mw_ml_11_163 mw_inst_X11_puts mw_sel_X11_puts hd_X11_puts ⟨Nat.le_trans (by decide) hfr, Nat.le_trans (by decide) hlo⟩ rfl rfl rfl (Nat.le_of_ble_eq_true rfl) dX11_layDown_46 (fun zz48 H locs hp50 G => ?_)
            obtain ⟨oo51, kk52, h53, h54, h55⟩ := hp50
            have kk56 : KPL z zz48 := KPf.tr kk44 (KPU.l kk52)
            have h57 : tI zz48 386 16 = v32 := KPf.i kk52 11 (rfl : ro 386 = 11) (by decide) h45
            have h58 : SO z + 0 ≤ SO zz48 := by have h := so_pu h39 h54 (kk52.1 386 16 rfl); omega
            have h59 : cn zz48 = cn zz42 := cn_k (kk52.1 386 16 rfl) (kk52.2.1 393 rfl).1
            have h60 := h40
            rw [if_no hv46] at h60
            have h61 : Gd (cn zz48 - cn z) (cn z - cn zz48 + 1) z zz48 := Gd.tr (Gd.wk (d' := cn zz1 - cn z) (m' := cn z - cn zz48 + 1) h41 (Int.le_refl _) (by omega)) kk44 h55 (by omega) (by omega)
            have h62 : cn zz48 ≤ cn z := by have h := h7; omega
            have h63 : NBx z zz48 := nb_pop h9 (kk3.2.1 393 rfl).1 e11.symm.symm.symm b15 h57 (l35.trans (by omega)) h36 (fun q => by rw [q] at hv46; exact absurd hv46 (by decide))
            refine lv_aload_n E.1 E.2.1 dX11_layDown_49 rfl (lv_at hl 0 rfl) ?_
            refine t_get E G 11 15 (rfl : ro 386 = 11) (C := RX11) (T := TX11) (N := 37) rfl (by decide) (by decide) (by decide) mw_fl_11_29 (v := .ref (ad 393)) (fvl_o (n := 7) rfl) dX11_layDown_50 ?_
            refine lv_aload_n E.1 E.2.1 dX11_layDown_53 rfl (lv_at hl 0 rfl) ?_
            refine t_get E G 11 16 (rfl : ro 386 = 11) (C := RX11) (T := TX11) (N := 37) rfl (by decide) (by decide) (by decide) mw_fl_11_156 (fvl_i rfl) dX11_layDown_54 ?_
            refine m_ci v32 h57 ?_
            refine t_iald E G 51 (rfl : ro 393 = 51) (by decide) (by decide) rfl (n := 400) rfl (iv_vp b34 (by decide) (by decide)) dX11_layDown_57 ?_
            refine lv_topi (fun v64 e65 => ?_)
            refine lv_bipush (v := 11) E.1 E.2.1 dX11_layDown_58 (by decide) ?_
            refine lv_icmp_ne (tgt := 0) E.1 E.2.1 dX11_layDown_60 (by decide) (fun c66 => ?_) (fun c66 => ?_)
            · skip
              exact ih0 zz48 H locs ls G oo51 kk56 h53 h58 h62 h61 h63 (by have q := congrArg Int32.toInt h57; have q2 := congrArg Int32.toInt e11.symm.symm; have := l35; have := m4; omega) (lv_sub hl [0, 1] rfl)
            · skip
              have b67 : iv 11 11 v64 := iv_eq c66 (iv_lit (lo := 11) (hi := 11) 11 (by decide) (by decide))
              refine lv_aload_n E.1 E.2.1 dX11_layDown_63 rfl (lv_at hl 0 rfl) ?_
              refine lv_dup E.1 E.2.1 dX11_layDown_64 rfl ?_
              refine t_get E G 11 13 (rfl : ro 386 = 11) (C := RX11) (T := TX11) (N := 37) rfl (by decide) (by decide) (by decide) mw_fl_11_153 (fvl_i rfl) dX11_layDown_65 ?_
              refine lv_topi (fun v68 e69 => ?_)
              refine lv_iconst (v := 1) E.1 E.2.1 dX11_layDown_68 (by decide) ?_
              refine lv_isub E.1 E.2.1 dX11_layDown_69 ?_
              refine lv_topi (fun v70 e71 => ?_)
              refine t_puti E G 11 13 (rfl : ro 386 = 11) (C := RX11) (T := TX11) (N := 37) rfl (by decide) (by decide) (by decide) rfl rfl mw_fl_11_153 rfl dX11_layDown_70 (fun H locs G => ?_)
              obtain ⟨zz77, G, oo78, kk79, h80, h81, h72, h73, h74, h75, h76⟩ : ∃ u : TS, mG D A s H locs (wd K ad u) ∧ Ok u ∧ KPL z u ∧ tI u 386 16 = v32 ∧ tI u 386 13 = v70 ∧ (PIx u) ∧ (SO z + 0 ≤ SO u) ∧ (cn u ≤ cn z) ∧ (Gd (cn u - cn z) (cn z - cn u + 1) z u) ∧ (NBx z u) := ⟨_, G, ok_i oo51 11 (rfl : ro 386 = 11) (iv_full _) (by decide), KPf.tr kk56 (KPf_i 11 (rfl : ro 386 = 11) (by decide)), (sI_k h57 (by decide)), sI_self, (pi_q h53 (Same.i (by decide)) h53.2.1 rfl rfl), h58, h62, (Gd.sm h61 (Same.i (by decide))), h63⟩
              refine lv_goto (tgt := 0) E.1 E.2.1 dX11_layDown_73 (by decide) ?_
              exact ih0 zz77 H locs ls G oo78 kk79 h72 h73 h74 h75 h76 (by have q := congrArg Int32.toInt h80; have q2 := congrArg Int32.toInt e11.symm.symm; have := l35; have := m4; omega) (lv_sub hl [0, 1] rfl)
          · skip
            have b82 : iv 12 13 v20 := c1213 hv46
            refine t_vv E G hl (v_puts_op l D K ad zz42 oo43 v20 (iv_mono b82 (by decide) (by decide)) h38 (le399 oo43 (so_1 oo43 (by have h1 := ho; have h2 := h39; omega))) (ivne2 b82 (iv_lit (lo := 11) (hi := 11) 11 (by decide) (by decide)) (by decide))) 11 (rfl : ro 386 = 11) (by decide) rfl rfl 2 rfl mw_code_X11_puts mw_ini_11 mw_ml_11_163 mw_inst_X11_puts mw_sel_X11_puts hd_X11_puts ⟨Nat.le_trans (by decide) hfr, Nat.le_trans (by decide) hlo⟩ rfl rfl rfl (Nat.le_of_ble_eq_true rfl) dX11_layDown_46 (fun zz83 H locs hp85 G => ?_)
            obtain ⟨oo86, kk87, h88, h89, h90⟩ := hp85
            have kk91 : KPL z zz83 := KPf.tr kk44 (KPU.l kk87)
            have h92 : tI zz83 386 16 = v32 := KPf.i kk87 11 (rfl : ro 386 = 11) (by decide) h45
            have h93 : SO z + 0 ≤ SO zz83 := by have h := so_pu h39 h89 (kk87.1 386 16 rfl); omega
            have h94 : cn zz83 = cn zz42 := cn_k (kk87.1 386 16 rfl) (kk87.2.1 393 rfl).1
            have h95 := h40
            rw [if_yes hv46] at h95
            have h96 : Gd (cn zz83 - cn z) (cn z - cn zz83 + 1) z zz83 := Gd.tr (Gd.wk (d' := cn zz1 - cn z) (m' := cn z - cn zz83 + 1) h41 (Int.le_refl _) (by omega)) kk44 h90 (by omega) (by omega)
            have h97 : cn zz83 ≤ cn z := by have h := h7; omega
            have h98 : NBx z zz83 := nb_pop h9 (kk3.2.1 393 rfl).1 e11.symm.symm.symm b15 h92 (l35.trans (by omega)) h36 (fun q => by rw [q] at hv46; exact absurd hv46 (by decide))
            refine lv_aload_n E.1 E.2.1 dX11_layDown_49 rfl (lv_at hl 0 rfl) ?_
            refine t_get E G 11 15 (rfl : ro 386 = 11) (C := RX11) (T := TX11) (N := 37) rfl (by decide) (by decide) (by decide) mw_fl_11_29 (v := .ref (ad 393)) (fvl_o (n := 7) rfl) dX11_layDown_50 ?_
            refine lv_aload_n E.1 E.2.1 dX11_layDown_53 rfl (lv_at hl 0 rfl) ?_
            refine t_get E G 11 16 (rfl : ro 386 = 11) (C := RX11) (T := TX11) (N := 37) rfl (by decide) (by decide) (by decide) mw_fl_11_156 (fvl_i rfl) dX11_layDown_54 ?_
            refine m_ci v32 h92 ?_
            refine t_iald E G 51 (rfl : ro 393 = 51) (by decide) (by decide) rfl (n := 400) rfl (iv_vp b34 (by decide) (by decide)) dX11_layDown_57 ?_
            refine lv_topi (fun v99 e100 => ?_)
            refine lv_bipush (v := 11) E.1 E.2.1 dX11_layDown_58 (by decide) ?_
            refine lv_icmp_ne (tgt := 0) E.1 E.2.1 dX11_layDown_60 (by decide) (fun c101 => ?_) (fun c101 => ?_)
            · skip
              exact ih0 zz83 H locs ls G oo86 kk91 h88 h93 h97 h96 h98 (by have q := congrArg Int32.toInt h92; have q2 := congrArg Int32.toInt e11.symm.symm; have := l35; have := m4; omega) (lv_sub hl [0, 1] rfl)
            · skip
              have b102 : iv 11 11 v99 := iv_eq c101 (iv_lit (lo := 11) (hi := 11) 11 (by decide) (by decide))
              refine lv_aload_n E.1 E.2.1 dX11_layDown_63 rfl (lv_at hl 0 rfl) ?_
              refine lv_dup E.1 E.2.1 dX11_layDown_64 rfl ?_
              refine t_get E G 11 13 (rfl : ro 386 = 11) (C := RX11) (T := TX11) (N := 37) rfl (by decide) (by decide) (by decide) mw_fl_11_153 (fvl_i rfl) dX11_layDown_65 ?_
              refine lv_topi (fun v103 e104 => ?_)
              refine lv_iconst (v := 1) E.1 E.2.1 dX11_layDown_68 (by decide) ?_
              refine lv_isub E.1 E.2.1 dX11_layDown_69 ?_
              refine lv_topi (fun v105 e106 => ?_)
              refine t_puti E G 11 13 (rfl : ro 386 = 11) (C := RX11) (T := TX11) (N := 37) rfl (by decide) (by decide) (by decide) rfl rfl mw_fl_11_153 rfl dX11_layDown_70 (fun H locs G => ?_)
              obtain ⟨zz112, G, oo113, kk114, h115, h116, h107, h108, h109, h110, h111⟩ : ∃ u : TS, mG D A s H locs (wd K ad u) ∧ Ok u ∧ KPL z u ∧ tI u 386 16 = v32 ∧ tI u 386 13 = v105 ∧ (PIx u) ∧ (SO z + 0 ≤ SO u) ∧ (cn u ≤ cn z) ∧ (Gd (cn u - cn z) (cn z - cn u + 1) z u) ∧ (NBx z u) := ⟨_, G, ok_i oo86 11 (rfl : ro 386 = 11) (iv_full _) (by decide), KPf.tr kk91 (KPf_i 11 (rfl : ro 386 = 11) (by decide)), (sI_k h92 (by decide)), sI_self, (pi_q h88 (Same.i (by decide)) h88.2.1 rfl rfl), h93, h97, (Gd.sm h96 (Same.i (by decide))), h98⟩
              refine lv_goto (tgt := 0) E.1 E.2.1 dX11_layDown_73 (by decide) ?_
              exact ih0 zz112 H locs ls G oo113 kk114 h107 h108 h109 h110 h111 (by have q := congrArg Int32.toInt h115; have q2 := congrArg Int32.toInt e11.symm.symm; have := l35; have := m4; omega) (lv_sub hl [0, 1] rfl)
  exact LOOP0 401 z H locs ls G o KPf.rf hp (by omega) (Int.le_refl _) (Gd.wk Gd.rf (by omega) (by omega)) (fun _ h _ => h) (by have := (o.i (j := 386) 11 16 rfl).2; have e : ihi 11 16 = 400 := (by decide); omega) (lv_sub hl [0, 1] rfl)
