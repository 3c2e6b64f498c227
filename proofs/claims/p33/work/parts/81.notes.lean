theorem dX11_areNotesSo_0 : decode cX11_areNotesSo 0 = .ok (.iconst 0, 1) := by decide +kernel
theorem dX11_areNotesSo_1 : decode cX11_areNotesSo 1 = .ok (.istore_n 2, 1) := by decide +kernel
theorem dX11_areNotesSo_2 : decode cX11_areNotesSo 2 = .ok (.iload_n 2, 1) := by decide +kernel
theorem dX11_areNotesSo_3 : decode cX11_areNotesSo 3 = .ok (.iconst 3, 1) := by decide +kernel
theorem dX11_areNotesSo_4 : decode cX11_areNotesSo 4 = .ok (.aload_n 0, 1) := by decide +kernel
theorem dX11_areNotesSo_5 : decode cX11_areNotesSo 5 = .ok (.getfield 39, 3) := by decide +kernel
theorem dX11_areNotesSo_8 : decode cX11_areNotesSo 8 = .ok (.bipush 126, 2) := by decide +kernel
theorem dX11_areNotesSo_10 : decode cX11_areNotesSo 10 = .ok (.iaload, 1) := by decide +kernel
theorem dX11_areNotesSo_11 : decode cX11_areNotesSo 11 = .ok (.imul, 1) := by decide +kernel
theorem dX11_areNotesSo_12 : decode cX11_areNotesSo 12 = .ok (.if_icmp .ge 53, 3) := by decide +kernel
theorem dX11_areNotesSo_15 : decode cX11_areNotesSo 15 = .ok (.aload_n 0, 1) := by decide +kernel
theorem dX11_areNotesSo_16 : decode cX11_areNotesSo 16 = .ok (.getfield 39, 3) := by decide +kernel
theorem dX11_areNotesSo_19 : decode cX11_areNotesSo 19 = .ok (.bipush 96, 2) := by decide +kernel
theorem dX11_areNotesSo_21 : decode cX11_areNotesSo 21 = .ok (.iload_n 2, 1) := by decide +kernel
theorem dX11_areNotesSo_22 : decode cX11_areNotesSo 22 = .ok (.iadd, 1) := by decide +kernel
theorem dX11_areNotesSo_23 : decode cX11_areNotesSo 23 = .ok (.iaload, 1) := by decide +kernel
theorem dX11_areNotesSo_24 : decode cX11_areNotesSo 24 = .ok (.iload_n 1, 1) := by decide +kernel
theorem dX11_areNotesSo_25 : decode cX11_areNotesSo 25 = .ok (.if_icmp .ne 34, 3) := by decide +kernel
theorem dX11_areNotesSo_28 : decode cX11_areNotesSo 28 = .ok (.aload_n 0, 1) := by decide +kernel
theorem dX11_areNotesSo_29 : decode cX11_areNotesSo 29 = .ok (.aload_n 0, 1) := by decide +kernel
theorem dX11_areNotesSo_30 : decode cX11_areNotesSo 30 = .ok (.getfield 39, 3) := by decide +kernel
theorem dX11_areNotesSo_33 : decode cX11_areNotesSo 33 = .ok (.bipush 96, 2) := by decide +kernel
theorem dX11_areNotesSo_35 : decode cX11_areNotesSo 35 = .ok (.iload_n 2, 1) := by decide +kernel
theorem dX11_areNotesSo_36 : decode cX11_areNotesSo 36 = .ok (.iadd, 1) := by decide +kernel
theorem dX11_areNotesSo_37 : decode cX11_areNotesSo 37 = .ok (.iconst 1, 1) := by decide +kernel
theorem dX11_areNotesSo_38 : decode cX11_areNotesSo 38 = .ok (.iadd, 1) := by decide +kernel
theorem dX11_areNotesSo_39 : decode cX11_areNotesSo 39 = .ok (.iaload, 1) := by decide +kernel
theorem dX11_areNotesSo_40 : decode cX11_areNotesSo 40 = .ok (.invokevirtual 291, 3) := by decide +kernel
theorem dX11_areNotesSo_43 : decode cX11_areNotesSo 43 = .ok (.aload_n 0, 1) := by decide +kernel
theorem dX11_areNotesSo_44 : decode cX11_areNotesSo 44 = .ok (.getfield 39, 3) := by decide +kernel
theorem dX11_areNotesSo_47 : decode cX11_areNotesSo 47 = .ok (.bipush 96, 2) := by decide +kernel
theorem dX11_areNotesSo_49 : decode cX11_areNotesSo 49 = .ok (.iload_n 2, 1) := by decide +kernel
theorem dX11_areNotesSo_50 : decode cX11_areNotesSo 50 = .ok (.iadd, 1) := by decide +kernel
theorem dX11_areNotesSo_51 : decode cX11_areNotesSo 51 = .ok (.iconst 2, 1) := by decide +kernel
theorem dX11_areNotesSo_52 : decode cX11_areNotesSo 52 = .ok (.iadd, 1) := by decide +kernel
theorem dX11_areNotesSo_53 : decode cX11_areNotesSo 53 = .ok (.iaload, 1) := by decide +kernel
theorem dX11_areNotesSo_54 : decode cX11_areNotesSo 54 = .ok (.if_icmp .eq 5, 3) := by decide +kernel
theorem dX11_areNotesSo_57 : decode cX11_areNotesSo 57 = .ok (.iconst 0, 1) := by decide +kernel
theorem dX11_areNotesSo_58 : decode cX11_areNotesSo 58 = .ok (.ireturn, 1) := by decide +kernel
theorem dX11_areNotesSo_59 : decode cX11_areNotesSo 59 = .ok (.iinc 2 3, 3) := by decide +kernel
theorem dX11_areNotesSo_62 : decode cX11_areNotesSo 62 = .ok (.goto (-60), 3) := by decide +kernel
theorem dX11_areNotesSo_65 : decode cX11_areNotesSo 65 = .ok (.iconst 1, 1) := by decide +kernel
theorem dX11_areNotesSo_66 : decode cX11_areNotesSo 66 = .ok (.ireturn, 1) := by decide +kernel
set_option maxHeartbeats 4000000 in
set_option maxRecDepth 100000 in
theorem v_areNotesSo (l : Launch) (D : va_G) (K : Nat → ClassId) (ad : Nat → Nat) (z : TS) (o : Ok z) (x1 : Int32) : cI l yX11_areNotesSo cX11_areNotesSo 3 .boolean ({ frames := 1, cells := 0, slots := 0, locals := 21 }) D K ad z [.ref (ad 386), .int x1] (fun r u => u = z ∧ iv 0 1 r) := by
  refine t_enterI (by decide) (Nat.le_of_ble_eq_true rfl) rfl rfl ?_
  intro p e s m args below meth c A R Q H locs ls E hfr hlo RET G hl
  have E : mE p s m meth c cX11_areNotesSo args 3 RX11 D K A := E
  have hl : lv_has ls 3 [(0, .ref (ad 386)), (1, .int x1)] := hl
  refine lv_iconst (v := 0) E.1 E.2.1 dX11_areNotesSo_0 (by decide) ?_
  refine lv_istore_n (lv' := [(2, .int 0), (0, .ref (ad 386)), (1, .int x1)]) E.1 E.2.1 dX11_areNotesSo_1 rfl hl (by decide) rfl (fun ls hl => ?_)
  have LOOP2 : ∀ n : Nat, ∀ (y1 : Int32) (H : Heap) (locs : List Loc) (ls : Array Slot), mG D A s H locs (wd K ad z) → iv 0 32 y1 → (∃ q : Int, (0 ≤ q ∧ q ≤ 10) ∧ y1.toInt = 3 * q) → 32 < y1.toInt + (n : Int) → lv_has ls 3 [(2, .int y1), (0, .ref (ad 386)), (1, .int x1)] → W p l e R s m args below meth c H locs 0 0 Q (F0 m 2 ls []) := by
    intro n
    induction n with
    | zero =>
      intro y1 H locs ls G b6 h7 m5 hl
      exact absurd m5 (by have := b6.1; have := b6.2; omega)
    | succ n ih2 =>
      intro y1 H locs ls G b6 h7 m5 hl
      refine lv_iload_n E.1 E.2.1 dX11_areNotesSo_2 rfl (lv_at hl 0 rfl) ?_
      obtain ⟨q8, bq9, eq10⟩ := h7
      refine lv_iconst (v := 3) E.1 E.2.1 dX11_areNotesSo_3 (by decide) ?_
      refine lv_aload_n E.1 E.2.1 dX11_areNotesSo_4 rfl (lv_at hl 1 rfl) ?_
      refine t_get E G 11 20 (rfl : ro 386 = 11) (C := RX11) (T := TX11) (N := 37) rfl (by decide) (by decide) (by decide) mw_fl_11_39 (v := .ref (ad 396)) (fvl_o (n := 10) rfl) dX11_areNotesSo_5 ?_
      refine lv_bipush (v := 126) E.1 E.2.1 dX11_areNotesSo_8 (by decide) ?_
      refine t_iald E G 54 (rfl : ro 396 = 54) (by decide) (by decide) rfl (n := 127) rfl (by unfold vp_in; decide) dX11_areNotesSo_10 ?_
      refine lv_topi (fun v11 e12 => ?_)
      have b13 : iv 0 10 v11 := by rw [e12]; exact iv_mono (o.a 54 (rfl : ro 396 = 54) _) (by decide +kernel) (by decide +kernel)
      refine lv_imul E.1 E.2.1 dX11_areNotesSo_11 ?_
      refine lv_topi (fun v14 e15 => ?_)
      have b16 : iv 0 30 v14 := by rw [e15]; exact iv_mulc' b13 3 (by decide) (by decide) (by decide) (by decide) (by decide) (by decide)
      have l17 : v14.toInt = 0 + 3 * v11.toInt := (show v14.toInt = 3 * v11.toInt by rw [e15]; exact ti_cmul 3 (by decide) (by decide) b13 (by decide) (by decide)).trans (by omega)
      refine lv_icmp_ge (tgt := 65) E.1 E.2.1 dX11_areNotesSo_12 (by decide) (fun c18 => ?_) (fun c18 => ?_)
      · skip
        refine lv_iconst (v := 1) E.1 E.2.1 dX11_areNotesSo_65 (by decide) ?_
        exact RET G ⟨rfl, (iv_mono (iv_lit (lo := 1) (hi := 1) 1 (by decide) (by decide)) (by decide) (by decide))⟩ (by decide) dX11_areNotesSo_66
      · skip
        have b19 : iv 0 29 y1 := lt_l (Int32.not_le.mp c18) b6 b16 (by decide)
        have b20 : iv 1 30 v14 := lt_r (Int32.not_le.mp c18) b6 b16 (by decide)
        have bq21 : 0 ≤ q8 ∧ q8 ≤ 9 := by have := eq10; have := bq9; have := b19.2; omega
        have b22 : iv 0 27 y1 := ⟨by have := eq10; have := bq21; omega, by have := eq10; have := bq21; omega⟩
        refine lv_aload_n E.1 E.2.1 dX11_areNotesSo_15 rfl (lv_at hl 1 rfl) ?_
        refine t_get E G 11 20 (rfl : ro 386 = 11) (C := RX11) (T := TX11) (N := 37) rfl (by decide) (by decide) (by decide) mw_fl_11_39 (v := .ref (ad 396)) (fvl_o (n := 10) rfl) dX11_areNotesSo_16 ?_
        refine lv_bipush (v := 96) E.1 E.2.1 dX11_areNotesSo_19 (by decide) ?_
        refine lv_iload_n E.1 E.2.1 dX11_areNotesSo_21 rfl (lv_at hl 0 rfl) ?_
        refine lv_iadd E.1 E.2.1 dX11_areNotesSo_22 ?_
        refine lv_topi (fun v23 e24 => ?_)
        have b25 : iv 96 123 v23 := by rw [e24]; exact iv_add (iv_lit (lo := 96) (hi := 96) 96 (by decide) (by decide)) b22 (by decide) (by decide) (by decide) (by decide)
        have l26 : v23.toInt = 96 + 3 * q8 := (show v23.toInt = 96 + y1.toInt by rw [e24]; exact ti_cadd 96 (by decide) b22 (by decide) (by decide)).trans (by omega)
        refine t_iald E G 54 (rfl : ro 396 = 54) (by decide) (by decide) rfl (n := 127) rfl (iv_vp b25 (by decide) (by decide)) dX11_areNotesSo_23 ?_
        refine lv_topi (fun v27 e28 => ?_)
        refine lv_iload_n E.1 E.2.1 dX11_areNotesSo_24 rfl (lv_at hl 2 rfl) ?_
        refine lv_icmp_ne (tgt := 59) E.1 E.2.1 dX11_areNotesSo_25 (by decide) (fun c29 => ?_) (fun c29 => ?_)
        · skip
          obtain ⟨v30, e31⟩ : ∃ w : Int32, w = y1 + (3 : Int32) := ⟨_, rfl⟩
          refine lv_iinc (v := v30) (lv' := [(2, .int v30), (0, .ref (ad 386)), (1, .int x1)]) E.1 E.2.1 dX11_areNotesSo_59 hl (k := 0) rfl (by rw [e31]; rfl) (by decide) rfl (fun ls hl => ?_)
          have b32 : iv 3 30 v30 := by rw [e31]; exact iv_add b22 (iv_lit (lo := 3) (hi := 3) 3 (by decide) (by decide)) (by decide) (by decide) (by decide) (by decide)
          have t33 : v30.toInt = y1.toInt + 3 := by rw [e31]; exact ti_addc 3 (by decide) b22 (by decide) (by decide)
          refine lv_goto (tgt := 2) E.1 E.2.1 dX11_areNotesSo_62 (by decide) ?_
          exact ih2 v30 H locs ls G (iv_mono b32 (by decide) (by decide)) ⟨q8 + 1, by have := eq10; have := bq9; have := b22.2; omega, by have := t33; omega⟩ (by have := t33; have := m5; omega) (lv_sub hl [0, 1, 2] rfl)
        · skip
          refine lv_aload_n E.1 E.2.1 dX11_areNotesSo_28 rfl (lv_at hl 1 rfl) ?_
          refine lv_aload_n E.1 E.2.1 dX11_areNotesSo_29 rfl (lv_at hl 1 rfl) ?_
          refine t_get E G 11 20 (rfl : ro 386 = 11) (C := RX11) (T := TX11) (N := 37) rfl (by decide) (by decide) (by decide) mw_fl_11_39 (v := .ref (ad 396)) (fvl_o (n := 10) rfl) dX11_areNotesSo_30 ?_
          refine lv_bipush (v := 96) E.1 E.2.1 dX11_areNotesSo_33 (by decide) ?_
          refine lv_iload_n E.1 E.2.1 dX11_areNotesSo_35 rfl (lv_at hl 0 rfl) ?_
          refine lv_iadd E.1 E.2.1 dX11_areNotesSo_36 ?_
          refine lv_topi (fun v34 e35 => ?_)
          have b36 : iv 96 123 v34 := by rw [e35]; exact iv_add (iv_lit (lo := 96) (hi := 96) 96 (by decide) (by decide)) b22 (by decide) (by decide) (by decide) (by decide)
          have l37 : v34.toInt = 96 + 3 * q8 := (show v34.toInt = 96 + y1.toInt by rw [e35]; exact ti_cadd 96 (by decide) b22 (by decide) (by decide)).trans (by omega)
          refine lv_iconst (v := 1) E.1 E.2.1 dX11_areNotesSo_37 (by decide) ?_
          refine lv_iadd E.1 E.2.1 dX11_areNotesSo_38 ?_
          refine lv_topi (fun v38 e39 => ?_)
          have b40 : iv 97 124 v38 := by rw [e39]; exact iv_add b36 (iv_lit (lo := 1) (hi := 1) 1 (by decide) (by decide)) (by decide) (by decide) (by decide) (by decide)
          have l41 : v38.toInt = 97 + 3 * q8 := (show v38.toInt = v34.toInt + 1 by rw [e39]; exact ti_addc 1 (by decide) b36 (by decide) (by decide)).trans (by omega)
          refine t_iald E G 54 (rfl : ro 396 = 54) (by decide) (by decide) rfl (n := 127) rfl (iv_vp b40 (by decide) (by decide)) dX11_areNotesSo_39 ?_
          refine lv_topi (fun v42 e43 => ?_)
          have b44 : iv 0 4 v42 := by rw [e43]; exact rd1 o 54 (rfl : ro 396 = 54) 97 3 0 9 bq21 (l41.trans (by omega)) (by decide +kernel)
          refine t_vi E G hl (v_cornerOf l D K ad z o v42 (iv_mono b44 (by decide) (by decide))) 11 (rfl : ro 386 = 11) (by decide) rfl rfl 1 rfl mw_code_X11_cornerOf mw_ini_11 mw_ml_11_291 mw_inst_X11_cornerOf mw_sel_X11_cornerOf hd_X11_cornerOf ⟨Nat.le_trans (by decide) hfr, Nat.le_trans (by decide) hlo⟩ rfl rfl rfl (Nat.le_of_ble_eq_true rfl) dX11_areNotesSo_40 (fun r46 zz45 H locs hp47 G => ?_)
          obtain ⟨hz49, b48⟩ := hp47
          rw [hz49] at G
          refine lv_aload_n E.1 E.2.1 dX11_areNotesSo_43 rfl (lv_at hl 1 rfl) ?_
          refine t_get E G 11 20 (rfl : ro 386 = 11) (C := RX11) (T := TX11) (N := 37) rfl (by decide) (by decide) (by decide) mw_fl_11_39 (v := .ref (ad 396)) (fvl_o (n := 10) rfl) dX11_areNotesSo_44 ?_
          refine lv_bipush (v := 96) E.1 E.2.1 dX11_areNotesSo_47 (by decide) ?_
          refine lv_iload_n E.1 E.2.1 dX11_areNotesSo_49 rfl (lv_at hl 0 rfl) ?_
          refine lv_iadd E.1 E.2.1 dX11_areNotesSo_50 ?_
          refine lv_topi (fun v50 e51 => ?_)
          have b52 : iv 96 123 v50 := by rw [e51]; exact iv_add (iv_lit (lo := 96) (hi := 96) 96 (by decide) (by decide)) b22 (by decide) (by decide) (by decide) (by decide)
          have l53 : v50.toInt = 96 + 3 * q8 := (show v50.toInt = 96 + y1.toInt by rw [e51]; exact ti_cadd 96 (by decide) b22 (by decide) (by decide)).trans (by omega)
          refine lv_iconst (v := 2) E.1 E.2.1 dX11_areNotesSo_51 (by decide) ?_
          refine lv_iadd E.1 E.2.1 dX11_areNotesSo_52 ?_
          refine lv_topi (fun v54 e55 => ?_)
          have b56 : iv 98 125 v54 := by rw [e55]; exact iv_add b52 (iv_lit (lo := 2) (hi := 2) 2 (by decide) (by decide)) (by decide) (by decide) (by decide) (by decide)
          have l57 : v54.toInt = 98 + 3 * q8 := (show v54.toInt = v50.toInt + 2 by rw [e55]; exact ti_addc 2 (by decide) b52 (by decide) (by decide)).trans (by omega)
          refine t_iald E G 54 (rfl : ro 396 = 54) (by decide) (by decide) rfl (n := 127) rfl (iv_vp b56 (by decide) (by decide)) dX11_areNotesSo_53 ?_
          refine lv_topi (fun v58 e59 => ?_)
          refine lv_icmp_eq (tgt := 59) E.1 E.2.1 dX11_areNotesSo_54 (by decide) (fun c60 => ?_) (fun c60 => ?_)
          · skip
            obtain ⟨v61, e62⟩ : ∃ w : Int32, w = y1 + (3 : Int32) := ⟨_, rfl⟩
            refine lv_iinc (v := v61) (lv' := [(2, .int v61), (0, .ref (ad 386)), (1, .int x1)]) E.1 E.2.1 dX11_areNotesSo_59 hl (k := 0) rfl (by rw [e62]; rfl) (by decide) rfl (fun ls hl => ?_)
            have b63 : iv 3 30 v61 := by rw [e62]; exact iv_add b22 (iv_lit (lo := 3) (hi := 3) 3 (by decide) (by decide)) (by decide) (by decide) (by decide) (by decide)
            have t64 : v61.toInt = y1.toInt + 3 := by rw [e62]; exact ti_addc 3 (by decide) b22 (by decide) (by decide)
            refine lv_goto (tgt := 2) E.1 E.2.1 dX11_areNotesSo_62 (by decide) ?_
            exact ih2 v61 H locs ls G (iv_mono b63 (by decide) (by decide)) ⟨q8 + 1, by have := eq10; have := bq9; have := b22.2; omega, by have := t64; omega⟩ (by have := t64; have := m5; omega) (lv_sub hl [0, 1, 2] rfl)
          · skip
            refine lv_iconst (v := 0) E.1 E.2.1 dX11_areNotesSo_57 (by decide) ?_
            exact RET G ⟨rfl, (iv_mono (iv_lit (lo := 0) (hi := 0) 0 (by decide) (by decide)) (by decide) (by decide))⟩ (by decide) dX11_areNotesSo_58
  exact LOOP2 33 0 H locs ls G (iv_mono (iv_lit (lo := 0) (hi := 0) 0 (by decide) (by decide)) (by decide) (by decide)) ⟨0, by omega, by decide⟩ (by have := (iv_lit (lo := 0) (hi := 0) 0 (by decide) (by decide)).1; omega) (lv_sub hl [0, 1, 2] rfl)
