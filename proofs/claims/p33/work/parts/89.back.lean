theorem dX11_back_12 : decode cX11_back 12 = .ok (.aload_n 0, 1) := by decide +kernel
theorem dX11_back_13 : decode cX11_back 13 = .ok (.getfield 80, 3) := by decide +kernel
theorem dX11_back_16 : decode cX11_back 16 = .ok (.iload_n 1, 1) := by decide +kernel
theorem dX11_back_17 : decode cX11_back 17 = .ok (.baload, 1) := by decide +kernel
theorem dX11_back_18 : decode cX11_back 18 = .ok (.ifCond .ne 5, 3) := by decide +kernel
theorem dX11_back_23 : decode cX11_back 23 = .ok (.aload_n 0, 1) := by decide +kernel
theorem dX11_back_24 : decode cX11_back 24 = .ok (.aload_n 0, 1) := by decide +kernel
theorem dX11_back_25 : decode cX11_back 25 = .ok (.getfield 74, 3) := by decide +kernel
theorem dX11_back_28 : decode cX11_back 28 = .ok (.iload_n 1, 1) := by decide +kernel
theorem dX11_back_29 : decode cX11_back 29 = .ok (.iaload, 1) := by decide +kernel
theorem dX11_back_30 : decode cX11_back 30 = .ok (.putfield 42, 3) := by decide +kernel
theorem dX11_back_33 : decode cX11_back 33 = .ok (.aload_n 0, 1) := by decide +kernel
theorem dX11_back_34 : decode cX11_back 34 = .ok (.aload_n 0, 1) := by decide +kernel
theorem dX11_back_35 : decode cX11_back 35 = .ok (.getfield 77, 3) := by decide +kernel
theorem dX11_back_38 : decode cX11_back 38 = .ok (.iload_n 1, 1) := by decide +kernel
theorem dX11_back_39 : decode cX11_back 39 = .ok (.iaload, 1) := by decide +kernel
theorem dX11_back_40 : decode cX11_back 40 = .ok (.putfield 446, 3) := by decide +kernel
theorem dX11_back_43 : decode cX11_back 43 = .ok (.aload_n 0, 1) := by decide +kernel
theorem dX11_back_44 : decode cX11_back 44 = .ok (.iconst 0, 1) := by decide +kernel
theorem dX11_back_45 : decode cX11_back 45 = .ok (.putfield 267, 3) := by decide +kernel
theorem dX11_back_48 : decode cX11_back 48 = .ok (.iconst 0, 1) := by decide +kernel
theorem dX11_back_49 : decode cX11_back 49 = .ok (.istore_n 2, 1) := by decide +kernel
theorem dX11_back_50 : decode cX11_back 50 = .ok (.iload_n 2, 1) := by decide +kernel
theorem dX11_back_51 : decode cX11_back 51 = .ok (.bipush 127, 2) := by decide +kernel
theorem dX11_back_53 : decode cX11_back 53 = .ok (.if_icmp .ge 26, 3) := by decide +kernel
theorem dX11_back_56 : decode cX11_back 56 = .ok (.aload_n 0, 1) := by decide +kernel
theorem dX11_back_57 : decode cX11_back 57 = .ok (.getfield 39, 3) := by decide +kernel
theorem dX11_back_60 : decode cX11_back 60 = .ok (.iload_n 2, 1) := by decide +kernel
theorem dX11_back_61 : decode cX11_back 61 = .ok (.aload_n 0, 1) := by decide +kernel
theorem dX11_back_62 : decode cX11_back 62 = .ok (.getfield 71, 3) := by decide +kernel
theorem dX11_back_65 : decode cX11_back 65 = .ok (.bipush 127, 2) := by decide +kernel
theorem dX11_back_67 : decode cX11_back 67 = .ok (.iload_n 1, 1) := by decide +kernel
theorem dX11_back_68 : decode cX11_back 68 = .ok (.imul, 1) := by decide +kernel
theorem dX11_back_69 : decode cX11_back 69 = .ok (.iload_n 2, 1) := by decide +kernel
theorem dX11_back_70 : decode cX11_back 70 = .ok (.iadd, 1) := by decide +kernel
theorem dX11_back_71 : decode cX11_back 71 = .ok (.iaload, 1) := by decide +kernel
theorem dX11_back_72 : decode cX11_back 72 = .ok (.iastore, 1) := by decide +kernel
theorem dX11_back_73 : decode cX11_back 73 = .ok (.iinc 2 1, 3) := by decide +kernel
theorem dX11_back_76 : decode cX11_back 76 = .ok (.goto (-26), 3) := by decide +kernel
theorem dX11_back_79 : decode cX11_back 79 = .ok (.aload_n 0, 1) := by decide +kernel
theorem dX11_back_80 : decode cX11_back 80 = .ok (.getfield 39, 3) := by decide +kernel
theorem dX11_back_83 : decode cX11_back 83 = .ok (.bipush 10, 2) := by decide +kernel
theorem dX11_back_85 : decode cX11_back 85 = .ok (.iaload, 1) := by decide +kernel
theorem dX11_back_86 : decode cX11_back 86 = .ok (.ireturn, 1) := by decide +kernel
set_option maxHeartbeats 4000000 in
set_option maxRecDepth 100000 in
theorem v_back (l : Launch) (D : va_G) (K : Nat → ClassId) (ad : Nat → Nat) (z : TS) (o : Ok z) (x1 : Int32) (bx1 : iv 0 3 x1) (hb : ¬ tA z 408 x1.toNatClampNeg = 0) : cI l yX11_back cX11_back 3 .int ({ frames := 1, cells := 0, slots := 0, locals := 25 }) D K ad z [.ref (ad 386), .int x1] (fun r u => Ok u ∧ KB z u ∧ (tI u 386 22 = tA z 407 x1.toNatClampNeg)) := by
  refine t_enterI (by decide) (Nat.le_of_ble_eq_true rfl) rfl rfl ?_
  intro p e s m args below meth c A R Q H locs ls E hfr hlo RET G hl
  have E : mE p s m meth c cX11_back args 3 RX11 D K A := E
  have hl : lv_has ls 3 [(0, .ref (ad 386)), (1, .int x1)] := hl
  refine lv_iload_n E.1 E.2.1 dX11_back_0 rfl (lv_at hl 1 rfl) ?_
  refine lv_i2l E.1 E.2.1 dX11_back_1 rfl ?_
  refine lv_topl (fun v1 e2 => ?_)
  refine lv_lconst (v := 0) E.1 E.2.1 dX11_back_2 (by decide) ?_
  refine lv_ldc2 (v := 3) E.1 E.2.1 E.2.2.2.1 (E.2.2.2.2.1 _ mw_cL_11_469) dX11_back_3 ?_
  refine t_si E G hl (v_in_t l D K ad z o v1 0 3 (in_t e2 bx1 (by decide) (by decide))) 3 rfl mw_code_X11_in mw_ini_11 mw_ml_11_121 mw_stat_X11_in hd_X11_in ⟨Nat.le_trans (by decide) hfr, Nat.le_trans (by decide) hlo⟩ rfl rfl rfl (Nat.le_of_ble_eq_true rfl) dX11_back_6 (fun r4 zz3 H locs hp5 G => ?_)
  obtain ⟨hz7, b6⟩ := hp5
  rw [hz7] at G
  refine lv_if_eq (tgt := 21) E.1 E.2.1 dX11_back_9 (by decide) (fun h => absurd h (ivne2 b6 (iv_lit (lo := 0) (hi := 0) 0 (by decide) (by decide)) (by decide))) (fun _ => ?_)
  refine lv_aload_n E.1 E.2.1 dX11_back_12 rfl (lv_at hl 0 rfl) ?_
  refine t_get E G 11 36 (rfl : ro 386 = 11) (C := RX11) (T := TX11) (N := 37) rfl (by decide) (by decide) (by decide) mw_fl_11_80 (v := .ref (ad 408)) (fvl_o (n := 22) rfl) dX11_back_13 ?_
  refine lv_iload_n E.1 E.2.1 dX11_back_16 rfl (lv_at hl 1 rfl) ?_
  refine t_zald E G 66 (rfl : ro 408 = 66) (by decide) (by decide) rfl (n := 4) rfl (iv_vp bx1 (by decide) (by decide)) dX11_back_17 ?_
  refine lv_topi (fun v8 e9 => ?_)
  have b10 : iv 0 1 v8 := by rw [e9]; exact iv_mono (rd_u o 66 (rfl : ro 408 = 66) (by decide) _) (by decide) (by decide)
  refine lv_if_ne (tgt := 23) E.1 E.2.1 dX11_back_18 (by decide) (fun _ => ?_) (fun h => absurd h (fun q => hb (by rw [← e9]; exact q)))
  refine lv_aload_n E.1 E.2.1 dX11_back_23 rfl (lv_at hl 0 rfl) ?_
  refine lv_aload_n E.1 E.2.1 dX11_back_24 rfl (lv_at hl 0 rfl) ?_
  refine t_get E G 11 34 (rfl : ro 386 = 11) (C := RX11) (T := TX11) (N := 37) rfl (by decide) (by decide) (by decide) mw_fl_11_74 (v := .ref (ad 406)) (fvl_o (n := 20) rfl) dX11_back_25 ?_
  refine lv_iload_n E.1 E.2.1 dX11_back_28 rfl (lv_at hl 1 rfl) ?_
  refine t_iald E G 64 (rfl : ro 406 = 64) (by decide) (by decide) rfl (n := 4) rfl (iv_vp bx1 (by decide) (by decide)) dX11_back_29 ?_
  refine lv_topi (fun v11 e12 => ?_)
  have b13 : iv (-1) 5 v11 := by rw [e12]; exact iv_mono (rd_u o 64 (rfl : ro 406 = 64) (by decide) _) (by decide) (by decide)
  refine t_puti E G 11 21 (rfl : ro 386 = 11) (C := RX11) (T := TX11) (N := 37) rfl (by decide) (by decide) (by decide) rfl rfl mw_fl_11_42 rfl dX11_back_30 (fun H locs G => ?_)
  obtain ⟨zz14, G, oo15, kk16, h17⟩ : ∃ u : TS, mG D A s H locs (wd K ad u) ∧ Ok u ∧ KB z u ∧ tI u 386 21 = v11 := ⟨_, G, ok_i o 11 (rfl : ro 386 = 11) (iv_mono b13 (by decide) (by decide)) (by decide), KF.tr KF.rf (KF_i 11 (rfl : ro 386 = 11) (by decide)), sI_self⟩
  refine lv_aload_n E.1 E.2.1 dX11_back_33 rfl (lv_at hl 0 rfl) ?_
  refine lv_aload_n E.1 E.2.1 dX11_back_34 rfl (lv_at hl 0 rfl) ?_
  refine t_get E G 11 35 (rfl : ro 386 = 11) (C := RX11) (T := TX11) (N := 37) rfl (by decide) (by decide) (by decide) mw_fl_11_77 (v := .ref (ad 407)) (fvl_o (n := 21) rfl) dX11_back_35 ?_
  refine lv_iload_n E.1 E.2.1 dX11_back_38 rfl (lv_at hl 1 rfl) ?_
  refine t_iald E G 65 (rfl : ro 407 = 65) (by decide) (by decide) rfl (n := 4) rfl (iv_vp bx1 (by decide) (by decide)) dX11_back_39 ?_
  refine lv_topi (fun v18 e19 => ?_)
  have b20 : iv 0 2147483647 v18 := by rw [e19]; exact iv_mono (rd_u oo15 65 (rfl : ro 407 = 65) (by decide) _) (by decide) (by decide)
  refine t_puti E G 11 22 (rfl : ro 386 = 11) (C := RX11) (T := TX11) (N := 37) rfl (by decide) (by decide) (by decide) rfl rfl mw_fl_11_446 rfl dX11_back_40 (fun H locs G => ?_)
  obtain ⟨zz21, G, oo22, kk23, h24, h25⟩ : ∃ u : TS, mG D A s H locs (wd K ad u) ∧ Ok u ∧ KB z u ∧ tI u 386 21 = v11 ∧ tI u 386 22 = v18 := ⟨_, G, ok_i oo15 11 (rfl : ro 386 = 11) (iv_mono b20 (by decide) (by decide)) (by decide), KF.tr kk16 (KF_i 11 (rfl : ro 386 = 11) (by decide)), (sI_k h17 (by decide)), sI_self⟩
  refine lv_aload_n E.1 E.2.1 dX11_back_43 rfl (lv_at hl 0 rfl) ?_
  refine lv_iconst (v := 0) E.1 E.2.1 dX11_back_44 (by decide) ?_
  refine t_puti E G 11 26 (rfl : ro 386 = 11) (C := RX11) (T := TX11) (N := 37) rfl (by decide) (by decide) (by decide) rfl rfl mw_fl_11_267 rfl dX11_back_45 (fun H locs G => ?_)
  obtain ⟨zz26, G, oo27, kk28, h29, h30, h31⟩ : ∃ u : TS, mG D A s H locs (wd K ad u) ∧ Ok u ∧ KB z u ∧ tI u 386 21 = v11 ∧ tI u 386 22 = v18 ∧ tI u 386 26 = 0 := ⟨_, G, ok_i oo22 11 (rfl : ro 386 = 11) (iv_mono (iv_lit (lo := 0) (hi := 0) 0 (by decide) (by decide)) (by decide) (by decide)) (by decide), KF.tr kk23 (KF_i 11 (rfl : ro 386 = 11) (by decide)), (sI_k h24 (by decide)), (sI_k h25 (by decide)), sI_self⟩
  refine lv_iconst (v := 0) E.1 E.2.1 dX11_back_48 (by decide) ?_
  refine lv_istore_n (lv' := [(2, .int 0), (0, .ref (ad 386)), (1, .int x1)]) E.1 E.2.1 dX11_back_49 rfl hl (by decide) rfl (fun ls hl => ?_)
  have LOOP50 : ∀ n : Nat, ∀ (zz33 : TS) (y32 : Int32) (H : Heap) (locs : List Loc) (ls : Array Slot), mG D A s H locs (wd K ad zz33) → Ok zz33 → KB z zz33 → iv 0 127 y32 → tI zz33 386 22 = tA z 407 x1.toNatClampNeg → 127 < y32.toInt + (n : Int) → lv_has ls 3 [(2, .int y32), (0, .ref (ad 386)), (1, .int x1)] → W p l e R s m args below meth c H locs 0 0 Q (F0 m 50 ls []) := by
    intro n
    induction n with
    | zero =>
      intro zz33 y32 H locs ls G oo34 kk35 b37 h38 m36 hl
      exact absurd m36 (by have := b37.1; have := b37.2; omega)
    | succ n ih50 =>
      intro zz33 y32 H locs ls G oo34 kk35 b37 h38 m36 hl
      refine lv_iload_n E.1 E.2.1 dX11_back_50 rfl (lv_at hl 0 rfl) ?_
      refine lv_bipush (v := 127) E.1 E.2.1 dX11_back_51 (by decide) ?_
      refine lv_icmp_ge (tgt := 79) E.1 E.2.1 dX11_back_53 (by decide) (fun c39 => ?_) (fun c39 => ?_)
      · skip
        have b40 : iv 127 127 y32 := le_r c39 (iv_lit (lo := 127) (hi := 127) 127 (by decide) (by decide)) b37 (by decide)
        refine lv_aload_n E.1 E.2.1 dX11_back_79 rfl (lv_at hl 1 rfl) ?_
        refine t_get E G 11 20 (rfl : ro 386 = 11) (C := RX11) (T := TX11) (N := 37) rfl (by decide) (by decide) (by decide) mw_fl_11_39 (v := .ref (ad 396)) (fvl_o (n := 10) rfl) dX11_back_80 ?_
        refine lv_bipush (v := 10) E.1 E.2.1 dX11_back_83 (by decide) ?_
        refine t_iald E G 54 (rfl : ro 396 = 54) (by decide) (by decide) rfl (n := 127) rfl (by unfold vp_in; decide) dX11_back_85 ?_
        refine lv_topi (fun v41 e42 => ?_)
        exact RET G ⟨oo34, kk35, h38⟩ rfl dX11_back_86
      · skip
        have b43 : iv 0 126 y32 := lt_l (Int32.not_le.mp c39) b37 (iv_lit (lo := 127) (hi := 127) 127 (by decide) (by decide)) (by decide)
        refine lv_aload_n E.1 E.2.1 dX11_back_56 rfl (lv_at hl 1 rfl) ?_
        refine t_get E G 11 20 (rfl : ro 386 = 11) (C := RX11) (T := TX11) (N := 37) rfl (by decide) (by decide) (by decide) mw_fl_11_39 (v := .ref (ad 396)) (fvl_o (n := 10) rfl) dX11_back_57 ?_
        refine lv_iload_n E.1 E.2.1 dX11_back_60 rfl (lv_at hl 0 rfl) ?_
        refine lv_aload_n E.1 E.2.1 dX11_back_61 rfl (lv_at hl 1 rfl) ?_
        refine t_get E G 11 33 (rfl : ro 386 = 11) (C := RX11) (T := TX11) (N := 37) rfl (by decide) (by decide) (by decide) mw_fl_11_71 (v := .ref (ad 405)) (fvl_o (n := 19) rfl) dX11_back_62 ?_
        refine lv_bipush (v := 127) E.1 E.2.1 dX11_back_65 (by decide) ?_
        refine lv_iload_n E.1 E.2.1 dX11_back_67 rfl (lv_at hl 2 rfl) ?_
        refine lv_imul E.1 E.2.1 dX11_back_68 ?_
        refine lv_topi (fun v44 e45 => ?_)
        have b46 : iv 0 381 v44 := by rw [e45]; exact iv_mulc' bx1 127 (by decide) (by decide) (by decide) (by decide) (by decide) (by decide)
        have l47 : v44.toInt = 0 + 127 * x1.toInt := (show v44.toInt = 127 * x1.toInt by rw [e45]; exact ti_cmul 127 (by decide) (by decide) bx1 (by decide) (by decide)).trans (by omega)
        refine lv_iload_n E.1 E.2.1 dX11_back_69 rfl (lv_at hl 0 rfl) ?_
        refine lv_iadd E.1 E.2.1 dX11_back_70 ?_
        refine lv_topi (fun v48 e49 => ?_)
        have b50 : iv 0 507 v48 := by rw [e49]; exact iv_add b46 b43 (by decide) (by decide) (by decide) (by decide)
        have l51 : v48.toInt = 0 + 127 * x1.toInt + 1 * y32.toInt := (show v48.toInt = v44.toInt + y32.toInt by rw [e49]; exact ti_addv b46 b43 (by decide) (by decide)).trans (by omega)
        refine t_iald E G 63 (rfl : ro 405 = 63) (by decide) (by decide) rfl (n := 508) rfl (iv_vp b50 (by decide) (by decide)) dX11_back_71 ?_
        refine lv_topi (fun v52 e53 => ?_)
        refine t_iast E G 54 (rfl : ro 396 = 54) (by decide) (by decide) rfl (n := 127) rfl (iv_vp b43 (by decide) (by decide)) dX11_back_72 (fun H locs G => ?_)
        obtain ⟨zz54, G, oo55, kk56, h57⟩ : ∃ u : TS, mG D A s H locs (wd K ad u) ∧ Ok u ∧ KB z u ∧ tI u 386 22 = (tI zz33 386 22) := ⟨_, G, ok_u oo34 54 (rfl : ro 396 = 54) (cp2 0 1 0 0 1 127 0 126 0 3 (show iv (alo 63 (v48 : Int32).toNatClampNeg) (ahi 63 (v48 : Int32).toNatClampNeg) v52 by rw [e53]; exact oo34.a 63 (rfl : ro 405 = 63) _) b43 bx1 (by omega) (l51.trans (by omega)) (by decide +kernel)) (by decide), KF.tr kk35 (KF_r 54 (rfl : ro 396 = 54) (by decide)), rfl⟩
        obtain ⟨v58, e59⟩ : ∃ w : Int32, w = y32 + (1 : Int32) := ⟨_, rfl⟩
        refine lv_iinc (v := v58) (lv' := [(2, .int v58), (0, .ref (ad 386)), (1, .int x1)]) E.1 E.2.1 dX11_back_73 hl (k := 0) rfl (by rw [e59]; rfl) (by decide) rfl (fun ls hl => ?_)
        have b60 : iv 1 127 v58 := by rw [e59]; exact iv_add b43 (iv_lit (lo := 1) (hi := 1) 1 (by decide) (by decide)) (by decide) (by decide) (by decide) (by decide)
        have t61 : v58.toInt = y32.toInt + 1 := by rw [e59]; exact ti_addc 1 (by decide) b43 (by decide) (by decide)
        refine lv_goto (tgt := 50) E.1 E.2.1 dX11_back_76 (by decide) ?_
        exact ih50 zz54 v58 H locs ls G oo55 kk56 (iv_mono b60 (by decide) (by decide)) (h57.trans h38) (by have := t61; have := m36; omega) (lv_sub hl [0, 1, 2] rfl)
  exact LOOP50 128 zz26 0 H locs ls G oo27 kk28 (iv_mono (iv_lit (lo := 0) (hi := 0) 0 (by decide) (by decide)) (by decide) (by decide)) (by rw [h30, e19, (kk16.2.1 407 rfl).1]) (by have := (iv_lit (lo := 0) (hi := 0) 0 (by decide) (by decide)).1; omega) (lv_sub hl [0, 1, 2] rfl)
set_option maxHeartbeats 4000000 in
set_option maxRecDepth 100000 in
theorem v_back_no (l : Launch) (D : va_G) (K : Nat → ClassId) (ad : Nat → Nat) (z : TS) (o : Ok z) (x1 : Int32) (bx1 : iv 0 3 x1) (hb : tA z 408 x1.toNatClampNeg = 0) : cI l yX11_back cX11_back 3 .int ({ frames := 1, cells := 0, slots := 0, locals := 25 }) D K ad z [.ref (ad 386), .int x1] (fun r u => u = z) := by
  refine t_enterI (by decide) (Nat.le_of_ble_eq_true rfl) rfl rfl ?_
  intro p e s m args below meth c A R Q H locs ls E hfr hlo RET G hl
  have E : mE p s m meth c cX11_back args 3 RX11 D K A := E
  have hl : lv_has ls 3 [(0, .ref (ad 386)), (1, .int x1)] := hl
  refine lv_iload_n E.1 E.2.1 dX11_back_0 rfl (lv_at hl 1 rfl) ?_
  refine lv_i2l E.1 E.2.1 dX11_back_1 rfl ?_
  refine lv_topl (fun v1 e2 => ?_)
  refine lv_lconst (v := 0) E.1 E.2.1 dX11_back_2 (by decide) ?_
  refine lv_ldc2 (v := 3) E.1 E.2.1 E.2.2.2.1 (E.2.2.2.2.1 _ mw_cL_11_469) dX11_back_3 ?_
  refine t_si E G hl (v_in_t l D K ad z o v1 0 3 (in_t e2 bx1 (by decide) (by decide))) 3 rfl mw_code_X11_in mw_ini_11 mw_ml_11_121 mw_stat_X11_in hd_X11_in ⟨Nat.le_trans (by decide) hfr, Nat.le_trans (by decide) hlo⟩ rfl rfl rfl (Nat.le_of_ble_eq_true rfl) dX11_back_6 (fun r4 zz3 H locs hp5 G => ?_)
  obtain ⟨hz7, b6⟩ := hp5
  rw [hz7] at G
  refine lv_if_eq (tgt := 21) E.1 E.2.1 dX11_back_9 (by decide) (fun h => absurd h (ivne2 b6 (iv_lit (lo := 0) (hi := 0) 0 (by decide) (by decide)) (by decide))) (fun _ => ?_)
  refine lv_aload_n E.1 E.2.1 dX11_back_12 rfl (lv_at hl 0 rfl) ?_
  refine t_get E G 11 36 (rfl : ro 386 = 11) (C := RX11) (T := TX11) (N := 37) rfl (by decide) (by decide) (by decide) mw_fl_11_80 (v := .ref (ad 408)) (fvl_o (n := 22) rfl) dX11_back_13 ?_
  refine lv_iload_n E.1 E.2.1 dX11_back_16 rfl (lv_at hl 1 rfl) ?_
  refine t_zald E G 66 (rfl : ro 408 = 66) (by decide) (by decide) rfl (n := 4) rfl (iv_vp bx1 (by decide) (by decide)) dX11_back_17 ?_
  refine lv_topi (fun v8 e9 => ?_)
  have b10 : iv 0 1 v8 := by rw [e9]; exact iv_mono (rd_u o 66 (rfl : ro 408 = 66) (by decide) _) (by decide) (by decide)
  refine lv_if_ne (tgt := 23) E.1 E.2.1 dX11_back_18 (by decide) (fun h => absurd (by rw [e9]; exact hb) h) (fun _ => ?_)
  refine lv_iconst (v := (-1)) E.1 E.2.1 dX11_back_21 (by decide) ?_
  exact RET G rfl rfl dX11_back_22
