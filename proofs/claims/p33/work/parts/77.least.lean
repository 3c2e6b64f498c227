theorem dX11_leastOf_0 : decode cX11_leastOf 0 = .ok (.iconst 0, 1) := by decide +kernel
theorem dX11_leastOf_1 : decode cX11_leastOf 1 = .ok (.istore_n 1, 1) := by decide +kernel
theorem dX11_leastOf_2 : decode cX11_leastOf 2 = .ok (.iload_n 0, 1) := by decide +kernel
theorem dX11_leastOf_3 : decode cX11_leastOf 3 = .ok (.iload_n 1, 1) := by decide +kernel
theorem dX11_leastOf_4 : decode cX11_leastOf 4 = .ok (.invokestatic 297, 3) := by decide +kernel
theorem dX11_leastOf_7 : decode cX11_leastOf 7 = .ok (.ifCond .ne 9, 3) := by decide +kernel
theorem dX11_leastOf_10 : decode cX11_leastOf 10 = .ok (.iinc 1 1, 3) := by decide +kernel
theorem dX11_leastOf_13 : decode cX11_leastOf 13 = .ok (.goto (-11), 3) := by decide +kernel
theorem dX11_leastOf_16 : decode cX11_leastOf 16 = .ok (.iload_n 1, 1) := by decide +kernel
theorem dX11_leastOf_17 : decode cX11_leastOf 17 = .ok (.ireturn, 1) := by decide +kernel
theorem smod_n : ∀ n, n < 32 → (Int32.ofNat n &&& 31).toBitVec.smod 32 = BitVec.ofNat 32 n := by decide +kernel
theorem bit_ex {x : Int32} (h : ¬ x = 0) : ∃ k : Int32, iv 0 31 k ∧ ((x >>> (k &&& 31)) &&& 1) = 1 := by
  by_cases hex : ∃ n : Nat, n < 32 ∧ x.toBitVec.getLsbD n = true
  · obtain ⟨n, hn, hb⟩ := hex
    refine ⟨Int32.ofNat n, ?_, ?_⟩
    · have : (Int32.ofNat n).toInt = n := Int32.toInt_ofNat_of_lt (by omega)
      exact ⟨by omega, by omega⟩
    · have hs : (x >>> (Int32.ofNat n &&& 31)).toBitVec = x.toBitVec.sshiftRight n := by
        rw [Int32.toBitVec_shiftRight, smod_n n hn, BitVec.sshiftRight', BitVec.toNat_ofNat, Nat.mod_eq_of_lt (by omega)]
      apply Int32.toBitVec_inj.mp
      rw [Int32.toBitVec_and, hs]
      show x.toBitVec.sshiftRight n &&& 1#32 = 1#32
      ext i hi
      rw [BitVec.getElem_and, BitVec.getElem_one]
      by_cases q : i = 0
      · subst q
        rw [← BitVec.getLsbD_eq_getElem, BitVec.getLsbD_sshiftRight]
        simp [hn, hb]
      · simp [q]
  · exfalso
    refine h (Int32.toBitVec_inj.mp ?_)
    ext i hi
    have : ¬ x.toBitVec.getLsbD i = true := fun q => hex ⟨i, hi, q⟩
    rw [← BitVec.getLsbD_eq_getElem]
    simp only [Bool.not_eq_true] at this
    rw [this]
    simp
set_option maxHeartbeats 4000000 in
set_option maxRecDepth 100000 in
theorem v_isOf0 (l : Launch) (D : va_G) (K : Nat → ClassId) (ad : Nat → Nat) (z : TS) (o : Ok z) (x1 : Int32) (x2 : Int32) : cI l yX11_isOf cX11_isOf 2 .boolean ({ frames := 0, cells := 0, slots := 0, locals := 0 }) D K ad z [.int x1, .int x2] (fun r u => u = z ∧ iv 0 1 r ∧ (r = 0 → ¬ ((x1 >>> (x2 &&& 31)) &&& 1) = 1)) := by
  refine t_enterI (by decide) (Nat.le_of_ble_eq_true rfl) rfl rfl ?_
  intro p e s m args below meth c A R Q H locs ls E hfr hlo RET G hl
  have E : mE p s m meth c cX11_isOf args 2 RX11 D K A := E
  have hl : lv_has ls 2 [(0, .int x1), (1, .int x2)] := hl
  refine lv_iload_n E.1 E.2.1 dX11_isOf_0 rfl (lv_at hl 0 rfl) ?_
  refine lv_iload_n E.1 E.2.1 dX11_isOf_1 rfl (lv_at hl 1 rfl) ?_
  refine lv_ishr E.1 E.2.1 dX11_isOf_2 ?_
  refine lv_topi (fun v1 e2 => ?_)
  refine lv_iconst (v := 1) E.1 E.2.1 dX11_isOf_3 (by decide) ?_
  refine lv_iand E.1 E.2.1 dX11_isOf_4 ?_
  refine lv_topi (fun v3 e4 => ?_)
  have b5 : iv 0 1 v3 := by rw [e4]; exact iv_and (iv_lit (lo := 1) (hi := 1) 1 (by decide) (by decide)) (by decide)
  refine lv_iconst (v := 1) E.1 E.2.1 dX11_isOf_5 (by decide) ?_
  refine lv_icmp_ne (tgt := 13) E.1 E.2.1 dX11_isOf_6 (by decide) (fun c6 => ?_) (fun c6 => ?_)
  · skip
    have b7 : iv 0 0 v3 := ne_hi c6 b5 (by decide) (by decide)
    refine lv_iconst (v := 0) E.1 E.2.1 dX11_isOf_13 (by decide) ?_
    exact RET G ⟨rfl, (iv_mono (iv_lit (lo := 0) (hi := 0) 0 (by decide) (by decide)) (by decide) (by decide)), (fun _ q => c6 (by rw [e4, e2]; exact q))⟩ (by decide) dX11_isOf_14
  · skip
    have b8 : iv 1 1 v3 := iv_eq c6 (iv_lit (lo := 1) (hi := 1) 1 (by decide) (by decide))
    refine lv_iconst (v := 1) E.1 E.2.1 dX11_isOf_9 (by decide) ?_
    refine lv_goto (tgt := 14) E.1 E.2.1 dX11_isOf_10 (by decide) ?_
    exact RET G ⟨rfl, (iv_mono (iv_lit (lo := 1) (hi := 1) 1 (by decide) (by decide)) (by decide) (by decide)), (fun q => absurd q (by decide))⟩ (by decide) dX11_isOf_14
set_option maxHeartbeats 4000000 in
set_option maxRecDepth 100000 in
theorem v_leastOf (l : Launch) (D : va_G) (K : Nat → ClassId) (ad : Nat → Nat) (z : TS) (o : Ok z) (x1 : Int32) (hf : ¬ x1 = 0) : cI l yX11_leastOf cX11_leastOf 2 .int ({ frames := 1, cells := 0, slots := 0, locals := 21 }) D K ad z [.int x1] (fun r u => u = z) := by
  obtain ⟨k0, bk0, hk0⟩ := bit_ex hf
  refine t_enterI (by decide) (Nat.le_of_ble_eq_true rfl) rfl rfl ?_
  intro p e s m args below meth c A R Q H locs ls E hfr hlo RET G hl
  have E : mE p s m meth c cX11_leastOf args 2 RX11 D K A := E
  have hl : lv_has ls 2 [(0, .int x1)] := hl
  refine lv_iconst (v := 0) E.1 E.2.1 dX11_leastOf_0 (by decide) ?_
  refine lv_istore_n (lv' := [(1, .int 0), (0, .int x1)]) E.1 E.2.1 dX11_leastOf_1 rfl hl (by decide) rfl (fun ls hl => ?_)
  have LOOP2 : ∀ n : Nat, ∀ (y1 : Int32) (H : Heap) (locs : List Loc) (ls : Array Slot), mG D A s H locs (wd K ad z) → iv 0 32 y1 → y1.toInt ≤ k0.toInt → k0.toInt < y1.toInt + (n : Int) → lv_has ls 2 [(1, .int y1), (0, .int x1)] → W p l e R s m args below meth c H locs 0 0 Q (F0 m 2 ls []) := by
    intro n
    induction n with
    | zero =>
      intro y1 H locs ls G b6 h7 m5 hl
      exact absurd m5 (by omega)
    | succ n ih2 =>
      intro y1 H locs ls G b6 h7 m5 hl
      refine lv_iload_n E.1 E.2.1 dX11_leastOf_2 rfl (lv_at hl 1 rfl) ?_
      refine lv_iload_n E.1 E.2.1 dX11_leastOf_3 rfl (lv_at hl 0 rfl) ?_
      refine t_si E G hl (v_isOf0 l D K ad z o x1 y1) 2 rfl mw_code_X11_isOf mw_ini_11 mw_ml_11_297 mw_stat_X11_isOf hd_X11_isOf ⟨Nat.le_trans (by decide) hfr, Nat.le_trans (by decide) hlo⟩ rfl rfl rfl (Nat.le_of_ble_eq_true rfl) dX11_leastOf_4 (fun r9 zz8 H locs hp10 G => ?_)
      obtain ⟨hz13, b11, h12⟩ := hp10
      rw [hz13] at G
      refine lv_if_ne (tgt := 16) E.1 E.2.1 dX11_leastOf_7 (by decide) (fun c14 => ?_) (fun c14 => ?_)
      · skip
        have b15 : iv 1 1 r9 := ne_lo c14 b11 (by decide) (by decide)
        refine lv_iload_n E.1 E.2.1 dX11_leastOf_16 rfl (lv_at hl 0 rfl) ?_
        exact RET G rfl rfl dX11_leastOf_17
      · skip
        have b16 : iv 0 0 r9 := iv_eq c14 (iv_lit (lo := 0) (hi := 0) 0 (by decide) (by decide))
        have b17 : iv 0 31 y1 := ⟨b6.1, by have := h7; have := bk0.2; omega⟩
        obtain ⟨v18, e19⟩ : ∃ w : Int32, w = y1 + (1 : Int32) := ⟨_, rfl⟩
        refine lv_iinc (v := v18) (lv' := [(1, .int v18), (0, .int x1)]) E.1 E.2.1 dX11_leastOf_10 hl (k := 0) rfl (by rw [e19]; rfl) (by decide) rfl (fun ls hl => ?_)
        have b20 : iv 1 32 v18 := by rw [e19]; exact iv_add b17 (iv_lit (lo := 1) (hi := 1) 1 (by decide) (by decide)) (by decide) (by decide) (by decide) (by decide)
        have t21 : v18.toInt = y1.toInt + 1 := by rw [e19]; exact ti_addc 1 (by decide) b17 (by decide) (by decide)
        refine lv_goto (tgt := 2) E.1 E.2.1 dX11_leastOf_13 (by decide) ?_
        exact ih2 v18 H locs ls G (iv_mono b20 (by decide) (by decide)) (by have q : ¬ y1 = k0 := fun q => h12 c14 (by rw [q]; exact hk0); have := t21; have := h7; have : ¬ y1.toInt = k0.toInt := fun w => q (Int32.toInt_inj.mp w); omega) (by have := t21; have := m5; omega) (lv_sub hl [0, 1] rfl)
  exact LOOP2 33 0 H locs ls G (iv_mono (iv_lit (lo := 0) (hi := 0) 0 (by decide) (by decide)) (by decide) (by decide)) (by have := bk0.1; have e0 : (0 : Int32).toInt = 0 := (by decide); omega) (by have := bk0.2; have e0 : (0 : Int32).toInt = 0 := (by decide); omega) (lv_sub hl [0, 1] rfl)
