theorem mw_code_X11_fails : (Cond.code yX11_fails cX11_fails 3 (some .boolean) : Cond) ∈ cw := cw_of (List.mem_append_right _ (List.mem_append_right _ (List.mem_append_right _ (List.mem_append_right _ (List.mem_append_right _ (List.mem_append_right _ (List.mem_append_left _ (List.mem_of_getElem? (i := 28) rfl)))))))) (by decide +kernel)
theorem mw_code_X11_isDigit : (Cond.code yX11_isDigit cX11_isDigit 2 (some .boolean) : Cond) ∈ cw := cw_of (List.mem_append_right _ (List.mem_append_right _ (List.mem_append_right _ (List.mem_append_right _ (List.mem_append_right _ (List.mem_append_right _ (List.mem_append_left _ (List.mem_of_getElem? (i := 52) rfl)))))))) (by decide +kernel)
theorem mw_fl_11_118 : (Cond.fieldLink RX11 118 "LureTownModel" "number" "I" : Cond) ∈ cw := cw_of (List.mem_append_right _ (List.mem_append_right _ (List.mem_append_right _ (List.mem_append_right _ (List.mem_append_right _ (List.mem_append_left _ (List.mem_of_getElem? (i := 117) (by decide +kernel)))))))) (by decide +kernel)
theorem mw_inst_X11_fails : (Cond.instanceMethod yX11_fails : Cond) ∈ cw := cw_of (List.mem_append_right _ (List.mem_append_right _ (List.mem_append_right _ (List.mem_append_right _ (List.mem_append_right _ (List.mem_append_right _ (List.mem_append_left _ (List.mem_of_getElem? (i := 27) (by decide +kernel))))))))) (by decide +kernel)
theorem mw_inst_X11_isDigit : (Cond.instanceMethod yX11_isDigit : Cond) ∈ cw := cw_of (List.mem_append_right _ (List.mem_append_right _ (List.mem_append_right _ (List.mem_append_right _ (List.mem_append_right _ (List.mem_append_right _ (List.mem_append_left _ (List.mem_of_getElem? (i := 51) (by decide +kernel))))))))) (by decide +kernel)
theorem mw_ml_11_111 : (Cond.methodLink RX11 111 yX11_isDigit : Cond) ∈ cw := cw_of (List.mem_append_right _ (List.mem_append_right _ (List.mem_append_right _ (List.mem_append_right _ (List.mem_append_right _ (List.mem_append_right _ (List.mem_append_left _ (List.mem_of_getElem? (i := 49) (by decide +kernel))))))))) (by decide +kernel)
theorem mw_ml_11_114 : (Cond.methodLink RX11 114 yX11_fails : Cond) ∈ cw := cw_of (List.mem_append_right _ (List.mem_append_right _ (List.mem_append_right _ (List.mem_append_right _ (List.mem_append_right _ (List.mem_append_right _ (List.mem_append_left _ (List.mem_of_getElem? (i := 25) (by decide +kernel))))))))) (by decide +kernel)
theorem mw_sel_X11_fails : (Cond.selects RX11 yX11_fails yX11_fails : Cond) ∈ cw := cw_of (List.mem_append_left _ (List.mem_of_getElem? (i := 54) (by decide +kernel))) (by decide +kernel)
theorem mw_sel_X11_isDigit : (Cond.selects RX11 yX11_isDigit yX11_isDigit : Cond) ∈ cw := cw_of (List.mem_append_left _ (List.mem_of_getElem? (i := 60) (by decide +kernel))) (by decide +kernel)
theorem dX11_numberHere_0 : decode cX11_numberHere 0 = .ok (.aload_n 0, 1) := by decide +kernel
theorem dX11_numberHere_1 : decode cX11_numberHere 1 = .ok (.invokevirtual 96, 3) := by decide +kernel
theorem dX11_numberHere_4 : decode cX11_numberHere 4 = .ok (.pop, 1) := by decide +kernel
theorem dX11_numberHere_5 : decode cX11_numberHere 5 = .ok (.aload_n 0, 1) := by decide +kernel
theorem dX11_numberHere_6 : decode cX11_numberHere 6 = .ok (.aload_n 0, 1) := by decide +kernel
theorem dX11_numberHere_7 : decode cX11_numberHere 7 = .ok (.getfield 93, 3) := by decide +kernel
theorem dX11_numberHere_10 : decode cX11_numberHere 10 = .ok (.invokevirtual 111, 3) := by decide +kernel
theorem dX11_numberHere_13 : decode cX11_numberHere 13 = .ok (.ifCond .ne 13, 3) := by decide +kernel
theorem dX11_numberHere_16 : decode cX11_numberHere 16 = .ok (.aload_n 0, 1) := by decide +kernel
theorem dX11_numberHere_17 : decode cX11_numberHere 17 = .ok (.iconst 0, 1) := by decide +kernel
theorem dX11_numberHere_18 : decode cX11_numberHere 18 = .ok (.aload_n 0, 1) := by decide +kernel
theorem dX11_numberHere_19 : decode cX11_numberHere 19 = .ok (.getfield 93, 3) := by decide +kernel
theorem dX11_numberHere_22 : decode cX11_numberHere 22 = .ok (.invokevirtual 114, 3) := by decide +kernel
theorem dX11_numberHere_25 : decode cX11_numberHere 25 = .ok (.ireturn, 1) := by decide +kernel
theorem dX11_numberHere_26 : decode cX11_numberHere 26 = .ok (.aload_n 0, 1) := by decide +kernel
theorem dX11_numberHere_27 : decode cX11_numberHere 27 = .ok (.getfield 93, 3) := by decide +kernel
theorem dX11_numberHere_30 : decode cX11_numberHere 30 = .ok (.istore_n 3, 1) := by decide +kernel
theorem dX11_numberHere_31 : decode cX11_numberHere 31 = .ok (.iconst 0, 1) := by decide +kernel
theorem dX11_numberHere_32 : decode cX11_numberHere 32 = .ok (.istore 4, 2) := by decide +kernel
theorem dX11_numberHere_34 : decode cX11_numberHere 34 = .ok (.aload_n 0, 1) := by decide +kernel
theorem dX11_numberHere_35 : decode cX11_numberHere 35 = .ok (.aload_n 0, 1) := by decide +kernel
theorem dX11_numberHere_36 : decode cX11_numberHere 36 = .ok (.getfield 93, 3) := by decide +kernel
theorem dX11_numberHere_39 : decode cX11_numberHere 39 = .ok (.invokevirtual 111, 3) := by decide +kernel
theorem dX11_numberHere_42 : decode cX11_numberHere 42 = .ok (.ifCond .eq 46, 3) := by decide +kernel
theorem dX11_numberHere_45 : decode cX11_numberHere 45 = .ok (.aload_n 0, 1) := by decide +kernel
theorem dX11_numberHere_46 : decode cX11_numberHere 46 = .ok (.getfield 93, 3) := by decide +kernel
theorem dX11_numberHere_49 : decode cX11_numberHere 49 = .ok (.iload_n 3, 1) := by decide +kernel
theorem dX11_numberHere_50 : decode cX11_numberHere 50 = .ok (.isub, 1) := by decide +kernel
theorem dX11_numberHere_51 : decode cX11_numberHere 51 = .ok (.iconst 5, 1) := by decide +kernel
theorem dX11_numberHere_52 : decode cX11_numberHere 52 = .ok (.if_icmp .ge 23, 3) := by decide +kernel
theorem dX11_numberHere_55 : decode cX11_numberHere 55 = .ok (.bipush 10, 2) := by decide +kernel
theorem dX11_numberHere_57 : decode cX11_numberHere 57 = .ok (.iload 4, 2) := by decide +kernel
theorem dX11_numberHere_59 : decode cX11_numberHere 59 = .ok (.imul, 1) := by decide +kernel
theorem dX11_numberHere_60 : decode cX11_numberHere 60 = .ok (.aload_n 0, 1) := by decide +kernel
theorem dX11_numberHere_61 : decode cX11_numberHere 61 = .ok (.getfield 7, 3) := by decide +kernel
theorem dX11_numberHere_64 : decode cX11_numberHere 64 = .ok (.aload_n 0, 1) := by decide +kernel
theorem dX11_numberHere_65 : decode cX11_numberHere 65 = .ok (.getfield 93, 3) := by decide +kernel
theorem dX11_numberHere_68 : decode cX11_numberHere 68 = .ok (.baload, 1) := by decide +kernel
theorem dX11_numberHere_69 : decode cX11_numberHere 69 = .ok (.iadd, 1) := by decide +kernel
theorem dX11_numberHere_70 : decode cX11_numberHere 70 = .ok (.bipush 48, 2) := by decide +kernel
theorem dX11_numberHere_72 : decode cX11_numberHere 72 = .ok (.isub, 1) := by decide +kernel
theorem dX11_numberHere_73 : decode cX11_numberHere 73 = .ok (.istore 4, 2) := by decide +kernel
theorem dX11_numberHere_75 : decode cX11_numberHere 75 = .ok (.aload_n 0, 1) := by decide +kernel
theorem dX11_numberHere_76 : decode cX11_numberHere 76 = .ok (.dup, 1) := by decide +kernel
theorem dX11_numberHere_77 : decode cX11_numberHere 77 = .ok (.getfield 93, 3) := by decide +kernel
theorem dX11_numberHere_80 : decode cX11_numberHere 80 = .ok (.iconst 1, 1) := by decide +kernel
theorem dX11_numberHere_81 : decode cX11_numberHere 81 = .ok (.iadd, 1) := by decide +kernel
theorem dX11_numberHere_82 : decode cX11_numberHere 82 = .ok (.putfield 93, 3) := by decide +kernel
theorem dX11_numberHere_85 : decode cX11_numberHere 85 = .ok (.goto (-51), 3) := by decide +kernel
theorem dX11_numberHere_88 : decode cX11_numberHere 88 = .ok (.aload_n 0, 1) := by decide +kernel
theorem dX11_numberHere_89 : decode cX11_numberHere 89 = .ok (.iload 4, 2) := by decide +kernel
theorem dX11_numberHere_91 : decode cX11_numberHere 91 = .ok (.putfield 118, 3) := by decide +kernel
theorem dX11_numberHere_94 : decode cX11_numberHere 94 = .ok (.aload_n 0, 1) := by decide +kernel
theorem dX11_numberHere_95 : decode cX11_numberHere 95 = .ok (.getfield 93, 3) := by decide +kernel
theorem dX11_numberHere_98 : decode cX11_numberHere 98 = .ok (.iload_n 3, 1) := by decide +kernel
theorem dX11_numberHere_99 : decode cX11_numberHere 99 = .ok (.isub, 1) := by decide +kernel
theorem dX11_numberHere_100 : decode cX11_numberHere 100 = .ok (.iconst 5, 1) := by decide +kernel
theorem dX11_numberHere_101 : decode cX11_numberHere 101 = .ok (.if_icmp .gt 16, 3) := by decide +kernel
theorem dX11_numberHere_104 : decode cX11_numberHere 104 = .ok (.iload 4, 2) := by decide +kernel
theorem dX11_numberHere_106 : decode cX11_numberHere 106 = .ok (.i2l, 1) := by decide +kernel
theorem dX11_numberHere_107 : decode cX11_numberHere 107 = .ok (.iload_n 1, 1) := by decide +kernel
theorem dX11_numberHere_108 : decode cX11_numberHere 108 = .ok (.i2l, 1) := by decide +kernel
theorem dX11_numberHere_109 : decode cX11_numberHere 109 = .ok (.iload_n 2, 1) := by decide +kernel
theorem dX11_numberHere_110 : decode cX11_numberHere 110 = .ok (.i2l, 1) := by decide +kernel
theorem dX11_numberHere_111 : decode cX11_numberHere 111 = .ok (.invokestatic 121, 3) := by decide +kernel
theorem dX11_numberHere_114 : decode cX11_numberHere 114 = .ok (.ifCond .ne 12, 3) := by decide +kernel
theorem dX11_numberHere_117 : decode cX11_numberHere 117 = .ok (.aload_n 0, 1) := by decide +kernel
theorem dX11_numberHere_118 : decode cX11_numberHere 118 = .ok (.iconst 1, 1) := by decide +kernel
theorem dX11_numberHere_119 : decode cX11_numberHere 119 = .ok (.iload_n 3, 1) := by decide +kernel
theorem dX11_numberHere_120 : decode cX11_numberHere 120 = .ok (.invokevirtual 114, 3) := by decide +kernel
theorem dX11_numberHere_123 : decode cX11_numberHere 123 = .ok (.ifCond .eq 7, 3) := by decide +kernel
theorem dX11_numberHere_126 : decode cX11_numberHere 126 = .ok (.iconst 1, 1) := by decide +kernel
theorem dX11_numberHere_127 : decode cX11_numberHere 127 = .ok (.goto 4, 3) := by decide +kernel
theorem dX11_numberHere_130 : decode cX11_numberHere 130 = .ok (.iconst 0, 1) := by decide +kernel
theorem dX11_numberHere_131 : decode cX11_numberHere 131 = .ok (.ireturn, 1) := by decide +kernel
theorem hd_X11_fails : yX11_fails.cls ≠ "java/lang/invoke/MethodHandle" ∧ yX11_fails.cls ≠ "java/lang/invoke/VarHandle" ∧ (parseMethodDescriptor yX11_fails.desc).map (fun d => d.parameters.length) = some 2 := ⟨by decide +kernel, by decide +kernel, by decide +kernel⟩
theorem hd_X11_isDigit : yX11_isDigit.cls ≠ "java/lang/invoke/MethodHandle" ∧ yX11_isDigit.cls ≠ "java/lang/invoke/VarHandle" ∧ (parseMethodDescriptor yX11_isDigit.desc).map (fun d => d.parameters.length) = some 1 := ⟨by decide +kernel, by decide +kernel, by decide +kernel⟩
theorem dg_up {z zz u : TS} (h : zz = z ∨ (tI z 386 8).toInt + 1 ≤ (tI zz 386 8).toInt) (h4 : (tI zz 386 8).toInt + 1 ≤ (tI u 386 8).toInt) : (tI z 386 8).toInt + 1 ≤ (tI u 386 8).toInt := by
  rcases h with h | h
  · rw [h] at h4; exact h4
  · omega
theorem dg_end {z zz : TS} {a b : Int32} (h : zz = z ∨ (tI z 386 8).toInt + 1 ≤ (tI zz 386 8).toInt) (hn : ¬ CHx 48 57 zz a) (e : a = tI zz 386 8) (hy : CHx 48 57 z b) (eb : b = tI z 386 8) : (tI z 386 8).toInt + 1 ≤ (tI zz 386 8).toInt := by
  rcases h with h | h
  · subst h
    rw [e] at hn
    rw [eb] at hy
    exact absurd hy hn
  · exact h
theorem in_num {x y v : Int32} {w1 w2 w3 : Int64} (e1 : w1 = v.toInt64) (e2 : w2 = x.toInt64) (e3 : w3 = y.toInt64) (h : w2.toInt ≤ w1.toInt ∧ w1.toInt ≤ w3.toInt) : x.toInt ≤ v.toInt ∧ v.toInt ≤ y.toInt := by
  rw [e1, e2, e3, Int32.toInt_toInt64, Int32.toInt_toInt64, Int32.toInt_toInt64] at h
  exact h
set_option maxHeartbeats 4000000 in
set_option maxRecDepth 100000 in
theorem v_numberHere (l : Launch) (D : va_G) (K : Nat → ClassId) (ad : Nat → Nat) (z : TS) (o : Ok z) (x1 : Int32) (x2 : Int32) (hn : NXx z) : cI l yX11_numberHere cX11_numberHere 5 .boolean ({ frames := 1, cells := 0, slots := 0, locals := 25 }) D K ad z [.ref (ad 386), .int x1, .int x2] (fun r u => Ok u ∧ KZ z u ∧ iv 0 1 r ∧ (Scx z u) ∧ (¬ r = 0 → (tI z 386 8).toInt + 1 ≤ (tI u 386 8).toInt ∧ x1.toInt ≤ (tI u 386 10).toInt ∧ (tI u 386 10).toInt ≤ x2.toInt)) := by
  have sc0 : Scx z z := Scx.rf hn
  refine t_enterI (by decide) (Nat.le_of_ble_eq_true rfl) rfl rfl ?_
  intro p e s m args below meth c A R Q H locs ls E hfr hlo RET G hl
  have E : mE p s m meth c cX11_numberHere args 5 RX11 D K A := E
  have hl : lv_has ls 5 [(0, .ref (ad 386)), (1, .int x1), (2, .int x2)] := hl
  refine lv_aload_n E.1 E.2.1 dX11_numberHere_0 rfl (lv_at hl 0 rfl) ?_
  refine t_vi E G hl (v_see l D K ad z o sc0.1) 11 (rfl : ro 386 = 11) (by decide) rfl rfl 0 rfl mw_code_X11_see mw_ini_11 mw_ml_11_96 mw_inst_X11_see mw_sel_X11_see hd_X11_see ⟨Nat.le_trans (by decide) hfr, Nat.le_trans (by decide) hlo⟩ rfl rfl rfl (Nat.le_of_ble_eq_true rfl) dX11_numberHere_1 (fun r2 zz1 H locs hp3 G => ?_)
  obtain ⟨oo4, kk5, b6, h7, h8, h9, h10⟩ := hp3
  have kk11 : KZ z zz1 := KF.tr KF.rf (KN8.z kk5)
  have h12 := Scx.tr sc0 h7
  refine lv_pop E.1 E.2.1 dX11_numberHere_4 rfl ?_
  refine lv_aload_n E.1 E.2.1 dX11_numberHere_5 rfl (lv_at hl 0 rfl) ?_
  refine lv_aload_n E.1 E.2.1 dX11_numberHere_6 rfl (lv_at hl 0 rfl) ?_
  refine t_get E G 11 8 (rfl : ro 386 = 11) (C := RX11) (T := TX11) (N := 37) rfl (by decide) (by decide) (by decide) mw_fl_11_93 (fvl_i rfl) dX11_numberHere_7 ?_
  refine lv_topi (fun v13 e14 => ?_)
  have b15 : iv 0 400 v13 := by rw [e14]; exact oo4.i 11 8 (rfl : ro 386 = 11)
  refine t_vi E G hl (v_isDigit l D K ad zz1 oo4 v13 (iv_mono b15 (by decide) (by decide))) 11 (rfl : ro 386 = 11) (by decide) rfl rfl 1 rfl mw_code_X11_isDigit mw_ini_11 mw_ml_11_111 mw_inst_X11_isDigit mw_sel_X11_isDigit hd_X11_isDigit ⟨Nat.le_trans (by decide) hfr, Nat.le_trans (by decide) hlo⟩ rfl rfl rfl (Nat.le_of_ble_eq_true rfl) dX11_numberHere_10 (fun r17 zz16 H locs hp18 G => ?_)
  obtain ⟨hz22, b19, h20, h21⟩ := hp18
  rw [hz22] at G
  refine lv_if_ne (tgt := 26) E.1 E.2.1 dX11_numberHere_13 (by decide) (fun c23 => ?_) (fun c23 => ?_)
  · skip
    have b24 : iv 1 1 r17 := ne_lo c23 b19 (by decide) (by decide)
    have b25 : iv 0 399 v13 := ⟨b15.1, by have h := (h20 c23).1; have b := (oo4.i (j := 386) 11 1 rfl).2; have e : ihi 11 1 = 400 := (by decide); omega⟩
    refine lv_aload_n E.1 E.2.1 dX11_numberHere_26 rfl (lv_at hl 0 rfl) ?_
    refine t_get E G 11 8 (rfl : ro 386 = 11) (C := RX11) (T := TX11) (N := 37) rfl (by decide) (by decide) (by decide) mw_fl_11_93 (fvl_i rfl) dX11_numberHere_27 ?_
    refine m_ci v13 e14.symm ?_
    refine lv_istore_n (lv' := [(3, .int v13), (0, .ref (ad 386)), (1, .int x1), (2, .int x2)]) E.1 E.2.1 dX11_numberHere_30 rfl hl (by decide) rfl (fun ls hl => ?_)
    refine lv_iconst (v := 0) E.1 E.2.1 dX11_numberHere_31 (by decide) ?_
    refine lv_istore (lv' := [(4, .int 0), (3, .int v13), (0, .ref (ad 386)), (1, .int x1), (2, .int x2)]) E.1 E.2.1 dX11_numberHere_32 hl (by decide) rfl (fun ls hl => ?_)
    have LOOP34 : ∀ n : Nat, ∀ (zz27 : TS) (y26 : Int32) (H : Heap) (locs : List Loc) (ls : Array Slot), mG D A s H locs (wd K ad zz27) → Ok zz27 → KZ z zz27 → Scx z zz27 → nb (tI zz27 386 8).toInt v13.toInt y26.toInt → (zz27 = zz1 ∨ (tI zz1 386 8).toInt + 1 ≤ (tI zz27 386 8).toInt) → 400 < (tI zz27 386 8).toInt + (n : Int) → lv_has ls 5 [(4, .int y26), (3, .int v13), (0, .ref (ad 386)), (1, .int x1), (2, .int x2)] → W p l e R s m args below meth c H locs 0 0 Q (F0 m 34 ls []) := by
      intro n
      induction n with
      | zero =>
        intro zz27 y26 H locs ls G oo28 kk29 h31 h32 h33 m30 hl
        exact absurd m30 (by have := (oo28.i (j := 386) 11 8 rfl).2; have e : ihi 11 8 = 400 := (by decide); omega)
      | succ n ih34 =>
        intro zz27 y26 H locs ls G oo28 kk29 h31 h32 h33 m30 hl
        refine lv_aload_n E.1 E.2.1 dX11_numberHere_34 rfl (lv_at hl 2 rfl) ?_
        refine lv_aload_n E.1 E.2.1 dX11_numberHere_35 rfl (lv_at hl 2 rfl) ?_
        refine t_get E G 11 8 (rfl : ro 386 = 11) (C := RX11) (T := TX11) (N := 37) rfl (by decide) (by decide) (by decide) mw_fl_11_93 (fvl_i rfl) dX11_numberHere_36 ?_
        refine lv_topi (fun v34 e35 => ?_)
        have b36 : iv 0 400 v34 := by rw [e35]; exact oo28.i 11 8 (rfl : ro 386 = 11)
        refine t_vi E G hl (v_isDigit l D K ad zz27 oo28 v34 (iv_mono b36 (by decide) (by decide))) 11 (rfl : ro 386 = 11) (by decide) rfl rfl 1 rfl mw_code_X11_isDigit mw_ini_11 mw_ml_11_111 mw_inst_X11_isDigit mw_sel_X11_isDigit hd_X11_isDigit ⟨Nat.le_trans (by decide) hfr, Nat.le_trans (by decide) hlo⟩ rfl rfl rfl (Nat.le_of_ble_eq_true rfl) dX11_numberHere_39 (fun r38 zz37 H locs hp39 G => ?_)
        obtain ⟨hz43, b40, h41, h42⟩ := hp39
        rw [hz43] at G
        refine lv_if_eq (tgt := 88) E.1 E.2.1 dX11_numberHere_42 (by decide) (fun c44 => ?_) (fun c44 => ?_)
        · skip
          have b45 : iv 0 0 r38 := iv_eq c44 (iv_lit (lo := 0) (hi := 0) 0 (by decide) (by decide))
          have h46 := dg_end h33 (h42 c44) e35 (h20 c23) e14
          have b47 : iv 0 99999 y26 := nb_iv h32
          refine lv_aload_n E.1 E.2.1 dX11_numberHere_88 rfl (lv_at hl 2 rfl) ?_
          refine lv_iload E.1 E.2.1 dX11_numberHere_89 (lv_at hl 0 rfl) ?_
          refine t_puti E G 11 10 (rfl : ro 386 = 11) (C := RX11) (T := TX11) (N := 37) rfl (by decide) (by decide) (by decide) rfl rfl mw_fl_11_118 rfl dX11_numberHere_91 (fun H locs G => ?_)
          obtain ⟨zz49, G, oo50, kk51, h52, h53, h54, h48⟩ : ∃ u : TS, mG D A s H locs (wd K ad u) ∧ Ok u ∧ KZ z u ∧ tI u 386 1 = (tI zz27 386 1) ∧ tI u 386 8 = v34 ∧ tI u 386 10 = y26 ∧ (Scx z u) := ⟨_, G, ok_i oo28 11 (rfl : ro 386 = 11) (iv_mono b47 (by decide) (by decide)) (by decide), KF.tr kk29 (KF_i 11 (rfl : ro 386 = 11) (by decide)), (sI_k rfl (by decide)), (sI_k e35.symm (by decide)), sI_self, h31⟩
          refine lv_aload_n E.1 E.2.1 dX11_numberHere_94 rfl (lv_at hl 2 rfl) ?_
          refine t_get E G 11 8 (rfl : ro 386 = 11) (C := RX11) (T := TX11) (N := 37) rfl (by decide) (by decide) (by decide) mw_fl_11_93 (fvl_i rfl) dX11_numberHere_95 ?_
          refine m_ci v34 h53 ?_
          refine lv_iload_n E.1 E.2.1 dX11_numberHere_98 rfl (lv_at hl 1 rfl) ?_
          refine lv_isub E.1 E.2.1 dX11_numberHere_99 ?_
          refine lv_topi (fun v55 e56 => ?_)
          have b57 : iv (-399) 400 v55 := by rw [e56]; exact iv_sub b36 b25 (by decide) (by decide) (by decide) (by decide)
          have l58 : v55.toInt = 0 + 1 * v34.toInt + (-1) * v13.toInt := (show v55.toInt = v34.toInt - v13.toInt by rw [e56]; exact ti_subv b36 b25 (by decide) (by decide)).trans (by omega)
          refine lv_iconst (v := 5) E.1 E.2.1 dX11_numberHere_100 (by decide) ?_
          refine lv_icmp_gt (tgt := 117) E.1 E.2.1 dX11_numberHere_101 (by decide) (fun c59 => ?_) (fun c59 => ?_)
          · skip
            have b60 : iv 6 400 v55 := lt_r c59 (iv_lit (lo := 5) (hi := 5) 5 (by decide) (by decide)) b57 (by decide)
            refine lv_aload_n E.1 E.2.1 dX11_numberHere_117 rfl (lv_at hl 2 rfl) ?_
            refine lv_iconst (v := 1) E.1 E.2.1 dX11_numberHere_118 (by decide) ?_
            refine lv_iload_n E.1 E.2.1 dX11_numberHere_119 rfl (lv_at hl 1 rfl) ?_
            refine t_vi E G hl (v_fails l D K ad zz49 oo50 (1 : Int32) v13) 11 (rfl : ro 386 = 11) (by decide) rfl rfl 2 rfl mw_code_X11_fails mw_ini_11 mw_ml_11_114 mw_inst_X11_fails mw_sel_X11_fails hd_X11_fails ⟨Nat.le_trans (by decide) hfr, Nat.le_trans (by decide) hlo⟩ rfl rfl rfl (Nat.le_of_ble_eq_true rfl) dX11_numberHere_120 (fun r62 zz61 H locs hp63 G => ?_)
            obtain ⟨oo64, kk65, b66⟩ := hp63
            have kk67 : KZ z zz61 := KF.tr kk51 (KA9.z kk65)
            have h68 : tI zz61 386 1 = (tI zz27 386 1) := KF.i kk65 11 (rfl : ro 386 = 11) (by decide) h52
            have h69 : tI zz61 386 8 = v34 := KF.i kk65 11 (rfl : ro 386 = 11) (by decide) h53
            have h70 : tI zz61 386 10 = y26 := KF.i kk65 11 (rfl : ro 386 = 11) (by decide) h54
            have h71 := Scx.tr h48 (Scx.k h48.1 kk65 rfl rfl)
            refine lv_if_eq (tgt := 130) E.1 E.2.1 dX11_numberHere_123 (by decide) (fun _ => ?_) (fun h => absurd (iv_one b66 (by decide)) h)
            refine lv_iconst (v := 0) E.1 E.2.1 dX11_numberHere_130 (by decide) ?_
            exact RET G ⟨oo64, kk67, (iv_mono (iv_lit (lo := 0) (hi := 0) 0 (by decide) (by decide)) (by decide) (by decide)), h71, (fun h => absurd rfl h)⟩ (by decide) dX11_numberHere_131
          · skip
            have b72 : iv (-399) 5 v55 := le_l (Int32.not_lt.mp c59) b57 (iv_lit (lo := 5) (hi := 5) 5 (by decide) (by decide)) (by decide)
            refine lv_iload E.1 E.2.1 dX11_numberHere_104 (lv_at hl 0 rfl) ?_
            refine lv_i2l E.1 E.2.1 dX11_numberHere_106 rfl ?_
            refine lv_topl (fun v73 e74 => ?_)
            refine lv_iload_n E.1 E.2.1 dX11_numberHere_107 rfl (lv_at hl 3 rfl) ?_
            refine lv_i2l E.1 E.2.1 dX11_numberHere_108 rfl ?_
            refine lv_topl (fun v75 e76 => ?_)
            refine lv_iload_n E.1 E.2.1 dX11_numberHere_109 rfl (lv_at hl 4 rfl) ?_
            refine lv_i2l E.1 E.2.1 dX11_numberHere_110 rfl ?_
            refine lv_topl (fun v77 e78 => ?_)
            refine t_si E G hl (v_in l D K ad zz49 oo50 v73 v75 v77) 3 rfl mw_code_X11_in mw_ini_11 mw_ml_11_121 mw_stat_X11_in hd_X11_in ⟨Nat.le_trans (by decide) hfr, Nat.le_trans (by decide) hlo⟩ rfl rfl rfl (Nat.le_of_ble_eq_true rfl) dX11_numberHere_111 (fun r80 zz79 H locs hp81 G => ?_)
            obtain ⟨hz84, b82, h83⟩ := hp81
            rw [hz84] at G
            refine lv_if_ne (tgt := 126) E.1 E.2.1 dX11_numberHere_114 (by decide) (fun c85 => ?_) (fun c85 => ?_)
            · skip
              have b86 : iv 1 1 r80 := ne_lo c85 b82 (by decide) (by decide)
              refine lv_iconst (v := 1) E.1 E.2.1 dX11_numberHere_126 (by decide) ?_
              refine lv_goto (tgt := 131) E.1 E.2.1 dX11_numberHere_127 (by decide) ?_
              exact RET G ⟨oo50, kk51, (iv_mono (iv_lit (lo := 1) (hi := 1) 1 (by decide) (by decide)) (by decide) (by decide)), h48, (fun _ => by have q := in_num e74 e76 e78 (h83 c85); have d := h46; have s0 := h12; have e8 := congrArg Int32.toInt h53; have e8b := congrArg Int32.toInt e35; have e10 := congrArg Int32.toInt h54; have m := s0.2; refine ⟨?_, ?_, ?_⟩ <;> omega)⟩ (by decide) dX11_numberHere_131
            · skip
              have b87 : iv 0 0 r80 := iv_eq c85 (iv_lit (lo := 0) (hi := 0) 0 (by decide) (by decide))
              refine lv_aload_n E.1 E.2.1 dX11_numberHere_117 rfl (lv_at hl 2 rfl) ?_
              refine lv_iconst (v := 1) E.1 E.2.1 dX11_numberHere_118 (by decide) ?_
              refine lv_iload_n E.1 E.2.1 dX11_numberHere_119 rfl (lv_at hl 1 rfl) ?_
              refine t_vi E G hl (v_fails l D K ad zz49 oo50 (1 : Int32) v13) 11 (rfl : ro 386 = 11) (by decide) rfl rfl 2 rfl mw_code_X11_fails mw_ini_11 mw_ml_11_114 mw_inst_X11_fails mw_sel_X11_fails hd_X11_fails ⟨Nat.le_trans (by decide) hfr, Nat.le_trans (by decide) hlo⟩ rfl rfl rfl (Nat.le_of_ble_eq_true rfl) dX11_numberHere_120 (fun r89 zz88 H locs hp90 G => ?_)
              obtain ⟨oo91, kk92, b93⟩ := hp90
              have kk94 : KZ z zz88 := KF.tr kk51 (KA9.z kk92)
              have h95 : tI zz88 386 1 = (tI zz27 386 1) := KF.i kk92 11 (rfl : ro 386 = 11) (by decide) h52
              have h96 : tI zz88 386 8 = v34 := KF.i kk92 11 (rfl : ro 386 = 11) (by decide) h53
              have h97 : tI zz88 386 10 = y26 := KF.i kk92 11 (rfl : ro 386 = 11) (by decide) h54
              have h98 := Scx.tr h48 (Scx.k h48.1 kk92 rfl rfl)
              refine lv_if_eq (tgt := 130) E.1 E.2.1 dX11_numberHere_123 (by decide) (fun _ => ?_) (fun h => absurd (iv_one b93 (by decide)) h)
              refine lv_iconst (v := 0) E.1 E.2.1 dX11_numberHere_130 (by decide) ?_
              exact RET G ⟨oo91, kk94, (iv_mono (iv_lit (lo := 0) (hi := 0) 0 (by decide) (by decide)) (by decide) (by decide)), h98, (fun h => absurd rfl h)⟩ (by decide) dX11_numberHere_131
        · skip
          have b99 : iv 1 1 r38 := ne_lo c44 b40 (by decide) (by decide)
          have b100 : iv 0 399 v34 := ⟨b36.1, by have h := (h41 c44).1; have b := (oo28.i (j := 386) 11 1 rfl).2; have e : ihi 11 1 = 400 := (by decide); omega⟩
          refine lv_aload_n E.1 E.2.1 dX11_numberHere_45 rfl (lv_at hl 2 rfl) ?_
          refine t_get E G 11 8 (rfl : ro 386 = 11) (C := RX11) (T := TX11) (N := 37) rfl (by decide) (by decide) (by decide) mw_fl_11_93 (fvl_i rfl) dX11_numberHere_46 ?_
          refine m_ci v34 e35.symm ?_
          refine lv_iload_n E.1 E.2.1 dX11_numberHere_49 rfl (lv_at hl 1 rfl) ?_
          refine lv_isub E.1 E.2.1 dX11_numberHere_50 ?_
          refine lv_topi (fun v101 e102 => ?_)
          have b103 : iv (-399) 399 v101 := by rw [e102]; exact iv_sub b100 b25 (by decide) (by decide) (by decide) (by decide)
          have l104 : v101.toInt = 0 + 1 * v34.toInt + (-1) * v13.toInt := (show v101.toInt = v34.toInt - v13.toInt by rw [e102]; exact ti_subv b100 b25 (by decide) (by decide)).trans (by omega)
          refine lv_iconst (v := 5) E.1 E.2.1 dX11_numberHere_51 (by decide) ?_
          refine lv_icmp_ge (tgt := 75) E.1 E.2.1 dX11_numberHere_52 (by decide) (fun c105 => ?_) (fun c105 => ?_)
          · skip
            have b106 : iv 5 399 v101 := le_r c105 (iv_lit (lo := 5) (hi := 5) 5 (by decide) (by decide)) b103 (by decide)
            refine lv_aload_n E.1 E.2.1 dX11_numberHere_75 rfl (lv_at hl 2 rfl) ?_
            refine lv_dup E.1 E.2.1 dX11_numberHere_76 rfl ?_
            refine t_get E G 11 8 (rfl : ro 386 = 11) (C := RX11) (T := TX11) (N := 37) rfl (by decide) (by decide) (by decide) mw_fl_11_93 (fvl_i rfl) dX11_numberHere_77 ?_
            refine m_ci v34 e35.symm ?_
            refine lv_iconst (v := 1) E.1 E.2.1 dX11_numberHere_80 (by decide) ?_
            refine lv_iadd E.1 E.2.1 dX11_numberHere_81 ?_
            refine lv_topi (fun v107 e108 => ?_)
            have b109 : iv 1 400 v107 := by rw [e108]; exact iv_add b100 (iv_lit (lo := 1) (hi := 1) 1 (by decide) (by decide)) (by decide) (by decide) (by decide) (by decide)
            have l110 : v107.toInt = 1 + 1 * v34.toInt := (show v107.toInt = v34.toInt + 1 by rw [e108]; exact ti_addc 1 (by decide) b100 (by decide) (by decide)).trans (by omega)
            refine t_puti E G 11 8 (rfl : ro 386 = 11) (C := RX11) (T := TX11) (N := 37) rfl (by decide) (by decide) (by decide) rfl rfl mw_fl_11_93 rfl dX11_numberHere_82 (fun H locs G => ?_)
            obtain ⟨zz111, G, oo112, kk113, h114, h115⟩ : ∃ u : TS, mG D A s H locs (wd K ad u) ∧ Ok u ∧ KZ z u ∧ tI u 386 1 = (tI zz27 386 1) ∧ tI u 386 8 = v107 := ⟨_, G, ok_i oo28 11 (rfl : ro 386 = 11) (iv_mono b109 (by decide) (by decide)) (by decide), KF.tr kk29 (KF_i 11 (rfl : ro 386 = 11) (by decide)), (sI_k rfl (by decide)), sI_self⟩
            refine lv_goto (tgt := 34) E.1 E.2.1 dX11_numberHere_85 (by decide) ?_
            exact ih34 zz111 y26 H locs ls G oo112 kk113 (Scx.tr h31 (up_nx e35 rfl (by have h := (h41 c44).1; exact h) (l110.trans (by omega)) h115 h114).1) (by rw [h115, show v107.toInt = v34.toInt + 1 by omega]; exact (nb_st (by have h := h32; rw [← e35] at h; exact h) (nb_sd (iv_mono b100 (by decide) (by decide)) (iv_mono b25 (by decide) (by decide)) (by rw [← e102]; exact c105)))) (Or.inr (dg_up h33 (up_nx e35 rfl (by have h := (h41 c44).1; exact h) (l110.trans (by omega)) h115 h114).2)) (by have q := congrArg Int32.toInt h115; have q2 := congrArg Int32.toInt e35; have := l110; have := m30; omega) (lv_sub hl [0, 1, 2, 3, 4] rfl)
          · skip
            have b116 : iv (-399) 4 v101 := lt_l (Int32.not_le.mp c105) b103 (iv_lit (lo := 5) (hi := 5) 5 (by decide) (by decide)) (by decide)
            refine lv_bipush (v := 10) E.1 E.2.1 dX11_numberHere_55 (by decide) ?_
            refine lv_iload E.1 E.2.1 dX11_numberHere_57 (lv_at hl 0 rfl) ?_
            refine lv_imul E.1 E.2.1 dX11_numberHere_59 ?_
            refine lv_topi (fun v117 e118 => ?_)
            refine lv_aload_n E.1 E.2.1 dX11_numberHere_60 rfl (lv_at hl 2 rfl) ?_
            refine t_get E G 11 0 (rfl : ro 386 = 11) (C := RX11) (T := TX11) (N := 37) rfl (by decide) (by decide) (by decide) mw_fl_11_7 (v := .ref (ad 387)) (fvl_o (n := 1) rfl) dX11_numberHere_61 ?_
            refine lv_aload_n E.1 E.2.1 dX11_numberHere_64 rfl (lv_at hl 2 rfl) ?_
            refine t_get E G 11 8 (rfl : ro 386 = 11) (C := RX11) (T := TX11) (N := 37) rfl (by decide) (by decide) (by decide) mw_fl_11_93 (fvl_i rfl) dX11_numberHere_65 ?_
            refine m_ci v34 e35.symm ?_
            refine t_bald E G 45 (rfl : ro 387 = 45) (by decide) (by decide) rfl (n := 400) rfl (iv_vp b100 (by decide) (by decide)) dX11_numberHere_68 ?_
            refine lv_topi (fun v119 e120 => ?_)
            have b121 : iv (-128) 127 v119 := by rw [e120]; exact iv_mono (rd_u oo28 45 (rfl : ro 387 = 45) (by decide) _) (by decide) (by decide)
            refine lv_iadd E.1 E.2.1 dX11_numberHere_69 ?_
            refine lv_topi (fun v122 e123 => ?_)
            refine lv_bipush (v := 48) E.1 E.2.1 dX11_numberHere_70 (by decide) ?_
            refine lv_isub E.1 E.2.1 dX11_numberHere_72 ?_
            refine lv_topi (fun v124 e125 => ?_)
            refine lv_istore (lv' := [(4, .int v124), (3, .int v13), (0, .ref (ad 386)), (1, .int x1), (2, .int x2)]) E.1 E.2.1 dX11_numberHere_73 hl (by decide) rfl (fun ls hl => ?_)
            refine lv_aload_n E.1 E.2.1 dX11_numberHere_75 rfl (lv_at hl 2 rfl) ?_
            refine lv_dup E.1 E.2.1 dX11_numberHere_76 rfl ?_
            refine t_get E G 11 8 (rfl : ro 386 = 11) (C := RX11) (T := TX11) (N := 37) rfl (by decide) (by decide) (by decide) mw_fl_11_93 (fvl_i rfl) dX11_numberHere_77 ?_
            refine m_ci v34 e35.symm ?_
            refine lv_iconst (v := 1) E.1 E.2.1 dX11_numberHere_80 (by decide) ?_
            refine lv_iadd E.1 E.2.1 dX11_numberHere_81 ?_
            refine lv_topi (fun v126 e127 => ?_)
            have b128 : iv 1 400 v126 := by rw [e127]; exact iv_add b100 (iv_lit (lo := 1) (hi := 1) 1 (by decide) (by decide)) (by decide) (by decide) (by decide) (by decide)
            have l129 : v126.toInt = 1 + 1 * v34.toInt := (show v126.toInt = v34.toInt + 1 by rw [e127]; exact ti_addc 1 (by decide) b100 (by decide) (by decide)).trans (by omega)
            refine t_puti E G 11 8 (rfl : ro 386 = 11) (C := RX11) (T := TX11) (N := 37) rfl (by decide) (by decide) (by decide) rfl rfl mw_fl_11_93 rfl dX11_numberHere_82 (fun H locs G => ?_)
            obtain ⟨zz130, G, oo131, kk132, h133, h134⟩ : ∃ u : TS, mG D A s H locs (wd K ad u) ∧ Ok u ∧ KZ z u ∧ tI u 386 1 = (tI zz27 386 1) ∧ tI u 386 8 = v126 := ⟨_, G, ok_i oo28 11 (rfl : ro 386 = 11) (iv_mono b128 (by decide) (by decide)) (by decide), KF.tr kk29 (KF_i 11 (rfl : ro 386 = 11) (by decide)), (sI_k rfl (by decide)), sI_self⟩
            refine lv_goto (tgt := 34) E.1 E.2.1 dX11_numberHere_85 (by decide) ?_
            exact ih34 zz130 v124 H locs ls G oo131 kk132 (Scx.tr h31 (up_nx e35 rfl (by have h := (h41 c44).1; exact h) (l129.trans (by omega)) h134 h133).1) (by rw [h134, show v126.toInt = v34.toInt + 1 by omega]; exact (by rw [e125, e123, e118, Int32.mul_comm]; exact nb_up (by have h := h32; rw [← e35] at h; exact h) (iv_mono b100 (by decide) (by decide)) (iv_mono b25 (by decide) (by decide)) (by rw [← e102]; exact c105) (by rw [e120]; exact (h41 c44).2))) (Or.inr (dg_up h33 (up_nx e35 rfl (by have h := (h41 c44).1; exact h) (l129.trans (by omega)) h134 h133).2)) (by have q := congrArg Int32.toInt h134; have q2 := congrArg Int32.toInt e35; have := l129; have := m30; omega) (lv_sub hl [0, 1, 2, 3, 4] rfl)
    exact LOOP34 401 zz1 0 H locs ls G oo4 kk11 h12 (by rw [e14.symm]; exact nb_0 _) (Or.inl rfl) (by have := (oo4.i (j := 386) 11 8 rfl).1; have e : ilo 11 8 = 0 := (by decide); omega) (lv_sub hl [0, 1, 2, 3, 4] rfl)
  · skip
    have b135 : iv 0 0 r17 := iv_eq c23 (iv_lit (lo := 0) (hi := 0) 0 (by decide) (by decide))
    refine lv_aload_n E.1 E.2.1 dX11_numberHere_16 rfl (lv_at hl 0 rfl) ?_
    refine lv_iconst (v := 0) E.1 E.2.1 dX11_numberHere_17 (by decide) ?_
    refine lv_aload_n E.1 E.2.1 dX11_numberHere_18 rfl (lv_at hl 0 rfl) ?_
    refine t_get E G 11 8 (rfl : ro 386 = 11) (C := RX11) (T := TX11) (N := 37) rfl (by decide) (by decide) (by decide) mw_fl_11_93 (fvl_i rfl) dX11_numberHere_19 ?_
    refine m_ci v13 e14.symm ?_
    refine t_vi E G hl (v_fails l D K ad zz1 oo4 (0 : Int32) v13) 11 (rfl : ro 386 = 11) (by decide) rfl rfl 2 rfl mw_code_X11_fails mw_ini_11 mw_ml_11_114 mw_inst_X11_fails mw_sel_X11_fails hd_X11_fails ⟨Nat.le_trans (by decide) hfr, Nat.le_trans (by decide) hlo⟩ rfl rfl rfl (Nat.le_of_ble_eq_true rfl) dX11_numberHere_22 (fun r137 zz136 H locs hp138 G => ?_)
    obtain ⟨oo139, kk140, b141⟩ := hp138
    have kk142 : KZ z zz136 := KF.tr kk11 (KA9.z kk140)
    have h143 : tI zz136 386 8 = v13 := KF.i kk140 11 (rfl : ro 386 = 11) (by decide) e14.symm
    have h144 := Scx.tr h12 (Scx.k h12.1 kk140 rfl rfl)
    exact RET G ⟨oo139, kk142, (iv_mono b141 (by decide) (by decide)), h144, (fun h => absurd (zero_of b141) h)⟩ (nar_b b141) dX11_numberHere_25
