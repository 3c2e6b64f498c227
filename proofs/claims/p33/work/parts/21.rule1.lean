theorem mw_code_X4_joined : (Cond.code yX4_joined cX4_joined 5 (some .long) : Cond) ∈ cw := cw_of (List.mem_append_right _ (List.mem_append_right _ (List.mem_append_right _ (List.mem_append_right _ (List.mem_append_left _ (List.mem_of_getElem? (i := 121) rfl)))))) (by decide +kernel)
theorem mw_fl_4_28 : (Cond.fieldLink RX4 28 "LureTown$Rule" "stack" "[J" : Cond) ∈ cw := cw_of (List.mem_append_right _ (List.mem_append_left _ (List.mem_of_getElem? (i := 213) (by decide +kernel)))) (by decide +kernel)
theorem mw_ini_4 : (Cond.initialized RX4 : Cond) ∈ cw := cw_of (List.mem_append_right _ (List.mem_append_left _ (List.mem_of_getElem? (i := 7) (by decide +kernel)))) (by decide +kernel)
theorem mw_ml_4_36 : (Cond.methodLink RX4 36 yX4_joined : Cond) ∈ cw := cw_of (List.mem_append_right _ (List.mem_append_right _ (List.mem_append_right _ (List.mem_append_right _ (List.mem_append_left _ (List.mem_of_getElem? (i := 119) (by decide +kernel))))))) (by decide +kernel)
theorem mw_stat_X4_joined : (Cond.static yX4_joined : Cond) ∈ cw := cw_of (List.mem_append_right _ (List.mem_append_right _ (List.mem_append_right _ (List.mem_append_right _ (List.mem_append_left _ (List.mem_of_getElem? (i := 120) (by decide +kernel))))))) (by decide +kernel)
theorem dX4_answer_0 : decode cX4_answer 0 = .ok (.iconst 0, 1) := by decide +kernel
theorem dX4_answer_1 : decode cX4_answer 1 = .ok (.istore 4, 2) := by decide +kernel
theorem dX4_answer_3 : decode cX4_answer 3 = .ok (.iload_n 1, 1) := by decide +kernel
theorem dX4_answer_4 : decode cX4_answer 4 = .ok (.istore 5, 2) := by decide +kernel
theorem dX4_answer_6 : decode cX4_answer 6 = .ok (.iload 5, 2) := by decide +kernel
theorem dX4_answer_8 : decode cX4_answer 8 = .ok (.iload_n 2, 1) := by decide +kernel
theorem dX4_answer_9 : decode cX4_answer 9 = .ok (.if_icmp .ge 151, 3) := by decide +kernel
theorem dX4_answer_12 : decode cX4_answer 12 = .ok (.aload_n 0, 1) := by decide +kernel
theorem dX4_answer_13 : decode cX4_answer 13 = .ok (.getfield 15, 3) := by decide +kernel
theorem dX4_answer_16 : decode cX4_answer 16 = .ok (.iload 5, 2) := by decide +kernel
theorem dX4_answer_18 : decode cX4_answer 18 = .ok (.iaload, 1) := by decide +kernel
theorem dX4_answer_19 : decode cX4_answer 19 = .ok (.istore 6, 2) := by decide +kernel
theorem dX4_answer_21 : decode cX4_answer 21 = .ok (.iload 6, 2) := by decide +kernel
theorem dX4_answer_23 : decode cX4_answer 23 = .ok (.bipush 64, 2) := by decide +kernel
theorem dX4_answer_25 : decode cX4_answer 25 = .ok (.if_icmp .ge 10, 3) := by decide +kernel
theorem dX4_answer_28 : decode cX4_answer 28 = .ok (.iload 6, 2) := by decide +kernel
theorem dX4_answer_30 : decode cX4_answer 30 = .ok (.bipush 11, 2) := by decide +kernel
theorem dX4_answer_32 : decode cX4_answer 32 = .ok (.if_icmp .ge 47, 3) := by decide +kernel
theorem dX4_answer_35 : decode cX4_answer 35 = .ok (.iload 4, 2) := by decide +kernel
theorem dX4_answer_37 : decode cX4_answer 37 = .ok (.aload_n 0, 1) := by decide +kernel
theorem dX4_answer_38 : decode cX4_answer 38 = .ok (.getfield 28, 3) := by decide +kernel
theorem dX4_answer_41 : decode cX4_answer 41 = .ok (.arraylength, 1) := by decide +kernel
theorem dX4_answer_42 : decode cX4_answer 42 = .ok (.if_icmp .ge 112, 3) := by decide +kernel
theorem dX4_answer_45 : decode cX4_answer 45 = .ok (.aload_n 0, 1) := by decide +kernel
theorem dX4_answer_46 : decode cX4_answer 46 = .ok (.getfield 28, 3) := by decide +kernel
theorem dX4_answer_49 : decode cX4_answer 49 = .ok (.iload 4, 2) := by decide +kernel
theorem dX4_answer_51 : decode cX4_answer 51 = .ok (.iload 6, 2) := by decide +kernel
theorem dX4_answer_53 : decode cX4_answer 53 = .ok (.bipush 64, 2) := by decide +kernel
theorem dX4_answer_55 : decode cX4_answer 55 = .ok (.if_icmp .lt 12, 3) := by decide +kernel
theorem dX4_answer_58 : decode cX4_answer 58 = .ok (.iload 6, 2) := by decide +kernel
theorem dX4_answer_60 : decode cX4_answer 60 = .ok (.bipush 64, 2) := by decide +kernel
theorem dX4_answer_62 : decode cX4_answer 62 = .ok (.isub, 1) := by decide +kernel
theorem dX4_answer_63 : decode cX4_answer 63 = .ok (.i2l, 1) := by decide +kernel
theorem dX4_answer_64 : decode cX4_answer 64 = .ok (.goto 8, 3) := by decide +kernel
theorem dX4_answer_67 : decode cX4_answer 67 = .ok (.aload_n 3, 1) := by decide +kernel
theorem dX4_answer_68 : decode cX4_answer 68 = .ok (.iload 6, 2) := by decide +kernel
theorem dX4_answer_70 : decode cX4_answer 70 = .ok (.iaload, 1) := by decide +kernel
theorem dX4_answer_71 : decode cX4_answer 71 = .ok (.i2l, 1) := by decide +kernel
theorem dX4_answer_72 : decode cX4_answer 72 = .ok (.lastore, 1) := by decide +kernel
theorem dX4_answer_73 : decode cX4_answer 73 = .ok (.iinc 4 1, 3) := by decide +kernel
theorem dX4_answer_76 : decode cX4_answer 76 = .ok (.goto 78, 3) := by decide +kernel
theorem dX4_answer_79 : decode cX4_answer 79 = .ok (.iload 6, 2) := by decide +kernel
theorem dX4_answer_81 : decode cX4_answer 81 = .ok (.bipush 15, 2) := by decide +kernel
theorem dX4_answer_83 : decode cX4_answer 83 = .ok (.if_icmp .ne 32, 3) := by decide +kernel
theorem dX4_answer_86 : decode cX4_answer 86 = .ok (.iload 4, 2) := by decide +kernel
theorem dX4_answer_88 : decode cX4_answer 88 = .ok (.iconst 1, 1) := by decide +kernel
theorem dX4_answer_89 : decode cX4_answer 89 = .ok (.if_icmp .lt 26, 3) := by decide +kernel
theorem dX4_answer_92 : decode cX4_answer 92 = .ok (.aload_n 0, 1) := by decide +kernel
theorem dX4_answer_93 : decode cX4_answer 93 = .ok (.getfield 28, 3) := by decide +kernel
theorem dX4_answer_96 : decode cX4_answer 96 = .ok (.iload 4, 2) := by decide +kernel
theorem dX4_answer_98 : decode cX4_answer 98 = .ok (.iconst 1, 1) := by decide +kernel
theorem dX4_answer_99 : decode cX4_answer 99 = .ok (.isub, 1) := by decide +kernel
theorem dX4_answer_100 : decode cX4_answer 100 = .ok (.lconst 1, 1) := by decide +kernel
theorem dX4_answer_101 : decode cX4_answer 101 = .ok (.aload_n 0, 1) := by decide +kernel
theorem dX4_answer_102 : decode cX4_answer 102 = .ok (.getfield 28, 3) := by decide +kernel
theorem dX4_answer_105 : decode cX4_answer 105 = .ok (.iload 4, 2) := by decide +kernel
theorem dX4_answer_107 : decode cX4_answer 107 = .ok (.iconst 1, 1) := by decide +kernel
theorem dX4_answer_108 : decode cX4_answer 108 = .ok (.isub, 1) := by decide +kernel
theorem dX4_answer_109 : decode cX4_answer 109 = .ok (.laload, 1) := by decide +kernel
theorem dX4_answer_110 : decode cX4_answer 110 = .ok (.lsub, 1) := by decide +kernel
theorem dX4_answer_111 : decode cX4_answer 111 = .ok (.lastore, 1) := by decide +kernel
theorem dX4_answer_112 : decode cX4_answer 112 = .ok (.goto 42, 3) := by decide +kernel
theorem dX4_answer_115 : decode cX4_answer 115 = .ok (.iload 4, 2) := by decide +kernel
theorem dX4_answer_117 : decode cX4_answer 117 = .ok (.iconst 2, 1) := by decide +kernel
theorem dX4_answer_118 : decode cX4_answer 118 = .ok (.if_icmp .lt 36, 3) := by decide +kernel
theorem dX4_answer_121 : decode cX4_answer 121 = .ok (.iinc 4 (-1), 3) := by decide +kernel
theorem dX4_answer_124 : decode cX4_answer 124 = .ok (.aload_n 0, 1) := by decide +kernel
theorem dX4_answer_125 : decode cX4_answer 125 = .ok (.getfield 28, 3) := by decide +kernel
theorem dX4_answer_128 : decode cX4_answer 128 = .ok (.iload 4, 2) := by decide +kernel
theorem dX4_answer_130 : decode cX4_answer 130 = .ok (.iconst 1, 1) := by decide +kernel
theorem dX4_answer_131 : decode cX4_answer 131 = .ok (.isub, 1) := by decide +kernel
theorem dX4_answer_132 : decode cX4_answer 132 = .ok (.iload 6, 2) := by decide +kernel
theorem dX4_answer_134 : decode cX4_answer 134 = .ok (.aload_n 0, 1) := by decide +kernel
theorem dX4_answer_135 : decode cX4_answer 135 = .ok (.getfield 28, 3) := by decide +kernel
theorem dX4_answer_138 : decode cX4_answer 138 = .ok (.iload 4, 2) := by decide +kernel
theorem dX4_answer_140 : decode cX4_answer 140 = .ok (.iconst 1, 1) := by decide +kernel
theorem dX4_answer_141 : decode cX4_answer 141 = .ok (.isub, 1) := by decide +kernel
theorem dX4_answer_142 : decode cX4_answer 142 = .ok (.laload, 1) := by decide +kernel
theorem dX4_answer_143 : decode cX4_answer 143 = .ok (.aload_n 0, 1) := by decide +kernel
theorem dX4_answer_144 : decode cX4_answer 144 = .ok (.getfield 28, 3) := by decide +kernel
theorem dX4_answer_147 : decode cX4_answer 147 = .ok (.iload 4, 2) := by decide +kernel
theorem dX4_answer_149 : decode cX4_answer 149 = .ok (.laload, 1) := by decide +kernel
theorem dX4_answer_150 : decode cX4_answer 150 = .ok (.invokestatic 36, 3) := by decide +kernel
theorem dX4_answer_153 : decode cX4_answer 153 = .ok (.lastore, 1) := by decide +kernel
theorem dX4_answer_154 : decode cX4_answer 154 = .ok (.iinc 5 1, 3) := by decide +kernel
theorem dX4_answer_157 : decode cX4_answer 157 = .ok (.goto (-151), 3) := by decide +kernel
theorem dX4_answer_160 : decode cX4_answer 160 = .ok (.aload_n 0, 1) := by decide +kernel
theorem dX4_answer_161 : decode cX4_answer 161 = .ok (.getfield 28, 3) := by decide +kernel
theorem dX4_answer_164 : decode cX4_answer 164 = .ok (.iconst 0, 1) := by decide +kernel
theorem dX4_answer_165 : decode cX4_answer 165 = .ok (.laload, 1) := by decide +kernel
theorem dX4_answer_166 : decode cX4_answer 166 = .ok (.lreturn, 1) := by decide +kernel
theorem hd_X4_joined : yX4_joined.cls ≠ "java/lang/invoke/MethodHandle" ∧ yX4_joined.cls ≠ "java/lang/invoke/VarHandle" ∧ (parseMethodDescriptor yX4_joined.desc).map (fun d => d.parameters.length) = some 3 := ⟨by decide +kernel, by decide +kernel, by decide +kernel⟩
set_option maxHeartbeats 4000000 in
set_option maxRecDepth 100000 in
theorem r_answer (l : Launch) (D : va_G) (K : Nat → ClassId) (ad : Nat → Nat) (z : TS) (o : Ok z) (p0 : Nat) (ap0 : at_ 4 p0 = true) (x1 : Int32) (bx1 : iv 0 400 x1) (x2 : Int32) (bx2 : iv 0 400 x2) : cL l yX4_answer cX4_answer 7 ({ frames := 1, cells := 0, slots := 0, locals := 24 }) D K ad z [.ref (ad p0), .int x1, .int x2, .ref (ad 334)] (fun r u => Ok u ∧ KC z u) := by
  refine t_enterL (by decide) (Nat.le_of_ble_eq_true rfl) rfl rfl ?_
  intro p e s m args below meth c A R Q H locs ls E hfr hlo RET G hl
  have E : mE p s m meth c cX4_answer args 7 RX4 D K A := E
  have hl : lv_has ls 7 [(0, .ref (ad p0)), (1, .int x1), (2, .int x2), (3, .ref (ad 334))] := hl
  refine lv_iconst (v := 0) E.1 E.2.1 dX4_answer_0 (by decide) ?_
  refine lv_istore (lv' := [(4, .int 0), (0, .ref (ad p0)), (1, .int x1), (2, .int x2), (3, .ref (ad 334))]) E.1 E.2.1 dX4_answer_1 hl (by decide) rfl (fun ls hl => ?_)
  refine lv_iload_n E.1 E.2.1 dX4_answer_3 rfl (lv_at hl 2 rfl) ?_
  refine lv_istore (lv' := [(5, .int x1), (4, .int 0), (0, .ref (ad p0)), (1, .int x1), (2, .int x2), (3, .ref (ad 334))]) E.1 E.2.1 dX4_answer_4 hl (by decide) rfl (fun ls hl => ?_)
  have LOOP6 : ∀ n : Nat, ∀ (zz3 : TS) (y1 : Int32) (y2 : Int32) (H : Heap) (locs : List Loc) (ls : Array Slot), mG D A s H locs (wd K ad zz3) → Ok zz3 → KC z zz3 → iv 0 400 y1 → iv 0 61 y2 → 400 < y1.toInt + (n : Int) → lv_has ls 7 [(5, .int y1), (4, .int y2), (0, .ref (ad p0)), (1, .int x1), (2, .int x2), (3, .ref (ad 334))] → W p l e R s m args below meth c H locs 0 0 Q (F0 m 6 ls []) := by
    intro n
    induction n with
    | zero =>
      intro zz3 y1 y2 H locs ls G oo4 kk5 b7 b8 m6 hl
      exact absurd m6 (by have := b7.1; have := b7.2; omega)
    | succ n ih6 =>
      intro zz3 y1 y2 H locs ls G oo4 kk5 b7 b8 m6 hl
      refine lv_iload E.1 E.2.1 dX4_answer_6 (lv_at hl 0 rfl) ?_
      refine lv_iload_n E.1 E.2.1 dX4_answer_8 rfl (lv_at hl 4 rfl) ?_
      refine lv_icmp_ge (tgt := 160) E.1 E.2.1 dX4_answer_9 (by decide) (fun c9 => ?_) (fun c9 => ?_)
      · skip
        refine lv_aload_n E.1 E.2.1 dX4_answer_160 rfl (lv_at hl 2 rfl) ?_
        refine t_get E G 4 5 (at_ro (i := 0) ap0 (by decide) : ro p0 = 4) (C := RX4) (T := TX4) (N := 6) rfl (by decide) (by decide) (by decide) mw_fl_4_28 (v := .ref (ad (p0 + 4))) (fvl_o (n := 4) rfl) dX4_answer_161 ?_
        refine lv_iconst (v := 0) E.1 E.2.1 dX4_answer_164 (by decide) ?_
        refine t_lald E G 33 (at_ro (i := 4) ap0 (by decide) : ro (p0 + 4) = 33) (by decide) (by decide) rfl (n := 61) rfl (by unfold vp_in; decide) dX4_answer_165 ?_
        refine lv_topl (fun v10 _ => ?_)
        exact RET G ⟨oo4, kk5⟩ dX4_answer_166
      · skip
        have b11 : iv 0 399 y1 := lt_l (Int32.not_le.mp c9) b7 bx2 (by decide)
        have b12 : iv 1 400 x2 := lt_r (Int32.not_le.mp c9) b7 bx2 (by decide)
        refine lv_aload_n E.1 E.2.1 dX4_answer_12 rfl (lv_at hl 2 rfl) ?_
        refine t_get E G 4 1 (at_ro (i := 0) ap0 (by decide) : ro p0 = 4) (C := RX4) (T := TX4) (N := 6) rfl (by decide) (by decide) (by decide) mw_fl_4_15 (v := .ref (ad (p0 + 1))) (fvl_o (n := 1) rfl) dX4_answer_13 ?_
        refine lv_iload E.1 E.2.1 dX4_answer_16 (lv_at hl 0 rfl) ?_
        refine t_iald E G 30 (at_ro (i := 1) ap0 (by decide) : ro (p0 + 1) = 30) (by decide) (by decide) rfl (n := 400) rfl (iv_vp b11 (by decide) (by decide)) dX4_answer_18 ?_
        refine lv_topi (fun v13 e14 => ?_)
        have b15 : iv 0 2147483647 v13 := by rw [e14]; exact oo4.ac 30 (at_ro (i := 1) ap0 (by decide) : ro (p0 + 1) = 30) (by decide) _
        refine lv_istore (lv' := [(6, .int v13), (5, .int y1), (4, .int y2), (0, .ref (ad p0)), (1, .int x1), (2, .int x2), (3, .ref (ad 334))]) E.1 E.2.1 dX4_answer_19 hl (by decide) rfl (fun ls hl => ?_)
        refine lv_iload E.1 E.2.1 dX4_answer_21 (lv_at hl 0 rfl) ?_
        refine lv_bipush (v := 64) E.1 E.2.1 dX4_answer_23 (by decide) ?_
        refine lv_icmp_ge (tgt := 35) E.1 E.2.1 dX4_answer_25 (by decide) (fun c16 => ?_) (fun c16 => ?_)
        · skip
          have b17 : iv 64 2147483647 v13 := le_r c16 (iv_lit (lo := 64) (hi := 64) 64 (by decide) (by decide)) b15 (by decide)
          refine lv_iload E.1 E.2.1 dX4_answer_35 (lv_at hl 2 rfl) ?_
          refine lv_aload_n E.1 E.2.1 dX4_answer_37 rfl (lv_at hl 3 rfl) ?_
          refine t_get E G 4 5 (at_ro (i := 0) ap0 (by decide) : ro p0 = 4) (C := RX4) (T := TX4) (N := 6) rfl (by decide) (by decide) (by decide) mw_fl_4_28 (v := .ref (ad (p0 + 4))) (fvl_o (n := 4) rfl) dX4_answer_38 ?_
          refine t_alen E G 33 2 (at_ro (i := 4) ap0 (by decide) : ro (p0 + 4) = 33) (by decide) (by decide) rfl rfl (v := 61) (by decide) dX4_answer_41 ?_
          refine lv_icmp_ge (tgt := 154) E.1 E.2.1 dX4_answer_42 (by decide) (fun c18 => ?_) (fun c18 => ?_)
          · skip
            have b19 : iv 61 61 y2 := le_r c18 (iv_lit (lo := 61) (hi := 61) 61 (by decide) (by decide)) b8 (by decide)
            obtain ⟨v20, e21⟩ : ∃ w : Int32, w = y1 + (1 : Int32) := ⟨_, rfl⟩
            refine lv_iinc (v := v20) (lv' := [(5, .int v20), (6, .int v13), (4, .int y2), (0, .ref (ad p0)), (1, .int x1), (2, .int x2), (3, .ref (ad 334))]) E.1 E.2.1 dX4_answer_154 hl (k := 1) rfl (by rw [e21]; rfl) (by decide) rfl (fun ls hl => ?_)
            have b22 : iv 1 400 v20 := by rw [e21]; exact iv_add b11 (iv_lit (lo := 1) (hi := 1) 1 (by decide) (by decide)) (by decide) (by decide) (by decide) (by decide)
            have t23 : v20.toInt = y1.toInt + 1 := by rw [e21]; exact ti_addc 1 (by decide) b11 (by decide) (by decide)
            refine lv_goto (tgt := 6) E.1 E.2.1 dX4_answer_157 (by decide) ?_
            exact ih6 zz3 v20 y2 H locs ls G oo4 kk5 (iv_mono b22 (by decide) (by decide)) (iv_mono b19 (by decide) (by decide)) (by have := t23; have := m6; omega) (lv_sub hl [0, 2, 3, 4, 5, 6] rfl)
          · skip
            have b24 : iv 0 60 y2 := lt_l (Int32.not_le.mp c18) b8 (iv_lit (lo := 61) (hi := 61) 61 (by decide) (by decide)) (by decide)
            refine lv_aload_n E.1 E.2.1 dX4_answer_45 rfl (lv_at hl 3 rfl) ?_
            refine t_get E G 4 5 (at_ro (i := 0) ap0 (by decide) : ro p0 = 4) (C := RX4) (T := TX4) (N := 6) rfl (by decide) (by decide) (by decide) mw_fl_4_28 (v := .ref (ad (p0 + 4))) (fvl_o (n := 4) rfl) dX4_answer_46 ?_
            refine lv_iload E.1 E.2.1 dX4_answer_49 (lv_at hl 2 rfl) ?_
            refine lv_iload E.1 E.2.1 dX4_answer_51 (lv_at hl 0 rfl) ?_
            refine lv_bipush (v := 64) E.1 E.2.1 dX4_answer_53 (by decide) ?_
            refine lv_icmp_lt (tgt := 67) E.1 E.2.1 dX4_answer_55 (by decide) (fun h => absurd h (ivnlt b17 (iv_lit (lo := 64) (hi := 64) 64 (by decide) (by decide)) (by decide))) (fun _ => ?_)
            refine lv_iload E.1 E.2.1 dX4_answer_58 (lv_at hl 0 rfl) ?_
            refine lv_bipush (v := 64) E.1 E.2.1 dX4_answer_60 (by decide) ?_
            refine lv_isub E.1 E.2.1 dX4_answer_62 ?_
            refine lv_topi (fun v25 e26 => ?_)
            have b27 : iv 0 2147483583 v25 := by rw [e26]; exact iv_sub b17 (iv_lit (lo := 64) (hi := 64) 64 (by decide) (by decide)) (by decide) (by decide) (by decide) (by decide)
            refine lv_i2l E.1 E.2.1 dX4_answer_63 rfl ?_
            refine lv_topl (fun v28 e29 => ?_)
            refine lv_goto (tgt := 72) E.1 E.2.1 dX4_answer_64 (by decide) ?_
            refine t_last E G 33 (at_ro (i := 4) ap0 (by decide) : ro (p0 + 4) = 33) (by decide) (by decide) rfl (n := 61) rfl (iv_vp b24 (by decide) (by decide)) dX4_answer_72 (fun H locs G => ?_)
            obtain ⟨zz30, G, oo31, kk32⟩ : ∃ u : TS, mG D A s H locs (wd K ad u) ∧ Ok u ∧ KC z u := ⟨_, G, ok_l oo4, KC.tr kk5 (KC_l 33 (at_ro (i := 4) ap0 (by decide) : ro (p0 + 4) = 33) (by decide))⟩
            obtain ⟨v33, e34⟩ : ∃ w : Int32, w = y2 + (1 : Int32) := ⟨_, rfl⟩
            refine lv_iinc (v := v33) (lv' := [(4, .int v33), (6, .int v13), (5, .int y1), (0, .ref (ad p0)), (1, .int x1), (2, .int x2), (3, .ref (ad 334))]) E.1 E.2.1 dX4_answer_73 hl (k := 2) rfl (by rw [e34]; rfl) (by decide) rfl (fun ls hl => ?_)
            have b35 : iv 1 61 v33 := by rw [e34]; exact iv_add b24 (iv_lit (lo := 1) (hi := 1) 1 (by decide) (by decide)) (by decide) (by decide) (by decide) (by decide)
            have t36 : v33.toInt = y2.toInt + 1 := by rw [e34]; exact ti_addc 1 (by decide) b24 (by decide) (by decide)
            refine lv_goto (tgt := 154) E.1 E.2.1 dX4_answer_76 (by decide) ?_
            obtain ⟨v37, e38⟩ : ∃ w : Int32, w = y1 + (1 : Int32) := ⟨_, rfl⟩
            refine lv_iinc (v := v37) (lv' := [(5, .int v37), (4, .int v33), (6, .int v13), (0, .ref (ad p0)), (1, .int x1), (2, .int x2), (3, .ref (ad 334))]) E.1 E.2.1 dX4_answer_154 hl (k := 2) rfl (by rw [e38]; rfl) (by decide) rfl (fun ls hl => ?_)
            have b39 : iv 1 400 v37 := by rw [e38]; exact iv_add b11 (iv_lit (lo := 1) (hi := 1) 1 (by decide) (by decide)) (by decide) (by decide) (by decide) (by decide)
            have t40 : v37.toInt = y1.toInt + 1 := by rw [e38]; exact ti_addc 1 (by decide) b11 (by decide) (by decide)
            refine lv_goto (tgt := 6) E.1 E.2.1 dX4_answer_157 (by decide) ?_
            exact ih6 zz30 v37 v33 H locs ls G oo31 kk32 (iv_mono b39 (by decide) (by decide)) (iv_mono b35 (by decide) (by decide)) (by have := t40; have := m6; omega) (lv_sub hl [0, 1, 3, 4, 5, 6] rfl)
        · skip
          have b41 : iv 0 63 v13 := lt_l (Int32.not_le.mp c16) b15 (iv_lit (lo := 64) (hi := 64) 64 (by decide) (by decide)) (by decide)
          refine lv_iload E.1 E.2.1 dX4_answer_28 (lv_at hl 0 rfl) ?_
          refine lv_bipush (v := 11) E.1 E.2.1 dX4_answer_30 (by decide) ?_
          refine lv_icmp_ge (tgt := 79) E.1 E.2.1 dX4_answer_32 (by decide) (fun c42 => ?_) (fun c42 => ?_)
          · skip
            have b43 : iv 11 63 v13 := le_r c42 (iv_lit (lo := 11) (hi := 11) 11 (by decide) (by decide)) b41 (by decide)
            refine lv_iload E.1 E.2.1 dX4_answer_79 (lv_at hl 0 rfl) ?_
            refine lv_bipush (v := 15) E.1 E.2.1 dX4_answer_81 (by decide) ?_
            refine lv_icmp_ne (tgt := 115) E.1 E.2.1 dX4_answer_83 (by decide) (fun c44 => ?_) (fun c44 => ?_)
            · skip
              refine lv_iload E.1 E.2.1 dX4_answer_115 (lv_at hl 2 rfl) ?_
              refine lv_iconst (v := 2) E.1 E.2.1 dX4_answer_117 (by decide) ?_
              refine lv_icmp_lt (tgt := 154) E.1 E.2.1 dX4_answer_118 (by decide) (fun c45 => ?_) (fun c45 => ?_)
              · skip
                have b46 : iv 0 1 y2 := lt_l c45 b8 (iv_lit (lo := 2) (hi := 2) 2 (by decide) (by decide)) (by decide)
                obtain ⟨v47, e48⟩ : ∃ w : Int32, w = y1 + (1 : Int32) := ⟨_, rfl⟩
                refine lv_iinc (v := v47) (lv' := [(5, .int v47), (6, .int v13), (4, .int y2), (0, .ref (ad p0)), (1, .int x1), (2, .int x2), (3, .ref (ad 334))]) E.1 E.2.1 dX4_answer_154 hl (k := 1) rfl (by rw [e48]; rfl) (by decide) rfl (fun ls hl => ?_)
                have b49 : iv 1 400 v47 := by rw [e48]; exact iv_add b11 (iv_lit (lo := 1) (hi := 1) 1 (by decide) (by decide)) (by decide) (by decide) (by decide) (by decide)
                have t50 : v47.toInt = y1.toInt + 1 := by rw [e48]; exact ti_addc 1 (by decide) b11 (by decide) (by decide)
                refine lv_goto (tgt := 6) E.1 E.2.1 dX4_answer_157 (by decide) ?_
                exact ih6 zz3 v47 y2 H locs ls G oo4 kk5 (iv_mono b49 (by decide) (by decide)) (iv_mono b46 (by decide) (by decide)) (by have := t50; have := m6; omega) (lv_sub hl [0, 2, 3, 4, 5, 6] rfl)
              · skip
                have b51 : iv 2 61 y2 := le_r (Int32.not_lt.mp c45) (iv_lit (lo := 2) (hi := 2) 2 (by decide) (by decide)) b8 (by decide)
                obtain ⟨v52, e53⟩ : ∃ w : Int32, w = y2 + (-1 : Int32) := ⟨_, rfl⟩
                refine lv_iinc (v := v52) (lv' := [(4, .int v52), (6, .int v13), (5, .int y1), (0, .ref (ad p0)), (1, .int x1), (2, .int x2), (3, .ref (ad 334))]) E.1 E.2.1 dX4_answer_121 hl (k := 2) rfl (by rw [e53]; rfl) (by decide) rfl (fun ls hl => ?_)
                have b54 : iv 1 60 v52 := by rw [e53]; exact iv_add b51 (iv_lit (lo := (-1)) (hi := (-1)) (-1) (by decide) (by decide)) (by decide) (by decide) (by decide) (by decide)
                have t55 : v52.toInt = y2.toInt + (-1) := by rw [e53]; exact ti_addc (-1) (by decide) b51 (by decide) (by decide)
                refine lv_aload_n E.1 E.2.1 dX4_answer_124 rfl (lv_at hl 3 rfl) ?_
                refine t_get E G 4 5 (at_ro (i := 0) ap0 (by decide) : ro p0 = 4) (C := RX4) (T := TX4) (N := 6) rfl (by decide) (by decide) (by decide) mw_fl_4_28 (v := .ref (ad (p0 + 4))) (fvl_o (n := 4) rfl) dX4_answer_125 ?_
                refine lv_iload E.1 E.2.1 dX4_answer_128 (lv_at hl 0 rfl) ?_
                refine lv_iconst (v := 1) E.1 E.2.1 dX4_answer_130 (by decide) ?_
                refine lv_isub E.1 E.2.1 dX4_answer_131 ?_
                refine lv_topi (fun v56 e57 => ?_)
                have b58 : iv 0 59 v56 := by rw [e57]; exact iv_sub b54 (iv_lit (lo := 1) (hi := 1) 1 (by decide) (by decide)) (by decide) (by decide) (by decide) (by decide)
                refine lv_iload E.1 E.2.1 dX4_answer_132 (lv_at hl 1 rfl) ?_
                refine lv_aload_n E.1 E.2.1 dX4_answer_134 rfl (lv_at hl 3 rfl) ?_
                refine t_get E G 4 5 (at_ro (i := 0) ap0 (by decide) : ro p0 = 4) (C := RX4) (T := TX4) (N := 6) rfl (by decide) (by decide) (by decide) mw_fl_4_28 (v := .ref (ad (p0 + 4))) (fvl_o (n := 4) rfl) dX4_answer_135 ?_
                refine lv_iload E.1 E.2.1 dX4_answer_138 (lv_at hl 0 rfl) ?_
                refine lv_iconst (v := 1) E.1 E.2.1 dX4_answer_140 (by decide) ?_
                refine lv_isub E.1 E.2.1 dX4_answer_141 ?_
                refine lv_topi (fun v59 e60 => ?_)
                have b61 : iv 0 59 v59 := by rw [e60]; exact iv_sub b54 (iv_lit (lo := 1) (hi := 1) 1 (by decide) (by decide)) (by decide) (by decide) (by decide) (by decide)
                refine t_lald E G 33 (at_ro (i := 4) ap0 (by decide) : ro (p0 + 4) = 33) (by decide) (by decide) rfl (n := 61) rfl (iv_vp b61 (by decide) (by decide)) dX4_answer_142 ?_
                refine lv_topl (fun v62 _ => ?_)
                refine lv_aload_n E.1 E.2.1 dX4_answer_143 rfl (lv_at hl 3 rfl) ?_
                refine t_get E G 4 5 (at_ro (i := 0) ap0 (by decide) : ro p0 = 4) (C := RX4) (T := TX4) (N := 6) rfl (by decide) (by decide) (by decide) mw_fl_4_28 (v := .ref (ad (p0 + 4))) (fvl_o (n := 4) rfl) dX4_answer_144 ?_
                refine lv_iload E.1 E.2.1 dX4_answer_147 (lv_at hl 0 rfl) ?_
                refine t_lald E G 33 (at_ro (i := 4) ap0 (by decide) : ro (p0 + 4) = 33) (by decide) (by decide) rfl (n := 61) rfl (iv_vp b54 (by decide) (by decide)) dX4_answer_149 ?_
                refine lv_topl (fun v63 _ => ?_)
                refine t_sl E G hl (r_joined l D K ad zz3 oo4 v13 v62 v63) 3 rfl mw_code_X4_joined mw_ini_4 mw_ml_4_36 mw_stat_X4_joined hd_X4_joined ⟨Nat.le_trans (by decide) hfr, Nat.le_trans (by decide) hlo⟩ rfl rfl rfl (Nat.le_of_ble_eq_true rfl) dX4_answer_150 (fun r65 zz64 H locs hp66 G => ?_)
                have hz67 := hp66
                rw [hz67] at G
                refine t_last E G 33 (at_ro (i := 4) ap0 (by decide) : ro (p0 + 4) = 33) (by decide) (by decide) rfl (n := 61) rfl (iv_vp b58 (by decide) (by decide)) dX4_answer_153 (fun H locs G => ?_)
                obtain ⟨zz68, G, oo69, kk70⟩ : ∃ u : TS, mG D A s H locs (wd K ad u) ∧ Ok u ∧ KC z u := ⟨_, G, ok_l oo4, KC.tr kk5 (KC_l 33 (at_ro (i := 4) ap0 (by decide) : ro (p0 + 4) = 33) (by decide))⟩
                obtain ⟨v71, e72⟩ : ∃ w : Int32, w = y1 + (1 : Int32) := ⟨_, rfl⟩
                refine lv_iinc (v := v71) (lv' := [(5, .int v71), (4, .int v52), (6, .int v13), (0, .ref (ad p0)), (1, .int x1), (2, .int x2), (3, .ref (ad 334))]) E.1 E.2.1 dX4_answer_154 hl (k := 2) rfl (by rw [e72]; rfl) (by decide) rfl (fun ls hl => ?_)
                have b73 : iv 1 400 v71 := by rw [e72]; exact iv_add b11 (iv_lit (lo := 1) (hi := 1) 1 (by decide) (by decide)) (by decide) (by decide) (by decide) (by decide)
                have t74 : v71.toInt = y1.toInt + 1 := by rw [e72]; exact ti_addc 1 (by decide) b11 (by decide) (by decide)
                refine lv_goto (tgt := 6) E.1 E.2.1 dX4_answer_157 (by decide) ?_
                exact ih6 zz68 v71 v52 H locs ls G oo69 kk70 (iv_mono b73 (by decide) (by decide)) (iv_mono b54 (by decide) (by decide)) (by have := t74; have := m6; omega) (lv_sub hl [0, 1, 3, 4, 5, 6] rfl)
            · skip
              have b75 : iv 15 15 v13 := iv_eq c44 (iv_lit (lo := 15) (hi := 15) 15 (by decide) (by decide))
              refine lv_iload E.1 E.2.1 dX4_answer_86 (lv_at hl 2 rfl) ?_
              refine lv_iconst (v := 1) E.1 E.2.1 dX4_answer_88 (by decide) ?_
              refine lv_icmp_lt (tgt := 115) E.1 E.2.1 dX4_answer_89 (by decide) (fun c76 => ?_) (fun c76 => ?_)
              · skip
                have b77 : iv 0 0 y2 := lt_l c76 b8 (iv_lit (lo := 1) (hi := 1) 1 (by decide) (by decide)) (by decide)
                refine lv_iload E.1 E.2.1 dX4_answer_115 (lv_at hl 2 rfl) ?_
                refine lv_iconst (v := 2) E.1 E.2.1 dX4_answer_117 (by decide) ?_
                refine lv_icmp_lt (tgt := 154) E.1 E.2.1 dX4_answer_118 (by decide) (fun _ => ?_) (fun h => absurd (ivlt b77 (iv_lit (lo := 2) (hi := 2) 2 (by decide) (by decide)) (by decide)) h)
                obtain ⟨v78, e79⟩ : ∃ w : Int32, w = y1 + (1 : Int32) := ⟨_, rfl⟩
                refine lv_iinc (v := v78) (lv' := [(5, .int v78), (6, .int v13), (4, .int y2), (0, .ref (ad p0)), (1, .int x1), (2, .int x2), (3, .ref (ad 334))]) E.1 E.2.1 dX4_answer_154 hl (k := 1) rfl (by rw [e79]; rfl) (by decide) rfl (fun ls hl => ?_)
                have b80 : iv 1 400 v78 := by rw [e79]; exact iv_add b11 (iv_lit (lo := 1) (hi := 1) 1 (by decide) (by decide)) (by decide) (by decide) (by decide) (by decide)
                have t81 : v78.toInt = y1.toInt + 1 := by rw [e79]; exact ti_addc 1 (by decide) b11 (by decide) (by decide)
                refine lv_goto (tgt := 6) E.1 E.2.1 dX4_answer_157 (by decide) ?_
                exact ih6 zz3 v78 y2 H locs ls G oo4 kk5 (iv_mono b80 (by decide) (by decide)) (iv_mono b77 (by decide) (by decide)) (by have := t81; have := m6; omega) (lv_sub hl [0, 2, 3, 4, 5, 6] rfl)
              · skip
                have b82 : iv 1 61 y2 := le_r (Int32.not_lt.mp c76) (iv_lit (lo := 1) (hi := 1) 1 (by decide) (by decide)) b8 (by decide)
                refine lv_aload_n E.1 E.2.1 dX4_answer_92 rfl (lv_at hl 3 rfl) ?_
                refine t_get E G 4 5 (at_ro (i := 0) ap0 (by decide) : ro p0 = 4) (C := RX4) (T := TX4) (N := 6) rfl (by decide) (by decide) (by decide) mw_fl_4_28 (v := .ref (ad (p0 + 4))) (fvl_o (n := 4) rfl) dX4_answer_93 ?_
                refine lv_iload E.1 E.2.1 dX4_answer_96 (lv_at hl 2 rfl) ?_
                refine lv_iconst (v := 1) E.1 E.2.1 dX4_answer_98 (by decide) ?_
                refine lv_isub E.1 E.2.1 dX4_answer_99 ?_
                refine lv_topi (fun v83 e84 => ?_)
                have b85 : iv 0 60 v83 := by rw [e84]; exact iv_sub b82 (iv_lit (lo := 1) (hi := 1) 1 (by decide) (by decide)) (by decide) (by decide) (by decide) (by decide)
                refine lv_lconst (v := 1) E.1 E.2.1 dX4_answer_100 (by decide) ?_
                refine lv_aload_n E.1 E.2.1 dX4_answer_101 rfl (lv_at hl 3 rfl) ?_
                refine t_get E G 4 5 (at_ro (i := 0) ap0 (by decide) : ro p0 = 4) (C := RX4) (T := TX4) (N := 6) rfl (by decide) (by decide) (by decide) mw_fl_4_28 (v := .ref (ad (p0 + 4))) (fvl_o (n := 4) rfl) dX4_answer_102 ?_
                refine lv_iload E.1 E.2.1 dX4_answer_105 (lv_at hl 2 rfl) ?_
                refine lv_iconst (v := 1) E.1 E.2.1 dX4_answer_107 (by decide) ?_
                refine lv_isub E.1 E.2.1 dX4_answer_108 ?_
                refine lv_topi (fun v86 e87 => ?_)
                have b88 : iv 0 60 v86 := by rw [e87]; exact iv_sub b82 (iv_lit (lo := 1) (hi := 1) 1 (by decide) (by decide)) (by decide) (by decide) (by decide) (by decide)
                refine t_lald E G 33 (at_ro (i := 4) ap0 (by decide) : ro (p0 + 4) = 33) (by decide) (by decide) rfl (n := 61) rfl (iv_vp b88 (by decide) (by decide)) dX4_answer_109 ?_
                refine lv_topl (fun v89 _ => ?_)
                refine lv_lsub E.1 E.2.1 dX4_answer_110 ?_
                refine lv_topl (fun v90 _ => ?_)
                refine t_last E G 33 (at_ro (i := 4) ap0 (by decide) : ro (p0 + 4) = 33) (by decide) (by decide) rfl (n := 61) rfl (iv_vp b85 (by decide) (by decide)) dX4_answer_111 (fun H locs G => ?_)
                obtain ⟨zz91, G, oo92, kk93⟩ : ∃ u : TS, mG D A s H locs (wd K ad u) ∧ Ok u ∧ KC z u := ⟨_, G, ok_l oo4, KC.tr kk5 (KC_l 33 (at_ro (i := 4) ap0 (by decide) : ro (p0 + 4) = 33) (by decide))⟩
                refine lv_goto (tgt := 154) E.1 E.2.1 dX4_answer_112 (by decide) ?_
                obtain ⟨v94, e95⟩ : ∃ w : Int32, w = y1 + (1 : Int32) := ⟨_, rfl⟩
                refine lv_iinc (v := v94) (lv' := [(5, .int v94), (6, .int v13), (4, .int y2), (0, .ref (ad p0)), (1, .int x1), (2, .int x2), (3, .ref (ad 334))]) E.1 E.2.1 dX4_answer_154 hl (k := 1) rfl (by rw [e95]; rfl) (by decide) rfl (fun ls hl => ?_)
                have b96 : iv 1 400 v94 := by rw [e95]; exact iv_add b11 (iv_lit (lo := 1) (hi := 1) 1 (by decide) (by decide)) (by decide) (by decide) (by decide) (by decide)
                have t97 : v94.toInt = y1.toInt + 1 := by rw [e95]; exact ti_addc 1 (by decide) b11 (by decide) (by decide)
                refine lv_goto (tgt := 6) E.1 E.2.1 dX4_answer_157 (by decide) ?_
                exact ih6 zz91 v94 y2 H locs ls G oo92 kk93 (iv_mono b96 (by decide) (by decide)) (iv_mono b82 (by decide) (by decide)) (by have := t97; have := m6; omega) (lv_sub hl [0, 2, 3, 4, 5, 6] rfl)
          · skip
            have b98 : iv 0 10 v13 := lt_l (Int32.not_le.mp c42) b41 (iv_lit (lo := 11) (hi := 11) 11 (by decide) (by decide)) (by decide)
            refine lv_iload E.1 E.2.1 dX4_answer_35 (lv_at hl 2 rfl) ?_
            refine lv_aload_n E.1 E.2.1 dX4_answer_37 rfl (lv_at hl 3 rfl) ?_
            refine t_get E G 4 5 (at_ro (i := 0) ap0 (by decide) : ro p0 = 4) (C := RX4) (T := TX4) (N := 6) rfl (by decide) (by decide) (by decide) mw_fl_4_28 (v := .ref (ad (p0 + 4))) (fvl_o (n := 4) rfl) dX4_answer_38 ?_
            refine t_alen E G 33 2 (at_ro (i := 4) ap0 (by decide) : ro (p0 + 4) = 33) (by decide) (by decide) rfl rfl (v := 61) (by decide) dX4_answer_41 ?_
            refine lv_icmp_ge (tgt := 154) E.1 E.2.1 dX4_answer_42 (by decide) (fun c99 => ?_) (fun c99 => ?_)
            · skip
              have b100 : iv 61 61 y2 := le_r c99 (iv_lit (lo := 61) (hi := 61) 61 (by decide) (by decide)) b8 (by decide)
              obtain ⟨v101, e102⟩ : ∃ w : Int32, w = y1 + (1 : Int32) := ⟨_, rfl⟩
              refine lv_iinc (v := v101) (lv' := [(5, .int v101), (6, .int v13), (4, .int y2), (0, .ref (ad p0)), (1, .int x1), (2, .int x2), (3, .ref (ad 334))]) E.1 E.2.1 dX4_answer_154 hl (k := 1) rfl (by rw [e102]; rfl) (by decide) rfl (fun ls hl => ?_)
              have b103 : iv 1 400 v101 := by rw [e102]; exact iv_add b11 (iv_lit (lo := 1) (hi := 1) 1 (by decide) (by decide)) (by decide) (by decide) (by decide) (by decide)
              have t104 : v101.toInt = y1.toInt + 1 := by rw [e102]; exact ti_addc 1 (by decide) b11 (by decide) (by decide)
              refine lv_goto (tgt := 6) E.1 E.2.1 dX4_answer_157 (by decide) ?_
              exact ih6 zz3 v101 y2 H locs ls G oo4 kk5 (iv_mono b103 (by decide) (by decide)) (iv_mono b100 (by decide) (by decide)) (by have := t104; have := m6; omega) (lv_sub hl [0, 2, 3, 4, 5, 6] rfl)
            · skip
              have b105 : iv 0 60 y2 := lt_l (Int32.not_le.mp c99) b8 (iv_lit (lo := 61) (hi := 61) 61 (by decide) (by decide)) (by decide)
              refine lv_aload_n E.1 E.2.1 dX4_answer_45 rfl (lv_at hl 3 rfl) ?_
              refine t_get E G 4 5 (at_ro (i := 0) ap0 (by decide) : ro p0 = 4) (C := RX4) (T := TX4) (N := 6) rfl (by decide) (by decide) (by decide) mw_fl_4_28 (v := .ref (ad (p0 + 4))) (fvl_o (n := 4) rfl) dX4_answer_46 ?_
              refine lv_iload E.1 E.2.1 dX4_answer_49 (lv_at hl 2 rfl) ?_
              refine lv_iload E.1 E.2.1 dX4_answer_51 (lv_at hl 0 rfl) ?_
              refine lv_bipush (v := 64) E.1 E.2.1 dX4_answer_53 (by decide) ?_
              refine lv_icmp_lt (tgt := 67) E.1 E.2.1 dX4_answer_55 (by decide) (fun _ => ?_) (fun h => absurd (ivlt b98 (iv_lit (lo := 64) (hi := 64) 64 (by decide) (by decide)) (by decide)) h)
              refine lv_aload_n E.1 E.2.1 dX4_answer_67 rfl (lv_at hl 6 rfl) ?_
              refine lv_iload E.1 E.2.1 dX4_answer_68 (lv_at hl 0 rfl) ?_
              refine t_iald E G 41 (rfl : ro 334 = 41) (by decide) (by decide) rfl (n := 11) rfl (iv_vp b98 (by decide) (by decide)) dX4_answer_70 ?_
              refine lv_topi (fun v106 e107 => ?_)
              refine lv_i2l E.1 E.2.1 dX4_answer_71 rfl ?_
              refine lv_topl (fun v108 e109 => ?_)
              refine t_last E G 33 (at_ro (i := 4) ap0 (by decide) : ro (p0 + 4) = 33) (by decide) (by decide) rfl (n := 61) rfl (iv_vp b105 (by decide) (by decide)) dX4_answer_72 (fun H locs G => ?_)
              obtain ⟨zz110, G, oo111, kk112⟩ : ∃ u : TS, mG D A s H locs (wd K ad u) ∧ Ok u ∧ KC z u := ⟨_, G, ok_l oo4, KC.tr kk5 (KC_l 33 (at_ro (i := 4) ap0 (by decide) : ro (p0 + 4) = 33) (by decide))⟩
              obtain ⟨v113, e114⟩ : ∃ w : Int32, w = y2 + (1 : Int32) := ⟨_, rfl⟩
              refine lv_iinc (v := v113) (lv' := [(4, .int v113), (6, .int v13), (5, .int y1), (0, .ref (ad p0)), (1, .int x1), (2, .int x2), (3, .ref (ad 334))]) E.1 E.2.1 dX4_answer_73 hl (k := 2) rfl (by rw [e114]; rfl) (by decide) rfl (fun ls hl => ?_)
              have b115 : iv 1 61 v113 := by rw [e114]; exact iv_add b105 (iv_lit (lo := 1) (hi := 1) 1 (by decide) (by decide)) (by decide) (by decide) (by decide) (by decide)
              have t116 : v113.toInt = y2.toInt + 1 := by rw [e114]; exact ti_addc 1 (by decide) b105 (by decide) (by decide)
              refine lv_goto (tgt := 154) E.1 E.2.1 dX4_answer_76 (by decide) ?_
              obtain ⟨v117, e118⟩ : ∃ w : Int32, w = y1 + (1 : Int32) := ⟨_, rfl⟩
              refine lv_iinc (v := v117) (lv' := [(5, .int v117), (4, .int v113), (6, .int v13), (0, .ref (ad p0)), (1, .int x1), (2, .int x2), (3, .ref (ad 334))]) E.1 E.2.1 dX4_answer_154 hl (k := 2) rfl (by rw [e118]; rfl) (by decide) rfl (fun ls hl => ?_)
              have b119 : iv 1 400 v117 := by rw [e118]; exact iv_add b11 (iv_lit (lo := 1) (hi := 1) 1 (by decide) (by decide)) (by decide) (by decide) (by decide) (by decide)
              have t120 : v117.toInt = y1.toInt + 1 := by rw [e118]; exact ti_addc 1 (by decide) b11 (by decide) (by decide)
              refine lv_goto (tgt := 6) E.1 E.2.1 dX4_answer_157 (by decide) ?_
              exact ih6 zz110 v117 v113 H locs ls G oo111 kk112 (iv_mono b119 (by decide) (by decide)) (iv_mono b115 (by decide) (by decide)) (by have := t120; have := m6; omega) (lv_sub hl [0, 1, 3, 4, 5, 6] rfl)
  exact LOOP6 401 z x1 0 H locs ls G o KC.rf (iv_mono bx1 (by decide) (by decide)) (iv_mono (iv_lit (lo := 0) (hi := 0) 0 (by decide) (by decide)) (by decide) (by decide)) (by have := bx1.1; omega) (lv_sub hl [0, 1, 2, 3, 4, 5] rfl)
