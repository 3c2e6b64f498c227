theorem mw_cL_11_207 : (Cond.constantLong RX11 207 (6385252) : Cond) ∈ cw := cw_of (List.mem_append_right _ (List.mem_append_right _ (List.mem_append_right _ (List.mem_append_right _ (List.mem_append_right _ (List.mem_append_right _ (List.mem_append_left _ (List.mem_of_getElem? (i := 144) (by decide +kernel))))))))) (by decide +kernel)
theorem mw_cL_11_209 : (Cond.constantLong RX11 209 (28530) : Cond) ∈ cw := cw_of (List.mem_append_right _ (List.mem_append_right _ (List.mem_append_right _ (List.mem_append_right _ (List.mem_append_right _ (List.mem_append_right _ (List.mem_append_left _ (List.mem_of_getElem? (i := 145) (by decide +kernel))))))))) (by decide +kernel)
theorem mw_code_X11_closes : (Cond.code yX11_closes cX11_closes 1 none : Cond) ∈ cw := cw_of (List.mem_append_right _ (List.mem_append_right _ (List.mem_append_right _ (List.mem_append_right _ (List.mem_append_right _ (List.mem_append_right _ (List.mem_append_left _ (List.mem_of_getElem? (i := 132) rfl)))))))) (by decide +kernel)
theorem mw_code_X11_fact : (Cond.code yX11_fact cX11_fact 3 (some .boolean) : Cond) ∈ cw := cw_of (List.mem_append_right _ (List.mem_append_right _ (List.mem_append_right _ (List.mem_append_right _ (List.mem_append_right _ (List.mem_append_right _ (List.mem_append_left _ (List.mem_of_getElem? (i := 119) rfl)))))))) (by decide +kernel)
theorem mw_inst_X11_closes : (Cond.instanceMethod yX11_closes : Cond) ∈ cw := cw_of (List.mem_append_right _ (List.mem_append_right _ (List.mem_append_right _ (List.mem_append_right _ (List.mem_append_right _ (List.mem_append_right _ (List.mem_append_left _ (List.mem_of_getElem? (i := 131) (by decide +kernel))))))))) (by decide +kernel)
theorem mw_inst_X11_fact : (Cond.instanceMethod yX11_fact : Cond) ∈ cw := cw_of (List.mem_append_right _ (List.mem_append_right _ (List.mem_append_right _ (List.mem_append_right _ (List.mem_append_right _ (List.mem_append_right _ (List.mem_append_left _ (List.mem_of_getElem? (i := 118) (by decide +kernel))))))))) (by decide +kernel)
theorem mw_ml_11_201 : (Cond.methodLink RX11 201 yX11_fact : Cond) ∈ cw := cw_of (List.mem_append_right _ (List.mem_append_right _ (List.mem_append_right _ (List.mem_append_right _ (List.mem_append_right _ (List.mem_append_right _ (List.mem_append_left _ (List.mem_of_getElem? (i := 116) (by decide +kernel))))))))) (by decide +kernel)
theorem mw_ml_11_204 : (Cond.methodLink RX11 204 yX11_closes : Cond) ∈ cw := cw_of (List.mem_append_right _ (List.mem_append_right _ (List.mem_append_right _ (List.mem_append_right _ (List.mem_append_right _ (List.mem_append_right _ (List.mem_append_left _ (List.mem_of_getElem? (i := 129) (by decide +kernel))))))))) (by decide +kernel)
theorem mw_sel_X11_closes : (Cond.selects RX11 yX11_closes yX11_closes : Cond) ∈ cw := cw_of (List.mem_append_left _ (List.mem_of_getElem? (i := 76) (by decide +kernel))) (by decide +kernel)
theorem mw_sel_X11_fact : (Cond.selects RX11 yX11_fact yX11_fact : Cond) ∈ cw := cw_of (List.mem_append_left _ (List.mem_of_getElem? (i := 73) (by decide +kernel))) (by decide +kernel)
theorem dX11_tested_0 : decode cX11_tested 0 = .ok (.aload_n 0, 1) := by decide +kernel
theorem dX11_tested_1 : decode cX11_tested 1 = .ok (.iconst 0, 1) := by decide +kernel
theorem dX11_tested_2 : decode cX11_tested 2 = .ok (.putfield 156, 3) := by decide +kernel
theorem dX11_tested_5 : decode cX11_tested 5 = .ok (.aload_n 0, 1) := by decide +kernel
theorem dX11_tested_6 : decode cX11_tested 6 = .ok (.iconst 0, 1) := by decide +kernel
theorem dX11_tested_7 : decode cX11_tested 7 = .ok (.putfield 153, 3) := by decide +kernel
theorem dX11_tested_10 : decode cX11_tested 10 = .ok (.iconst 1, 1) := by decide +kernel
theorem dX11_tested_11 : decode cX11_tested 11 = .ok (.istore_n 1, 1) := by decide +kernel
theorem dX11_tested_12 : decode cX11_tested 12 = .ok (.iload_n 1, 1) := by decide +kernel
theorem dX11_tested_13 : decode cX11_tested 13 = .ok (.ifCond .eq 99, 3) := by decide +kernel
theorem dX11_tested_16 : decode cX11_tested 16 = .ok (.aload_n 0, 1) := by decide +kernel
theorem dX11_tested_17 : decode cX11_tested 17 = .ok (.invokevirtual 201, 3) := by decide +kernel
theorem dX11_tested_20 : decode cX11_tested 20 = .ok (.ifCond .ne 5, 3) := by decide +kernel
theorem dX11_tested_23 : decode cX11_tested 23 = .ok (.iconst 0, 1) := by decide +kernel
theorem dX11_tested_24 : decode cX11_tested 24 = .ok (.ireturn, 1) := by decide +kernel
theorem dX11_tested_25 : decode cX11_tested 25 = .ok (.aload_n 0, 1) := by decide +kernel
theorem dX11_tested_26 : decode cX11_tested 26 = .ok (.invokevirtual 204, 3) := by decide +kernel
theorem dX11_tested_29 : decode cX11_tested 29 = .ok (.aload_n 0, 1) := by decide +kernel
theorem dX11_tested_30 : decode cX11_tested 30 = .ok (.ldc2_w 207, 3) := by decide +kernel
theorem dX11_tested_33 : decode cX11_tested 33 = .ok (.invokevirtual 104, 3) := by decide +kernel
theorem dX11_tested_36 : decode cX11_tested 36 = .ok (.ifCond .ne 13, 3) := by decide +kernel
theorem dX11_tested_39 : decode cX11_tested 39 = .ok (.aload_n 0, 1) := by decide +kernel
theorem dX11_tested_40 : decode cX11_tested 40 = .ok (.ldc2_w 209, 3) := by decide +kernel
theorem dX11_tested_43 : decode cX11_tested 43 = .ok (.invokevirtual 104, 3) := by decide +kernel
theorem dX11_tested_46 : decode cX11_tested 46 = .ok (.ifCond .eq 7, 3) := by decide +kernel
theorem dX11_tested_49 : decode cX11_tested 49 = .ok (.iconst 1, 1) := by decide +kernel
theorem dX11_tested_50 : decode cX11_tested 50 = .ok (.goto 4, 3) := by decide +kernel
theorem dX11_tested_53 : decode cX11_tested 53 = .ok (.iconst 0, 1) := by decide +kernel
theorem dX11_tested_54 : decode cX11_tested 54 = .ok (.istore_n 1, 1) := by decide +kernel
theorem dX11_tested_55 : decode cX11_tested 55 = .ok (.iload_n 1, 1) := by decide +kernel
theorem dX11_tested_56 : decode cX11_tested 56 = .ok (.ifCond .eq (-44), 3) := by decide +kernel
theorem dX11_tested_59 : decode cX11_tested 59 = .ok (.aload_n 0, 1) := by decide +kernel
theorem dX11_tested_60 : decode cX11_tested 60 = .ok (.ldc2_w 207, 3) := by decide +kernel
theorem dX11_tested_63 : decode cX11_tested 63 = .ok (.invokevirtual 104, 3) := by decide +kernel
theorem dX11_tested_66 : decode cX11_tested 66 = .ok (.ifCond .eq 8, 3) := by decide +kernel
theorem dX11_tested_69 : decode cX11_tested 69 = .ok (.bipush 12, 2) := by decide +kernel
theorem dX11_tested_71 : decode cX11_tested 71 = .ok (.goto 5, 3) := by decide +kernel
theorem dX11_tested_74 : decode cX11_tested 74 = .ok (.bipush 13, 2) := by decide +kernel
theorem dX11_tested_76 : decode cX11_tested 76 = .ok (.istore_n 2, 1) := by decide +kernel
theorem dX11_tested_77 : decode cX11_tested 77 = .ok (.aload_n 0, 1) := by decide +kernel
theorem dX11_tested_78 : decode cX11_tested 78 = .ok (.invokevirtual 108, 3) := by decide +kernel
theorem dX11_tested_81 : decode cX11_tested 81 = .ok (.aload_n 0, 1) := by decide +kernel
theorem dX11_tested_82 : decode cX11_tested 82 = .ok (.iload_n 2, 1) := by decide +kernel
theorem dX11_tested_83 : decode cX11_tested 83 = .ok (.invokestatic 159, 3) := by decide +kernel
theorem dX11_tested_86 : decode cX11_tested 86 = .ok (.invokevirtual 195, 3) := by decide +kernel
theorem dX11_tested_89 : decode cX11_tested 89 = .ok (.aload_n 0, 1) := by decide +kernel
theorem dX11_tested_90 : decode cX11_tested 90 = .ok (.getfield 29, 3) := by decide +kernel
theorem dX11_tested_93 : decode cX11_tested 93 = .ok (.aload_n 0, 1) := by decide +kernel
theorem dX11_tested_94 : decode cX11_tested 94 = .ok (.getfield 156, 3) := by decide +kernel
theorem dX11_tested_97 : decode cX11_tested 97 = .ok (.iload_n 2, 1) := by decide +kernel
theorem dX11_tested_98 : decode cX11_tested 98 = .ok (.iastore, 1) := by decide +kernel
theorem dX11_tested_99 : decode cX11_tested 99 = .ok (.aload_n 0, 1) := by decide +kernel
theorem dX11_tested_100 : decode cX11_tested 100 = .ok (.dup, 1) := by decide +kernel
theorem dX11_tested_101 : decode cX11_tested 101 = .ok (.getfield 156, 3) := by decide +kernel
theorem dX11_tested_104 : decode cX11_tested 104 = .ok (.iconst 1, 1) := by decide +kernel
theorem dX11_tested_105 : decode cX11_tested 105 = .ok (.iadd, 1) := by decide +kernel
theorem dX11_tested_106 : decode cX11_tested 106 = .ok (.putfield 156, 3) := by decide +kernel
theorem dX11_tested_109 : decode cX11_tested 109 = .ok (.goto (-97), 3) := by decide +kernel
theorem dX11_tested_112 : decode cX11_tested 112 = .ok (.aload_n 0, 1) := by decide +kernel
theorem dX11_tested_113 : decode cX11_tested 113 = .ok (.invokevirtual 198, 3) := by decide +kernel
theorem dX11_tested_116 : decode cX11_tested 116 = .ok (.ifCond .eq 18, 3) := by decide +kernel
theorem dX11_tested_119 : decode cX11_tested 119 = .ok (.aload_n 0, 1) := by decide +kernel
theorem dX11_tested_120 : decode cX11_tested 120 = .ok (.invokevirtual 96, 3) := by decide +kernel
theorem dX11_tested_123 : decode cX11_tested 123 = .ok (.pop, 1) := by decide +kernel
theorem dX11_tested_124 : decode cX11_tested 124 = .ok (.aload_n 0, 1) := by decide +kernel
theorem dX11_tested_125 : decode cX11_tested 125 = .ok (.iconst 0, 1) := by decide +kernel
theorem dX11_tested_126 : decode cX11_tested 126 = .ok (.aload_n 0, 1) := by decide +kernel
theorem dX11_tested_127 : decode cX11_tested 127 = .ok (.getfield 93, 3) := by decide +kernel
theorem dX11_tested_130 : decode cX11_tested 130 = .ok (.invokevirtual 114, 3) := by decide +kernel
theorem dX11_tested_133 : decode cX11_tested 133 = .ok (.ireturn, 1) := by decide +kernel
theorem dX11_tested_134 : decode cX11_tested 134 = .ok (.aload_n 0, 1) := by decide +kernel
theorem dX11_tested_135 : decode cX11_tested 135 = .ok (.iconst 1, 1) := by decide +kernel
theorem dX11_tested_136 : decode cX11_tested 136 = .ok (.invokevirtual 195, 3) := by decide +kernel
theorem dX11_tested_139 : decode cX11_tested 139 = .ok (.iconst 1, 1) := by decide +kernel
theorem dX11_tested_140 : decode cX11_tested 140 = .ok (.ireturn, 1) := by decide +kernel
theorem hd_X11_closes : yX11_closes.cls ≠ "java/lang/invoke/MethodHandle" ∧ yX11_closes.cls ≠ "java/lang/invoke/VarHandle" ∧ (parseMethodDescriptor yX11_closes.desc).map (fun d => d.parameters.length) = some 0 := ⟨by decide +kernel, by decide +kernel, by decide +kernel⟩
theorem hd_X11_fact : yX11_fact.cls ≠ "java/lang/invoke/MethodHandle" ∧ yX11_fact.cls ≠ "java/lang/invoke/VarHandle" ∧ (parseMethodDescriptor yX11_fact.desc).map (fun d => d.parameters.length) = some 0 := ⟨by decide +kernel, by decide +kernel, by decide +kernel⟩
set_option maxHeartbeats 4000000 in
set_option maxRecDepth 100000 in
theorem v_tested (l : Launch) (D : va_G) (K : Nat → ClassId) (ad : Nat → Nat) (z : TS) (o : Ok z) (hp : PIx z) (hs : 0 ≤ SLk z) : cI l yX11_tested cX11_tested 3 .boolean ({ frames := 8, cells := 0, slots := 0, locals := 176 }) D K ad z [.ref (ad 386)] (fun r u => Ok u ∧ KP2 z u ∧ iv 0 1 r ∧ (Scx z u) ∧ (PIx u) ∧ (SLk z ≤ SLk u) ∧ (¬ r = 0 → Gd 1 0 z u)) := by
  have sc0 : Scx z z := Scx.rf hp.2.1
  refine t_enterI (by decide) (Nat.le_of_ble_eq_true rfl) rfl rfl ?_
  intro p e s m args below meth c A R Q H locs ls E hfr hlo RET G hl
  have E : mE p s m meth c cX11_tested args 3 RX11 D K A := E
  have hl : lv_has ls 3 [(0, .ref (ad 386))] := hl
  refine lv_aload_n E.1 E.2.1 dX11_tested_0 rfl (lv_at hl 0 rfl) ?_
  refine lv_iconst (v := 0) E.1 E.2.1 dX11_tested_1 (by decide) ?_
  refine t_puti E G 11 16 (rfl : ro 386 = 11) (C := RX11) (T := TX11) (N := 37) rfl (by decide) (by decide) (by decide) rfl rfl mw_fl_11_156 rfl dX11_tested_2 (fun H locs G => ?_)
  obtain ⟨zz5, G, oo6, kk7, h8, h1, h2, h3, h4⟩ : ∃ u : TS, mG D A s H locs (wd K ad u) ∧ Ok u ∧ KP2 z u ∧ tI u 386 16 = 0 ∧ (PIx u) ∧ (SLk z + 0 ≤ SO u) ∧ (Gd (cn u + 0) 0 z u) ∧ (Scx z u) := ⟨_, G, ok_i o 11 (rfl : ro 386 = 11) (iv_lit 0 (by decide) (by decide)) (by decide), KPf.tr KPf.rf (KPf_i 11 (rfl : ro 386 = 11) (by decide)), sI_self, (pi_q hp (Same.i (by decide)) hp.2.1 rfl rfl), so_zero, (by rw [cn_zero]; exact Gd.sm Gd.rf (Same.i (by decide))), sc0⟩
  refine lv_aload_n E.1 E.2.1 dX11_tested_5 rfl (lv_at hl 0 rfl) ?_
  refine lv_iconst (v := 0) E.1 E.2.1 dX11_tested_6 (by decide) ?_
  refine t_puti E G 11 13 (rfl : ro 386 = 11) (C := RX11) (T := TX11) (N := 37) rfl (by decide) (by decide) (by decide) rfl rfl mw_fl_11_153 rfl dX11_tested_7 (fun H locs G => ?_)
  obtain ⟨zz13, G, oo14, kk15, h16, h17, h9, h10, h11, h12⟩ : ∃ u : TS, mG D A s H locs (wd K ad u) ∧ Ok u ∧ KP2 z u ∧ tI u 386 16 = 0 ∧ tI u 386 13 = 0 ∧ (Scx z u) ∧ (PIx u) ∧ (SLk z + 0 ≤ SO u) ∧ (Gd (cn u + 0) 0 z u) := ⟨_, G, ok_i oo6 11 (rfl : ro 386 = 11) (iv_mono (iv_lit (lo := 0) (hi := 0) 0 (by decide) (by decide)) (by decide) (by decide)) (by decide), KPf.tr kk7 (KPf_i 11 (rfl : ro 386 = 11) (by decide)), (sI_k h8 (by decide)), sI_self, h4, (pi_q h1 (Same.i (by decide)) h4.1 rfl rfl), (so_q 0 h2 (Same.i (by decide)) rfl (by show (tI zz5 386 8).toInt + 0 ≤ (tI zz5 386 8).toInt; omega) (by decide)), (Gd.sm h3 (Same.i (by decide)))⟩
  refine lv_iconst (v := 1) E.1 E.2.1 dX11_tested_10 (by decide) ?_
  refine lv_istore_n (lv' := [(1, .int 1), (0, .ref (ad 386))]) E.1 E.2.1 dX11_tested_11 rfl hl (by decide) rfl (fun ls hl => ?_)
  have LOOP12 : ∀ n : Nat, ∀ (zz19 : TS) (y18 : Int32) (H : Heap) (locs : List Loc) (ls : Array Slot), mG D A s H locs (wd K ad zz19) → Ok zz19 → KP2 z zz19 → iv 0 1 y18 → Scx z zz19 → PIx zz19 → SLk z + 0 ≤ SO zz19 → Gd (cn zz19 + 1 - y18.toInt) 0 z zz19 → 800 + y18.toInt < 2 * (tI zz19 386 8).toInt + (n : Int) → lv_has ls 3 [(1, .int y18), (0, .ref (ad 386))] → W p l e R s m args below meth c H locs 0 0 Q (F0 m 12 ls []) := by
    intro n
    induction n with
    | zero =>
      intro zz19 y18 H locs ls G oo20 kk21 b23 h24 h25 h26 h27 m22 hl
      exact absurd m22 (by have := (oo20.i (j := 386) 11 8 rfl).2; have e : ihi 11 8 = 400 := (by decide); have := b23.1; omega)
    | succ n ih12 =>
      intro zz19 y18 H locs ls G oo20 kk21 b23 h24 h25 h26 h27 m22 hl
      refine lv_iload_n E.1 E.2.1 dX11_tested_12 rfl (lv_at hl 0 rfl) ?_
      have scl28 : Scx zz19 zz19 := Scx.rf h24.1
      refine lv_if_eq (tgt := 112) E.1 E.2.1 dX11_tested_13 (by decide) (fun c29 => ?_) (fun c29 => ?_)
      · skip
        have b30 : iv 0 0 y18 := iv_eq c29 (iv_lit (lo := 0) (hi := 0) 0 (by decide) (by decide))
        have h31 : Gd (cn zz19 + 1) 0 z zz19 := Gd.wk h27 (by have h1 := b30.1; have h2 := b30.2; omega) (Int.le_refl _)
        refine lv_aload_n E.1 E.2.1 dX11_tested_112 rfl (lv_at hl 1 rfl) ?_
        refine t_vi E G hl (v_isInside l D K ad zz19 oo20) 11 (rfl : ro 386 = 11) (by decide) rfl rfl 0 rfl mw_code_X11_isInside mw_ini_11 mw_ml_11_198 mw_inst_X11_isInside mw_sel_X11_isInside hd_X11_isInside ⟨Nat.le_trans (by decide) hfr, Nat.le_trans (by decide) hlo⟩ rfl rfl rfl (Nat.le_of_ble_eq_true rfl) dX11_tested_113 (fun r33 zz32 H locs hp34 G => ?_)
        obtain ⟨hz37, b35, h36⟩ := hp34
        rw [hz37] at G
        refine lv_if_eq (tgt := 134) E.1 E.2.1 dX11_tested_116 (by decide) (fun c38 => ?_) (fun c38 => ?_)
        · skip
          have b39 : iv 0 0 r33 := iv_eq c38 (iv_lit (lo := 0) (hi := 0) 0 (by decide) (by decide))
          refine lv_aload_n E.1 E.2.1 dX11_tested_134 rfl (lv_at hl 1 rfl) ?_
          refine lv_iconst (v := 1) E.1 E.2.1 dX11_tested_135 (by decide) ?_
          refine t_vv E G hl (v_layDown l D K ad zz19 oo20 (1 : Int32) (iv_mono (iv_lit (lo := 1) (hi := 1) 1 (by decide) (by decide)) (by decide) (by decide)) h25 (by have h1 := hs; have h2 := h26; omega)) 11 (rfl : ro 386 = 11) (by decide) rfl rfl 1 rfl mw_code_X11_layDown mw_ini_11 mw_ml_11_195 mw_inst_X11_layDown mw_sel_X11_layDown hd_X11_layDown ⟨Nat.le_trans (by decide) hfr, Nat.le_trans (by decide) hlo⟩ rfl rfl rfl (Nat.le_of_ble_eq_true rfl) dX11_tested_136 (fun zz40 H locs hp42 G => ?_)
          obtain ⟨oo43, kk44, h45, h46, h47, h48, h49⟩ := hp42
          have kk50 : KP2 z zz40 := KPf.tr kk21 (KPL.p2 kk44)
          have h51 := Scx.tr h24 (scx_p h24.1 kk44 rfl rfl)
          have h52 := Scx.tr scl28 (scx_p scl28.1 kk44 rfl rfl)
          have h53 : SLk z + 0 ≤ SO zz40 := by have h1 := h26; have h2 := h46; omega
          have h54 := cn_nn zz40
          have h55 := h47.1
          have h56 : Gd (cn zz40 + 1) 0 z zz40 := Gd.tr h31 kk21 h47.2 (by omega) (by omega)
          refine lv_iconst (v := 1) E.1 E.2.1 dX11_tested_139 (by decide) ?_
          exact RET G ⟨oo43, kk50, (iv_mono (iv_lit (lo := 1) (hi := 1) 1 (by decide) (by decide)) (by decide) (by decide)), h51, h45, (by have h := h53; have h2 := (oo43.i (j := 386) 11 16 rfl).1; have e : ilo 11 16 = 0 := (by decide); unfold SO at h; omega), (fun _ => Gd.wk h56 (by have h := cn_nn zz40; omega) (Int.le_refl _))⟩ (by decide) dX11_tested_140
        · skip
          have b57 : iv 1 1 r33 := ne_lo c38 b35 (by decide) (by decide)
          refine lv_aload_n E.1 E.2.1 dX11_tested_119 rfl (lv_at hl 1 rfl) ?_
          refine t_vi E G hl (v_see l D K ad zz19 oo20 h24.1) 11 (rfl : ro 386 = 11) (by decide) rfl rfl 0 rfl mw_code_X11_see mw_ini_11 mw_ml_11_96 mw_inst_X11_see mw_sel_X11_see hd_X11_see ⟨Nat.le_trans (by decide) hfr, Nat.le_trans (by decide) hlo⟩ rfl rfl rfl (Nat.le_of_ble_eq_true rfl) dX11_tested_120 (fun r59 zz58 H locs hp60 G => ?_)
          obtain ⟨oo61, kk62, b63, h64, h65, h66, h67⟩ := hp60
          have kk68 : KP2 z zz58 := KPf.tr kk21 (KN8.p2 kk62)
          have h69 := Scx.tr h24 h64
          have h70 := Scx.tr scl28 h64
          have sm71 := Same.of kk62 rfl rfl rfl
          have h72 : PIx zz58 := pi_q h25 sm71 h69.1 (kk62.1 386 12 rfl) (kk62.1 386 11 rfl)
          have h73 : SLk z + 0 ≤ SO zz58 := so_q 0 h26 sm71 (kk62.1 386 16 rfl) (by have h := h64.2; omega) (by decide)
          have h74 : cn zz58 = cn zz19 := cn_k (kk62.1 386 16 rfl) (kk62.2.1 393 rfl).1
          have h75 : Gd (cn zz58 + 1) 0 z zz58 := by rw [h74]; exact Gd.sm h31 sm71
          refine lv_pop E.1 E.2.1 dX11_tested_123 rfl ?_
          refine lv_aload_n E.1 E.2.1 dX11_tested_124 rfl (lv_at hl 1 rfl) ?_
          refine lv_iconst (v := 0) E.1 E.2.1 dX11_tested_125 (by decide) ?_
          refine lv_aload_n E.1 E.2.1 dX11_tested_126 rfl (lv_at hl 1 rfl) ?_
          refine t_get E G 11 8 (rfl : ro 386 = 11) (C := RX11) (T := TX11) (N := 37) rfl (by decide) (by decide) (by decide) mw_fl_11_93 (fvl_i rfl) dX11_tested_127 ?_
          refine lv_topi (fun v76 e77 => ?_)
          have b78 : iv 0 400 v76 := by rw [e77]; exact oo61.i 11 8 (rfl : ro 386 = 11)
          refine t_vi E G hl (v_fails l D K ad zz58 oo61 (0 : Int32) v76) 11 (rfl : ro 386 = 11) (by decide) rfl rfl 2 rfl mw_code_X11_fails mw_ini_11 mw_ml_11_114 mw_inst_X11_fails mw_sel_X11_fails hd_X11_fails ⟨Nat.le_trans (by decide) hfr, Nat.le_trans (by decide) hlo⟩ rfl rfl rfl (Nat.le_of_ble_eq_true rfl) dX11_tested_130 (fun r80 zz79 H locs hp81 G => ?_)
          obtain ⟨oo82, kk83, b84⟩ := hp81
          have kk85 : KP2 z zz79 := KPf.tr kk68 (KA9.p2 kk83)
          have h86 : tI zz79 386 8 = v76 := KF.i kk83 11 (rfl : ro 386 = 11) (by decide) e77.symm
          have h87 := Scx.tr h69 (Scx.k h69.1 kk83 rfl rfl)
          have h88 := Scx.tr h70 (Scx.k h70.1 kk83 rfl rfl)
          have sm89 := Same.of kk83 rfl rfl rfl
          have h90 : PIx zz79 := pi_q h72 sm89 h87.1 (kk83.1 386 12 rfl) (kk83.1 386 11 rfl)
          have h91 : SLk z + 0 ≤ SO zz79 := so_q 0 h73 sm89 (kk83.1 386 16 rfl) (by rw [kk83.1 386 8 rfl]; omega) (by decide)
          have h92 : cn zz79 = cn zz58 := cn_k (kk83.1 386 16 rfl) (kk83.2.1 393 rfl).1
          have h93 : Gd (cn zz79 + 1) 0 z zz79 := by rw [h92]; exact Gd.sm h75 sm89
          exact RET G ⟨oo82, kk85, (iv_mono b84 (by decide) (by decide)), h87, h90, (by have h := h91; have h2 := (oo82.i (j := 386) 11 16 rfl).1; have e : ilo 11 16 = 0 := (by decide); unfold SO at h; omega), (fun h => absurd (zero_of b84) h)⟩ (nar_b b84) dX11_tested_133
      · skip
        have b94 : iv 1 1 y18 := ne_lo c29 b23 (by decide) (by decide)
        have h95 : Gd (cn zz19 + 0) 0 z zz19 := Gd.wk h27 (by have h1 := b94.1; have h2 := b94.2; omega) (Int.le_refl _)
        refine lv_aload_n E.1 E.2.1 dX11_tested_16 rfl (lv_at hl 1 rfl) ?_
        refine t_vi E G hl (v_fact l D K ad zz19 oo20 h25 (by have h1 := hs; have h2 := h26; omega)) 11 (rfl : ro 386 = 11) (by decide) rfl rfl 0 rfl mw_code_X11_fact mw_ini_11 mw_ml_11_201 mw_inst_X11_fact mw_sel_X11_fact hd_X11_fact ⟨Nat.le_trans (by decide) hfr, Nat.le_trans (by decide) hlo⟩ rfl rfl rfl (Nat.le_of_ble_eq_true rfl) dX11_tested_17 (fun r97 zz96 H locs hp98 G => ?_)
        obtain ⟨oo99, kk100, b101, h102, h103, h104, h105⟩ := hp98
        have kk106 : KP2 z zz96 := KPf.tr kk21 kk100
        have h107 := Scx.tr h24 h102
        have h108 := Scx.tr scl28 h102
        have h109 : SLk z + 0 ≤ SO zz96 := by have h1 := h26; have h2 := h104; omega
        refine lv_if_ne (tgt := 25) E.1 E.2.1 dX11_tested_20 (by decide) (fun c110 => ?_) (fun c110 => ?_)
        · skip
          have b111 : iv 1 1 r97 := ne_lo c110 b101 (by decide) (by decide)
          have h112 : Gd (cn zz96 + 1) 0 z zz96 := by rw [(h105 c110).2]; exact Gd.tr h95 kk21 (h105 c110).1 (by have h := cn_nn zz19; omega) (by omega)
          refine lv_aload_n E.1 E.2.1 dX11_tested_25 rfl (lv_at hl 1 rfl) ?_
          refine t_vv E G hl (v_closes l D K ad zz96 oo99 h103 (by have h1 := hs; have h2 := h109; omega)) 11 (rfl : ro 386 = 11) (by decide) rfl rfl 0 rfl mw_code_X11_closes mw_ini_11 mw_ml_11_204 mw_inst_X11_closes mw_sel_X11_closes hd_X11_closes ⟨Nat.le_trans (by decide) hfr, Nat.le_trans (by decide) hlo⟩ rfl rfl rfl (Nat.le_of_ble_eq_true rfl) dX11_tested_26 (fun zz113 H locs hp115 G => ?_)
          obtain ⟨oo116, kk117, h118, h119, h120, h121⟩ := hp115
          have kk122 : KP2 z zz113 := KPf.tr kk106 kk117
          have h123 := Scx.tr h107 h118
          have h124 := Scx.tr h108 h118
          have h125 : SLk z + 0 ≤ SO zz113 := by have h1 := h109; have h2 := h120; omega
          have h126 := cn_nn zz113
          have h127 := h121.1
          have h128 : Gd (cn zz113 + 1) 0 z zz113 := Gd.tr h112 kk106 h121.2 (by omega) (by omega)
          refine lv_aload_n E.1 E.2.1 dX11_tested_29 rfl (lv_at hl 1 rfl) ?_
          refine lv_ldc2 (v := 6385252) E.1 E.2.1 E.2.2.2.1 (E.2.2.2.2.1 _ mw_cL_11_207) dX11_tested_30 ?_
          refine t_vi E G hl (v_isWord l D K ad zz113 oo116 6385252 h123.1) 11 (rfl : ro 386 = 11) (by decide) rfl rfl 1 rfl mw_code_X11_isWord mw_ini_11 mw_ml_11_104 mw_inst_X11_isWord mw_sel_X11_isWord hd_X11_isWord ⟨Nat.le_trans (by decide) hfr, Nat.le_trans (by decide) hlo⟩ rfl rfl rfl (Nat.le_of_ble_eq_true rfl) dX11_tested_33 (fun r130 zz129 H locs hp131 G => ?_)
          obtain ⟨oo132, kk133, b134, h135, h136, h137, h138⟩ := hp131
          have kk139 : KP2 z zz129 := KPf.tr kk122 (KN8.p2 kk133)
          have h140 := Scx.tr h123 h135
          have h141 := Scx.tr h124 h135
          have sm142 := Same.of kk133 rfl rfl rfl
          have h143 : PIx zz129 := pi_q h119 sm142 h140.1 (kk133.1 386 12 rfl) (kk133.1 386 11 rfl)
          have h144 : SLk z + 0 ≤ SO zz129 := so_q 0 h125 sm142 (kk133.1 386 16 rfl) (by have h := h135.2; omega) (by decide)
          have h145 : cn zz129 = cn zz113 := cn_k (kk133.1 386 16 rfl) (kk133.2.1 393 rfl).1
          have h146 : Gd (cn zz129 + 1) 0 z zz129 := by rw [h145]; exact Gd.sm h128 sm142
          refine lv_if_ne (tgt := 49) E.1 E.2.1 dX11_tested_36 (by decide) (fun c147 => ?_) (fun c147 => ?_)
          · skip
            have b148 : iv 1 1 r130 := ne_lo c147 b134 (by decide) (by decide)
            have h149 : LTx zz129 := h138 c147
            refine lv_iconst (v := 1) E.1 E.2.1 dX11_tested_49 (by decide) ?_
            refine lv_goto (tgt := 54) E.1 E.2.1 dX11_tested_50 (by decide) ?_
            refine lv_istore_n (lv' := [(1, .int 1), (0, .ref (ad 386))]) E.1 E.2.1 dX11_tested_54 rfl hl (by decide) rfl (fun ls hl => ?_)
            refine lv_iload_n E.1 E.2.1 dX11_tested_55 rfl (lv_at hl 0 rfl) ?_
            refine lv_if_eq (tgt := 12) E.1 E.2.1 dX11_tested_56 (by decide) (fun h => absurd h (by decide)) (fun _ => ?_)
            refine lv_aload_n E.1 E.2.1 dX11_tested_59 rfl (lv_at hl 1 rfl) ?_
            refine lv_ldc2 (v := 6385252) E.1 E.2.1 E.2.2.2.1 (E.2.2.2.2.1 _ mw_cL_11_207) dX11_tested_60 ?_
            refine t_vi E G hl (v_isWord l D K ad zz129 oo132 6385252 h140.1) 11 (rfl : ro 386 = 11) (by decide) rfl rfl 1 rfl mw_code_X11_isWord mw_ini_11 mw_ml_11_104 mw_inst_X11_isWord mw_sel_X11_isWord hd_X11_isWord ⟨Nat.le_trans (by decide) hfr, Nat.le_trans (by decide) hlo⟩ rfl rfl rfl (Nat.le_of_ble_eq_true rfl) dX11_tested_63 (fun r151 zz150 H locs hp152 G => ?_)
            obtain ⟨oo153, kk154, b155, h156, h157, h158, h159⟩ := hp152
            have kk160 : KP2 z zz150 := KPf.tr kk139 (KN8.p2 kk154)
            have h161 := Scx.tr h140 h156
            have h162 : LTx zz150 := LTx.k h149 kk154 (h158 h136) rfl rfl
            have h163 := Scx.tr h141 h156
            have sm164 := Same.of kk154 rfl rfl rfl
            have h165 : PIx zz150 := pi_q h143 sm164 h161.1 (kk154.1 386 12 rfl) (kk154.1 386 11 rfl)
            have h166 : SLk z + 0 ≤ SO zz150 := so_q 0 h144 sm164 (kk154.1 386 16 rfl) (by have h := h156.2; omega) (by decide)
            have h167 : cn zz150 = cn zz129 := cn_k (kk154.1 386 16 rfl) (kk154.2.1 393 rfl).1
            have h168 : Gd (cn zz150 + 1) 0 z zz150 := by rw [h167]; exact Gd.sm h146 sm164
            refine lv_if_eq (tgt := 74) E.1 E.2.1 dX11_tested_66 (by decide) (fun c169 => ?_) (fun c169 => ?_)
            · skip
              have b170 : iv 0 0 r151 := iv_eq c169 (iv_lit (lo := 0) (hi := 0) 0 (by decide) (by decide))
              refine lv_bipush (v := 13) E.1 E.2.1 dX11_tested_74 (by decide) ?_
              refine lv_istore_n (lv' := [(2, .int 13), (1, .int 1), (0, .ref (ad 386))]) E.1 E.2.1 dX11_tested_76 rfl hl (by decide) rfl (fun ls hl => ?_)
              refine lv_aload_n E.1 E.2.1 dX11_tested_77 rfl (lv_at hl 2 rfl) ?_
              refine t_vv E G hl (v_passWord l D K ad zz150 oo153 h161.1) 11 (rfl : ro 386 = 11) (by decide) rfl rfl 0 rfl mw_code_X11_passWord mw_ini_11 mw_ml_11_108 mw_inst_X11_passWord mw_sel_X11_passWord hd_X11_passWord ⟨Nat.le_trans (by decide) hfr, Nat.le_trans (by decide) hlo⟩ rfl rfl rfl (Nat.le_of_ble_eq_true rfl) dX11_tested_78 (fun zz171 H locs hp173 G => ?_)
              obtain ⟨oo174, kk175, h176, h177⟩ := hp173
              have kk178 : KP2 z zz171 := KPf.tr kk160 (KN8.p2 kk175)
              have h179 := Scx.tr h161 h176
              have h180 := Scx.tr h163 h176
              have h181 : (tI zz19 386 8).toInt + 1 ≤ (tI zz171 386 8).toInt := by have h1 := h177 h162; have h2 := h163.2; omega
              have sm182 := Same.of kk175 rfl rfl rfl
              have h183 : PIx zz171 := pi_q h165 sm182 h179.1 (kk175.1 386 12 rfl) (kk175.1 386 11 rfl)
              have h184 : SLk z + 1 ≤ SO zz171 := so_q 1 h166 sm182 (kk175.1 386 16 rfl) (h177 h162) (by decide)
              have h185 : cn zz171 = cn zz150 := cn_k (kk175.1 386 16 rfl) (kk175.2.1 393 rfl).1
              have h186 : Gd (cn zz171 + 1) 0 z zz171 := by rw [h185]; exact Gd.sm h168 sm182
              refine lv_aload_n E.1 E.2.1 dX11_tested_81 rfl (lv_at hl 2 rfl) ?_
              refine lv_iload_n E.1 E.2.1 dX11_tested_82 rfl (lv_at hl 0 rfl) ?_
              refine t_si E G hl (v_strength_13 l D K ad zz171 oo174) 1 rfl mw_code_X11_strength mw_ini_11 mw_ml_11_159 mw_stat_X11_strength hd_X11_strength ⟨Nat.le_trans (by decide) hfr, Nat.le_trans (by decide) hlo⟩ rfl rfl rfl (Nat.le_of_ble_eq_true rfl) dX11_tested_83 (fun r188 zz187 H locs hp189 G => ?_)
              obtain ⟨hz191, b190⟩ := hp189
              rw [hz191] at G
              refine t_vv E G hl (v_layDown l D K ad zz171 oo174 r188 (iv_mono b190 (by decide) (by decide)) h183 (by have h1 := hs; have h2 := h184; omega)) 11 (rfl : ro 386 = 11) (by decide) rfl rfl 1 rfl mw_code_X11_layDown mw_ini_11 mw_ml_11_195 mw_inst_X11_layDown mw_sel_X11_layDown hd_X11_layDown ⟨Nat.le_trans (by decide) hfr, Nat.le_trans (by decide) hlo⟩ rfl rfl rfl (Nat.le_of_ble_eq_true rfl) dX11_tested_86 (fun zz192 H locs hp194 G => ?_)
              obtain ⟨oo195, kk196, h197, h198, h199, h200, h201⟩ := hp194
              have kk202 : KP2 z zz192 := KPf.tr kk178 (KPL.p2 kk196)
              have h203 := Scx.tr h179 (scx_p h179.1 kk196 rfl rfl)
              have h204 := Scx.tr h180 (scx_p h180.1 kk196 rfl rfl)
              have h205 : (tI zz19 386 8).toInt + 1 ≤ (tI zz192 386 8).toInt := by have h1 := h181; have h2 := (scx_p h180.1 kk196 rfl rfl).2; omega
              have h206 : SLk z + 1 ≤ SO zz192 := by have h1 := h184; have h2 := h198; omega
              have h207 := cn_nn zz192
              have h208 := h199.1
              have h209 : Gd (cn zz192 + 1) 0 z zz192 := Gd.tr h186 kk178 h199.2 (by omega) (by omega)
              refine lv_aload_n E.1 E.2.1 dX11_tested_89 rfl (lv_at hl 2 rfl) ?_
              refine t_get E G 11 15 (rfl : ro 386 = 11) (C := RX11) (T := TX11) (N := 37) rfl (by decide) (by decide) (by decide) mw_fl_11_29 (v := .ref (ad 393)) (fvl_o (n := 7) rfl) dX11_tested_90 ?_
              refine lv_aload_n E.1 E.2.1 dX11_tested_93 rfl (lv_at hl 2 rfl) ?_
              refine t_get E G 11 16 (rfl : ro 386 = 11) (C := RX11) (T := TX11) (N := 37) rfl (by decide) (by decide) (by decide) mw_fl_11_156 (fvl_i rfl) dX11_tested_94 ?_
              refine lv_topi (fun v210 e211 => ?_)
              have b212 : iv 0 400 v210 := by rw [e211]; exact oo195.i 11 16 (rfl : ro 386 = 11)
              have b213 : iv 0 399 v210 := by rw [e211]; exact so_o1 oo195 (by have h1 := hs; have h2 := h206; omega)
              refine lv_iload_n E.1 E.2.1 dX11_tested_97 rfl (lv_at hl 0 rfl) ?_
              refine t_iast E G 51 (rfl : ro 393 = 51) (by decide) (by decide) rfl (n := 400) rfl (iv_vp b213 (by decide) (by decide)) dX11_tested_98 (fun H locs G => ?_)
              obtain ⟨zz222, G, oo223, kk224, h225, h214, h215, h216, h217, h219, h220, h221⟩ : ∃ u : TS, mG D A s H locs (wd K ad u) ∧ Ok u ∧ KP2 z u ∧ tI u 386 16 = v210 ∧ (PIx u) ∧ (SLk z + 1 ≤ SO u) ∧ (Gd (cn zz192 + 1) 0 z u) ∧ (tA u 393 = upd (tA zz192 393) v210.toNatClampNeg 13) ∧ (Scx zz19 u) ∧ ((tI zz19 386 8).toInt + 1 ≤ (tI u 386 8).toInt) ∧ (Scx z u) := ⟨_, G, ok_u oo195 51 (rfl : ro 393 = 51) (wr_u (by decide) (iv_full _)) (by decide), KPf.tr kk202 (KPf_r 51 (rfl : ro 393 = 51) (by decide)), e211.symm, (pi_q h197 (Same.r (by decide)) h197.2.1 rfl rfl), (so_q 0 h206 (Same.r (by decide)) rfl (by show (tI zz192 386 8).toInt + 0 ≤ (tI zz192 386 8).toInt; omega) (by decide)), (Gd.sm h209 (Same.r (by decide))), sR_row, h204, h205, h203⟩
              refine lv_aload_n E.1 E.2.1 dX11_tested_99 rfl (lv_at hl 2 rfl) ?_
              refine lv_dup E.1 E.2.1 dX11_tested_100 rfl ?_
              refine t_get E G 11 16 (rfl : ro 386 = 11) (C := RX11) (T := TX11) (N := 37) rfl (by decide) (by decide) (by decide) mw_fl_11_156 (fvl_i rfl) dX11_tested_101 ?_
              refine m_ci v210 h225 ?_
              refine lv_iconst (v := 1) E.1 E.2.1 dX11_tested_104 (by decide) ?_
              refine lv_iadd E.1 E.2.1 dX11_tested_105 ?_
              refine lv_topi (fun v226 e227 => ?_)
              have b228 : iv 1 400 v226 := by rw [e227]; exact iv_add b213 (iv_lit (lo := 1) (hi := 1) 1 (by decide) (by decide)) (by decide) (by decide) (by decide) (by decide)
              have l229 : v226.toInt = 1 + 1 * v210.toInt := (show v226.toInt = v210.toInt + 1 by rw [e227]; exact ti_addc 1 (by decide) b213 (by decide) (by decide)).trans (by omega)
              refine t_puti E G 11 16 (rfl : ro 386 = 11) (C := RX11) (T := TX11) (N := 37) rfl (by decide) (by decide) (by decide) rfl rfl mw_fl_11_156 rfl dX11_tested_106 (fun H locs G => ?_)
              have h233 : cn (setI zz222 386 16 v226) = cn zz192 + (if (13 : Int32) = 12 ∨ (13 : Int32) = 13 then 1 else 0) := cn_push e211.symm b213 h217 sI_self (l229.trans (by omega))
              rw [if_yes (by decide)] at h233
              obtain ⟨zz237, G, oo238, kk239, h240, h230, h231, h232, h234, h235, h236⟩ : ∃ u : TS, mG D A s H locs (wd K ad u) ∧ Ok u ∧ KP2 z u ∧ tI u 386 16 = v226 ∧ (PIx u) ∧ (SLk z + 0 ≤ SO u) ∧ (Gd (cn u + 0) 0 z u) ∧ (Scx zz19 u) ∧ ((tI zz19 386 8).toInt + 1 ≤ (tI u 386 8).toInt) ∧ (Scx z u) := ⟨_, G, ok_i oo223 11 (rfl : ro 386 = 11) (iv_mono b228 (by decide) (by decide)) (by decide), KPf.tr kk224 (KPf_i 11 (rfl : ro 386 = 11) (by decide)), sI_self, (pi_q h214 (Same.i (by decide)) h214.2.1 rfl rfl), (so_op (d := 1) h215 (Same.i (by decide)) rfl (by rw [sI_self]; have e := congrArg Int32.toInt h225; have := l229; omega) (by decide)), (by rw [h233]; exact Gd.wk (Gd.sm h216 (Same.i (by decide))) (by omega) (Int.le_refl _)), h219, h220, h221⟩
              refine lv_goto (tgt := 12) E.1 E.2.1 dX11_tested_109 (by decide) ?_
              exact ih12 zz237 1 H locs ls G oo238 kk239 (iv_mono (iv_lit (lo := 1) (hi := 1) 1 (by decide) (by decide)) (by decide) (by decide)) h236 h230 (by have h := h231; omega) (Gd.wk h232 (by have e1 : (1 : Int32).toInt = 1 := (by decide); have e0 : (0 : Int32).toInt = 0 := (by decide); omega) (Int.le_refl _)) (by have h1 := m22; have h2 := h235; have h3 := b94.1; have e1 : (1 : Int32).toInt = 1 := (by decide); have e0 : (0 : Int32).toInt = 0 := (by decide); omega) (lv_sub hl [1, 2] rfl)
            · skip
              have b241 : iv 1 1 r151 := ne_lo c169 b155 (by decide) (by decide)
              refine lv_bipush (v := 12) E.1 E.2.1 dX11_tested_69 (by decide) ?_
              refine lv_goto (tgt := 76) E.1 E.2.1 dX11_tested_71 (by decide) ?_
              refine lv_istore_n (lv' := [(2, .int 12), (1, .int 1), (0, .ref (ad 386))]) E.1 E.2.1 dX11_tested_76 rfl hl (by decide) rfl (fun ls hl => ?_)
              refine lv_aload_n E.1 E.2.1 dX11_tested_77 rfl (lv_at hl 2 rfl) ?_
              refine t_vv E G hl (v_passWord l D K ad zz150 oo153 h161.1) 11 (rfl : ro 386 = 11) (by decide) rfl rfl 0 rfl mw_code_X11_passWord mw_ini_11 mw_ml_11_108 mw_inst_X11_passWord mw_sel_X11_passWord hd_X11_passWord ⟨Nat.le_trans (by decide) hfr, Nat.le_trans (by decide) hlo⟩ rfl rfl rfl (Nat.le_of_ble_eq_true rfl) dX11_tested_78 (fun zz242 H locs hp244 G => ?_)
              obtain ⟨oo245, kk246, h247, h248⟩ := hp244
              have kk249 : KP2 z zz242 := KPf.tr kk160 (KN8.p2 kk246)
              have h250 := Scx.tr h161 h247
              have h251 := Scx.tr h163 h247
              have h252 : (tI zz19 386 8).toInt + 1 ≤ (tI zz242 386 8).toInt := by have h1 := h248 h162; have h2 := h163.2; omega
              have sm253 := Same.of kk246 rfl rfl rfl
              have h254 : PIx zz242 := pi_q h165 sm253 h250.1 (kk246.1 386 12 rfl) (kk246.1 386 11 rfl)
              have h255 : SLk z + 1 ≤ SO zz242 := so_q 1 h166 sm253 (kk246.1 386 16 rfl) (h248 h162) (by decide)
              have h256 : cn zz242 = cn zz150 := cn_k (kk246.1 386 16 rfl) (kk246.2.1 393 rfl).1
              have h257 : Gd (cn zz242 + 1) 0 z zz242 := by rw [h256]; exact Gd.sm h168 sm253
              refine lv_aload_n E.1 E.2.1 dX11_tested_81 rfl (lv_at hl 2 rfl) ?_
              refine lv_iload_n E.1 E.2.1 dX11_tested_82 rfl (lv_at hl 0 rfl) ?_
              refine t_si E G hl (v_strength_12 l D K ad zz242 oo245) 1 rfl mw_code_X11_strength mw_ini_11 mw_ml_11_159 mw_stat_X11_strength hd_X11_strength ⟨Nat.le_trans (by decide) hfr, Nat.le_trans (by decide) hlo⟩ rfl rfl rfl (Nat.le_of_ble_eq_true rfl) dX11_tested_83 (fun r259 zz258 H locs hp260 G => ?_)
              obtain ⟨hz262, b261⟩ := hp260
              rw [hz262] at G
              refine t_vv E G hl (v_layDown l D K ad zz242 oo245 r259 (iv_mono b261 (by decide) (by decide)) h254 (by have h1 := hs; have h2 := h255; omega)) 11 (rfl : ro 386 = 11) (by decide) rfl rfl 1 rfl mw_code_X11_layDown mw_ini_11 mw_ml_11_195 mw_inst_X11_layDown mw_sel_X11_layDown hd_X11_layDown ⟨Nat.le_trans (by decide) hfr, Nat.le_trans (by decide) hlo⟩ rfl rfl rfl (Nat.le_of_ble_eq_true rfl) dX11_tested_86 (fun zz263 H locs hp265 G => ?_)
              obtain ⟨oo266, kk267, h268, h269, h270, h271, h272⟩ := hp265
              have kk273 : KP2 z zz263 := KPf.tr kk249 (KPL.p2 kk267)
              have h274 := Scx.tr h250 (scx_p h250.1 kk267 rfl rfl)
              have h275 := Scx.tr h251 (scx_p h251.1 kk267 rfl rfl)
              have h276 : (tI zz19 386 8).toInt + 1 ≤ (tI zz263 386 8).toInt := by have h1 := h252; have h2 := (scx_p h251.1 kk267 rfl rfl).2; omega
              have h277 : SLk z + 1 ≤ SO zz263 := by have h1 := h255; have h2 := h269; omega
              have h278 := cn_nn zz263
              have h279 := h270.1
              have h280 : Gd (cn zz263 + 1) 0 z zz263 := Gd.tr h257 kk249 h270.2 (by omega) (by omega)
              refine lv_aload_n E.1 E.2.1 dX11_tested_89 rfl (lv_at hl 2 rfl) ?_
              refine t_get E G 11 15 (rfl : ro 386 = 11) (C := RX11) (T := TX11) (N := 37) rfl (by decide) (by decide) (by decide) mw_fl_11_29 (v := .ref (ad 393)) (fvl_o (n := 7) rfl) dX11_tested_90 ?_
              refine lv_aload_n E.1 E.2.1 dX11_tested_93 rfl (lv_at hl 2 rfl) ?_
              refine t_get E G 11 16 (rfl : ro 386 = 11) (C := RX11) (T := TX11) (N := 37) rfl (by decide) (by decide) (by decide) mw_fl_11_156 (fvl_i rfl) dX11_tested_94 ?_
              refine lv_topi (fun v281 e282 => ?_)
              have b283 : iv 0 400 v281 := by rw [e282]; exact oo266.i 11 16 (rfl : ro 386 = 11)
              have b284 : iv 0 399 v281 := by rw [e282]; exact so_o1 oo266 (by have h1 := hs; have h2 := h277; omega)
              refine lv_iload_n E.1 E.2.1 dX11_tested_97 rfl (lv_at hl 0 rfl) ?_
              refine t_iast E G 51 (rfl : ro 393 = 51) (by decide) (by decide) rfl (n := 400) rfl (iv_vp b284 (by decide) (by decide)) dX11_tested_98 (fun H locs G => ?_)
              obtain ⟨zz293, G, oo294, kk295, h296, h285, h286, h287, h288, h290, h291, h292⟩ : ∃ u : TS, mG D A s H locs (wd K ad u) ∧ Ok u ∧ KP2 z u ∧ tI u 386 16 = v281 ∧ (PIx u) ∧ (SLk z + 1 ≤ SO u) ∧ (Gd (cn zz263 + 1) 0 z u) ∧ (tA u 393 = upd (tA zz263 393) v281.toNatClampNeg 12) ∧ (Scx zz19 u) ∧ ((tI zz19 386 8).toInt + 1 ≤ (tI u 386 8).toInt) ∧ (Scx z u) := ⟨_, G, ok_u oo266 51 (rfl : ro 393 = 51) (wr_u (by decide) (iv_full _)) (by decide), KPf.tr kk273 (KPf_r 51 (rfl : ro 393 = 51) (by decide)), e282.symm, (pi_q h268 (Same.r (by decide)) h268.2.1 rfl rfl), (so_q 0 h277 (Same.r (by decide)) rfl (by show (tI zz263 386 8).toInt + 0 ≤ (tI zz263 386 8).toInt; omega) (by decide)), (Gd.sm h280 (Same.r (by decide))), sR_row, h275, h276, h274⟩
              refine lv_aload_n E.1 E.2.1 dX11_tested_99 rfl (lv_at hl 2 rfl) ?_
              refine lv_dup E.1 E.2.1 dX11_tested_100 rfl ?_
              refine t_get E G 11 16 (rfl : ro 386 = 11) (C := RX11) (T := TX11) (N := 37) rfl (by decide) (by decide) (by decide) mw_fl_11_156 (fvl_i rfl) dX11_tested_101 ?_
              refine m_ci v281 h296 ?_
              refine lv_iconst (v := 1) E.1 E.2.1 dX11_tested_104 (by decide) ?_
              refine lv_iadd E.1 E.2.1 dX11_tested_105 ?_
              refine lv_topi (fun v297 e298 => ?_)
              have b299 : iv 1 400 v297 := by rw [e298]; exact iv_add b284 (iv_lit (lo := 1) (hi := 1) 1 (by decide) (by decide)) (by decide) (by decide) (by decide) (by decide)
              have l300 : v297.toInt = 1 + 1 * v281.toInt := (show v297.toInt = v281.toInt + 1 by rw [e298]; exact ti_addc 1 (by decide) b284 (by decide) (by decide)).trans (by omega)
              refine t_puti E G 11 16 (rfl : ro 386 = 11) (C := RX11) (T := TX11) (N := 37) rfl (by decide) (by decide) (by decide) rfl rfl mw_fl_11_156 rfl dX11_tested_106 (fun H locs G => ?_)
              have h304 : cn (setI zz293 386 16 v297) = cn zz263 + (if (12 : Int32) = 12 ∨ (12 : Int32) = 13 then 1 else 0) := cn_push e282.symm b284 h288 sI_self (l300.trans (by omega))
              rw [if_yes (by decide)] at h304
              obtain ⟨zz308, G, oo309, kk310, h311, h301, h302, h303, h305, h306, h307⟩ : ∃ u : TS, mG D A s H locs (wd K ad u) ∧ Ok u ∧ KP2 z u ∧ tI u 386 16 = v297 ∧ (PIx u) ∧ (SLk z + 0 ≤ SO u) ∧ (Gd (cn u + 0) 0 z u) ∧ (Scx zz19 u) ∧ ((tI zz19 386 8).toInt + 1 ≤ (tI u 386 8).toInt) ∧ (Scx z u) := ⟨_, G, ok_i oo294 11 (rfl : ro 386 = 11) (iv_mono b299 (by decide) (by decide)) (by decide), KPf.tr kk295 (KPf_i 11 (rfl : ro 386 = 11) (by decide)), sI_self, (pi_q h285 (Same.i (by decide)) h285.2.1 rfl rfl), (so_op (d := 1) h286 (Same.i (by decide)) rfl (by rw [sI_self]; have e := congrArg Int32.toInt h296; have := l300; omega) (by decide)), (by rw [h304]; exact Gd.wk (Gd.sm h287 (Same.i (by decide))) (by omega) (Int.le_refl _)), h290, h291, h292⟩
              refine lv_goto (tgt := 12) E.1 E.2.1 dX11_tested_109 (by decide) ?_
              exact ih12 zz308 1 H locs ls G oo309 kk310 (iv_mono (iv_lit (lo := 1) (hi := 1) 1 (by decide) (by decide)) (by decide) (by decide)) h307 h301 (by have h := h302; omega) (Gd.wk h303 (by have e1 : (1 : Int32).toInt = 1 := (by decide); have e0 : (0 : Int32).toInt = 0 := (by decide); omega) (Int.le_refl _)) (by have h1 := m22; have h2 := h306; have h3 := b94.1; have e1 : (1 : Int32).toInt = 1 := (by decide); have e0 : (0 : Int32).toInt = 0 := (by decide); omega) (lv_sub hl [1, 2] rfl)
          · skip
            have b312 : iv 0 0 r130 := iv_eq c147 (iv_lit (lo := 0) (hi := 0) 0 (by decide) (by decide))
            refine lv_aload_n E.1 E.2.1 dX11_tested_39 rfl (lv_at hl 1 rfl) ?_
            refine lv_ldc2 (v := 28530) E.1 E.2.1 E.2.2.2.1 (E.2.2.2.2.1 _ mw_cL_11_209) dX11_tested_40 ?_
            refine t_vi E G hl (v_isWord l D K ad zz129 oo132 28530 h140.1) 11 (rfl : ro 386 = 11) (by decide) rfl rfl 1 rfl mw_code_X11_isWord mw_ini_11 mw_ml_11_104 mw_inst_X11_isWord mw_sel_X11_isWord hd_X11_isWord ⟨Nat.le_trans (by decide) hfr, Nat.le_trans (by decide) hlo⟩ rfl rfl rfl (Nat.le_of_ble_eq_true rfl) dX11_tested_43 (fun r314 zz313 H locs hp315 G => ?_)
            obtain ⟨oo316, kk317, b318, h319, h320, h321, h322⟩ := hp315
            have kk323 : KP2 z zz313 := KPf.tr kk139 (KN8.p2 kk317)
            have h324 := Scx.tr h140 h319
            have h325 := Scx.tr h141 h319
            have sm326 := Same.of kk317 rfl rfl rfl
            have h327 : PIx zz313 := pi_q h143 sm326 h324.1 (kk317.1 386 12 rfl) (kk317.1 386 11 rfl)
            have h328 : SLk z + 0 ≤ SO zz313 := so_q 0 h144 sm326 (kk317.1 386 16 rfl) (by have h := h319.2; omega) (by decide)
            have h329 : cn zz313 = cn zz129 := cn_k (kk317.1 386 16 rfl) (kk317.2.1 393 rfl).1
            have h330 : Gd (cn zz313 + 1) 0 z zz313 := by rw [h329]; exact Gd.sm h146 sm326
            refine lv_if_eq (tgt := 53) E.1 E.2.1 dX11_tested_46 (by decide) (fun c331 => ?_) (fun c331 => ?_)
            · skip
              have b332 : iv 0 0 r314 := iv_eq c331 (iv_lit (lo := 0) (hi := 0) 0 (by decide) (by decide))
              refine lv_iconst (v := 0) E.1 E.2.1 dX11_tested_53 (by decide) ?_
              refine lv_istore_n (lv' := [(1, .int 0), (0, .ref (ad 386))]) E.1 E.2.1 dX11_tested_54 rfl hl (by decide) rfl (fun ls hl => ?_)
              refine lv_iload_n E.1 E.2.1 dX11_tested_55 rfl (lv_at hl 0 rfl) ?_
              refine lv_if_eq (tgt := 12) E.1 E.2.1 dX11_tested_56 (by decide) (fun _ => ?_) (fun h => absurd (by decide) h)
              exact ih12 zz313 0 H locs ls G oo316 kk323 (iv_mono (iv_lit (lo := 0) (hi := 0) 0 (by decide) (by decide)) (by decide) (by decide)) h324 h327 (by have h := h328; omega) (Gd.wk h330 (by have e1 : (1 : Int32).toInt = 1 := (by decide); have e0 : (0 : Int32).toInt = 0 := (by decide); omega) (Int.le_refl _)) (by have h1 := m22; have h2 := h325.2; have h3 := b94.1; have e1 : (1 : Int32).toInt = 1 := (by decide); have e0 : (0 : Int32).toInt = 0 := (by decide); omega) (lv_sub hl [0, 1] rfl)
            · skip
              have b333 : iv 1 1 r314 := ne_lo c331 b318 (by decide) (by decide)
              have h334 : LTx zz313 := h322 c331
              refine lv_iconst (v := 1) E.1 E.2.1 dX11_tested_49 (by decide) ?_
              refine lv_goto (tgt := 54) E.1 E.2.1 dX11_tested_50 (by decide) ?_
              refine lv_istore_n (lv' := [(1, .int 1), (0, .ref (ad 386))]) E.1 E.2.1 dX11_tested_54 rfl hl (by decide) rfl (fun ls hl => ?_)
              refine lv_iload_n E.1 E.2.1 dX11_tested_55 rfl (lv_at hl 0 rfl) ?_
              refine lv_if_eq (tgt := 12) E.1 E.2.1 dX11_tested_56 (by decide) (fun h => absurd h (by decide)) (fun _ => ?_)
              refine lv_aload_n E.1 E.2.1 dX11_tested_59 rfl (lv_at hl 1 rfl) ?_
              refine lv_ldc2 (v := 6385252) E.1 E.2.1 E.2.2.2.1 (E.2.2.2.2.1 _ mw_cL_11_207) dX11_tested_60 ?_
              refine t_vi E G hl (v_isWord l D K ad zz313 oo316 6385252 h324.1) 11 (rfl : ro 386 = 11) (by decide) rfl rfl 1 rfl mw_code_X11_isWord mw_ini_11 mw_ml_11_104 mw_inst_X11_isWord mw_sel_X11_isWord hd_X11_isWord ⟨Nat.le_trans (by decide) hfr, Nat.le_trans (by decide) hlo⟩ rfl rfl rfl (Nat.le_of_ble_eq_true rfl) dX11_tested_63 (fun r336 zz335 H locs hp337 G => ?_)
              obtain ⟨oo338, kk339, b340, h341, h342, h343, h344⟩ := hp337
              have kk345 : KP2 z zz335 := KPf.tr kk323 (KN8.p2 kk339)
              have h346 := Scx.tr h324 h341
              have h347 : LTx zz335 := LTx.k h334 kk339 (h343 h320) rfl rfl
              have h348 := Scx.tr h325 h341
              have sm349 := Same.of kk339 rfl rfl rfl
              have h350 : PIx zz335 := pi_q h327 sm349 h346.1 (kk339.1 386 12 rfl) (kk339.1 386 11 rfl)
              have h351 : SLk z + 0 ≤ SO zz335 := so_q 0 h328 sm349 (kk339.1 386 16 rfl) (by have h := h341.2; omega) (by decide)
              have h352 : cn zz335 = cn zz313 := cn_k (kk339.1 386 16 rfl) (kk339.2.1 393 rfl).1
              have h353 : Gd (cn zz335 + 1) 0 z zz335 := by rw [h352]; exact Gd.sm h330 sm349
              refine lv_if_eq (tgt := 74) E.1 E.2.1 dX11_tested_66 (by decide) (fun c354 => ?_) (fun c354 => ?_)
              · skip
                have b355 : iv 0 0 r336 := iv_eq c354 (iv_lit (lo := 0) (hi := 0) 0 (by decide) (by decide))
                refine lv_bipush (v := 13) E.1 E.2.1 dX11_tested_74 (by decide) ?_
                refine lv_istore_n (lv' := [(2, .int 13), (1, .int 1), (0, .ref (ad 386))]) E.1 E.2.1 dX11_tested_76 rfl hl (by decide) rfl (fun ls hl => ?_)
                refine lv_aload_n E.1 E.2.1 dX11_tested_77 rfl (lv_at hl 2 rfl) ?_
                refine t_vv E G hl (v_passWord l D K ad zz335 oo338 h346.1) 11 (rfl : ro 386 = 11) (by decide) rfl rfl 0 rfl mw_code_X11_passWord mw_ini_11 mw_ml_11_108 mw_inst_X11_passWord mw_sel_X11_passWord hd_X11_passWord ⟨Nat.le_trans (by decide) hfr, Nat.le_trans (by decide) hlo⟩ rfl rfl rfl (Nat.le_of_ble_eq_true rfl) dX11_tested_78 (fun zz356 H locs hp358 G => ?_)
                obtain ⟨oo359, kk360, h361, h362⟩ := hp358
                have kk363 : KP2 z zz356 := KPf.tr kk345 (KN8.p2 kk360)
                have h364 := Scx.tr h346 h361
                have h365 := Scx.tr h348 h361
                have h366 : (tI zz19 386 8).toInt + 1 ≤ (tI zz356 386 8).toInt := by have h1 := h362 h347; have h2 := h348.2; omega
                have sm367 := Same.of kk360 rfl rfl rfl
                have h368 : PIx zz356 := pi_q h350 sm367 h364.1 (kk360.1 386 12 rfl) (kk360.1 386 11 rfl)
                have h369 : SLk z + 1 ≤ SO zz356 := so_q 1 h351 sm367 (kk360.1 386 16 rfl) (h362 h347) (by decide)
                have h370 : cn zz356 = cn zz335 := cn_k (kk360.1 386 16 rfl) (kk360.2.1 393 rfl).1
                have h371 : Gd (cn zz356 + 1) 0 z zz356 := by rw [h370]; exact Gd.sm h353 sm367
                refine lv_aload_n E.1 E.2.1 dX11_tested_81 rfl (lv_at hl 2 rfl) ?_
                refine lv_iload_n E.1 E.2.1 dX11_tested_82 rfl (lv_at hl 0 rfl) ?_
                refine t_si E G hl (v_strength_13 l D K ad zz356 oo359) 1 rfl mw_code_X11_strength mw_ini_11 mw_ml_11_159 mw_stat_X11_strength hd_X11_strength ⟨Nat.le_trans (by decide) hfr, Nat.le_trans (by decide) hlo⟩ rfl rfl rfl (Nat.le_of_ble_eq_true rfl) dX11_tested_83 (fun r373 zz372 H locs hp374 G => ?_)
                obtain ⟨hz376, b375⟩ := hp374
                rw [hz376] at G
                refine t_vv E G hl (v_layDown l D K ad zz356 oo359 r373 (iv_mono b375 (by decide) (by decide)) h368 (by have h1 := hs; have h2 := h369; omega)) 11 (rfl : ro 386 = 11) (by decide) rfl rfl 1 rfl mw_code_X11_layDown mw_ini_11 mw_ml_11_195 mw_inst_X11_layDown mw_sel_X11_layDown hd_X11_layDown ⟨Nat.le_trans (by decide) hfr, Nat.le_trans (by decide) hlo⟩ rfl rfl rfl (Nat.le_of_ble_eq_true rfl) dX11_tested_86 (fun zz377 H locs hp379 G => ?_)
                obtain ⟨oo380, kk381, h382, h383, h384, h385, h386⟩ := hp379
                have kk387 : KP2 z zz377 := KPf.tr kk363 (KPL.p2 kk381)
                have h388 := Scx.tr h364 (scx_p h364.1 kk381 rfl rfl)
                have h389 := Scx.tr h365 (scx_p h365.1 kk381 rfl rfl)
                have h390 : (tI zz19 386 8).toInt + 1 ≤ (tI zz377 386 8).toInt := by have h1 := h366; have h2 := (scx_p h365.1 kk381 rfl rfl).2; omega
                have h391 : SLk z + 1 ≤ SO zz377 := by have h1 := h369; have h2 := h383; omega
                have h392 := cn_nn zz377
                have h393 := h384.1
                have h394 : Gd (cn zz377 + 1) 0 z zz377 := Gd.tr h371 kk363 h384.2 (by omega) (by omega)
                refine lv_aload_n E.1 E.2.1 dX11_tested_89 rfl (lv_at hl 2 rfl) ?_
                refine t_get E G 11 15 (rfl : ro 386 = 11) (C := RX11) (T := TX11) (N := 37) rfl (by decide) (by decide) (by decide) mw_fl_11_29 (v := .ref (ad 393)) (fvl_o (n := 7) rfl) dX11_tested_90 ?_
                refine lv_aload_n E.1 E.2.1 dX11_tested_93 rfl (lv_at hl 2 rfl) ?_
                refine t_get E G 11 16 (rfl : ro 386 = 11) (C := RX11) (T := TX11) (N := 37) rfl (by decide) (by decide) (by decide) mw_fl_11_156 (fvl_i rfl) dX11_tested_94 ?_
                refine lv_topi (fun v395 e396 => ?_)
                have b397 : iv 0 400 v395 := by rw [e396]; exact oo380.i 11 16 (rfl : ro 386 = 11)
                have b398 : iv 0 399 v395 := by rw [e396]; exact so_o1 oo380 (by have h1 := hs; have h2 := h391; omega)
                refine lv_iload_n E.1 E.2.1 dX11_tested_97 rfl (lv_at hl 0 rfl) ?_
                refine t_iast E G 51 (rfl : ro 393 = 51) (by decide) (by decide) rfl (n := 400) rfl (iv_vp b398 (by decide) (by decide)) dX11_tested_98 (fun H locs G => ?_)
                obtain ⟨zz407, G, oo408, kk409, h410, h399, h400, h401, h402, h404, h405, h406⟩ : ∃ u : TS, mG D A s H locs (wd K ad u) ∧ Ok u ∧ KP2 z u ∧ tI u 386 16 = v395 ∧ (PIx u) ∧ (SLk z + 1 ≤ SO u) ∧ (Gd (cn zz377 + 1) 0 z u) ∧ (tA u 393 = upd (tA zz377 393) v395.toNatClampNeg 13) ∧ (Scx zz19 u) ∧ ((tI zz19 386 8).toInt + 1 ≤ (tI u 386 8).toInt) ∧ (Scx z u) := ⟨_, G, ok_u oo380 51 (rfl : ro 393 = 51) (wr_u (by decide) (iv_full _)) (by decide), KPf.tr kk387 (KPf_r 51 (rfl : ro 393 = 51) (by decide)), e396.symm, (pi_q h382 (Same.r (by decide)) h382.2.1 rfl rfl), (so_q 0 h391 (Same.r (by decide)) rfl (by show (tI zz377 386 8).toInt + 0 ≤ (tI zz377 386 8).toInt; omega) (by decide)), (Gd.sm h394 (Same.r (by decide))), sR_row, h389, h390, h388⟩
                refine lv_aload_n E.1 E.2.1 dX11_tested_99 rfl (lv_at hl 2 rfl) ?_
                refine lv_dup E.1 E.2.1 dX11_tested_100 rfl ?_
                refine t_get E G 11 16 (rfl : ro 386 = 11) (C := RX11) (T := TX11) (N := 37) rfl (by decide) (by decide) (by decide) mw_fl_11_156 (fvl_i rfl) dX11_tested_101 ?_
                refine m_ci v395 h410 ?_
                refine lv_iconst (v := 1) E.1 E.2.1 dX11_tested_104 (by decide) ?_
                refine lv_iadd E.1 E.2.1 dX11_tested_105 ?_
                refine lv_topi (fun v411 e412 => ?_)
                have b413 : iv 1 400 v411 := by rw [e412]; exact iv_add b398 (iv_lit (lo := 1) (hi := 1) 1 (by decide) (by decide)) (by decide) (by decide) (by decide) (by decide)
                have l414 : v411.toInt = 1 + 1 * v395.toInt := (show v411.toInt = v395.toInt + 1 by rw [e412]; exact ti_addc 1 (by decide) b398 (by decide) (by decide)).trans (by omega)
                refine t_puti E G 11 16 (rfl : ro 386 = 11) (C := RX11) (T := TX11) (N := 37) rfl (by decide) (by decide) (by decide) rfl rfl mw_fl_11_156 rfl dX11_tested_106 (fun H locs G => ?_)
                have h418 : cn (setI zz407 386 16 v411) = cn zz377 + (if (13 : Int32) = 12 ∨ (13 : Int32) = 13 then 1 else 0) := cn_push e396.symm b398 h402 sI_self (l414.trans (by omega))
                rw [if_yes (by decide)] at h418
                obtain ⟨zz422, G, oo423, kk424, h425, h415, h416, h417, h419, h420, h421⟩ : ∃ u : TS, mG D A s H locs (wd K ad u) ∧ Ok u ∧ KP2 z u ∧ tI u 386 16 = v411 ∧ (PIx u) ∧ (SLk z + 0 ≤ SO u) ∧ (Gd (cn u + 0) 0 z u) ∧ (Scx zz19 u) ∧ ((tI zz19 386 8).toInt + 1 ≤ (tI u 386 8).toInt) ∧ (Scx z u) := ⟨_, G, ok_i oo408 11 (rfl : ro 386 = 11) (iv_mono b413 (by decide) (by decide)) (by decide), KPf.tr kk409 (KPf_i 11 (rfl : ro 386 = 11) (by decide)), sI_self, (pi_q h399 (Same.i (by decide)) h399.2.1 rfl rfl), (so_op (d := 1) h400 (Same.i (by decide)) rfl (by rw [sI_self]; have e := congrArg Int32.toInt h410; have := l414; omega) (by decide)), (by rw [h418]; exact Gd.wk (Gd.sm h401 (Same.i (by decide))) (by omega) (Int.le_refl _)), h404, h405, h406⟩
                refine lv_goto (tgt := 12) E.1 E.2.1 dX11_tested_109 (by decide) ?_
                exact ih12 zz422 1 H locs ls G oo423 kk424 (iv_mono (iv_lit (lo := 1) (hi := 1) 1 (by decide) (by decide)) (by decide) (by decide)) h421 h415 (by have h := h416; omega) (Gd.wk h417 (by have e1 : (1 : Int32).toInt = 1 := (by decide); have e0 : (0 : Int32).toInt = 0 := (by decide); omega) (Int.le_refl _)) (by have h1 := m22; have h2 := h420; have h3 := b94.1; have e1 : (1 : Int32).toInt = 1 := (by decide); have e0 : (0 : Int32).toInt = 0 := (by decide); omega) (lv_sub hl [1, 2] rfl)
              · skip
                have b426 : iv 1 1 r336 := ne_lo c354 b340 (by decide) (by decide)
                refine lv_bipush (v := 12) E.1 E.2.1 dX11_tested_69 (by decide) ?_
                refine lv_goto (tgt := 76) E.1 E.2.1 dX11_tested_71 (by decide) ?_
                refine lv_istore_n (lv' := [(2, .int 12), (1, .int 1), (0, .ref (ad 386))]) E.1 E.2.1 dX11_tested_76 rfl hl (by decide) rfl (fun ls hl => ?_)
                refine lv_aload_n E.1 E.2.1 dX11_tested_77 rfl (lv_at hl 2 rfl) ?_
                refine t_vv E G hl (v_passWord l D K ad zz335 oo338 h346.1) 11 (rfl : ro 386 = 11) (by decide) rfl rfl 0 rfl mw_code_X11_passWord mw_ini_11 mw_ml_11_108 mw_inst_X11_passWord mw_sel_X11_passWord hd_X11_passWord ⟨Nat.le_trans (by decide) hfr, Nat.le_trans (by decide) hlo⟩ rfl rfl rfl (Nat.le_of_ble_eq_true rfl) dX11_tested_78 (fun zz427 H locs hp429 G => ?_)
                obtain ⟨oo430, kk431, h432, h433⟩ := hp429
                have kk434 : KP2 z zz427 := KPf.tr kk345 (KN8.p2 kk431)
                have h435 := Scx.tr h346 h432
                have h436 := Scx.tr h348 h432
                have h437 : (tI zz19 386 8).toInt + 1 ≤ (tI zz427 386 8).toInt := by have h1 := h433 h347; have h2 := h348.2; omega
                have sm438 := Same.of kk431 rfl rfl rfl
                have h439 : PIx zz427 := pi_q h350 sm438 h435.1 (kk431.1 386 12 rfl) (kk431.1 386 11 rfl)
                have h440 : SLk z + 1 ≤ SO zz427 := so_q 1 h351 sm438 (kk431.1 386 16 rfl) (h433 h347) (by decide)
                have h441 : cn zz427 = cn zz335 := cn_k (kk431.1 386 16 rfl) (kk431.2.1 393 rfl).1
                have h442 : Gd (cn zz427 + 1) 0 z zz427 := by rw [h441]; exact Gd.sm h353 sm438
                refine lv_aload_n E.1 E.2.1 dX11_tested_81 rfl (lv_at hl 2 rfl) ?_
                refine lv_iload_n E.1 E.2.1 dX11_tested_82 rfl (lv_at hl 0 rfl) ?_
                refine t_si E G hl (v_strength_12 l D K ad zz427 oo430) 1 rfl mw_code_X11_strength mw_ini_11 mw_ml_11_159 mw_stat_X11_strength hd_X11_strength ⟨Nat.le_trans (by decide) hfr, Nat.le_trans (by decide) hlo⟩ rfl rfl rfl (Nat.le_of_ble_eq_true rfl) dX11_tested_83 (fun r444 zz443 H locs hp445 G => ?_)
                obtain ⟨hz447, b446⟩ := hp445
                rw [hz447] at G
                refine t_vv E G hl (v_layDown l D K ad zz427 oo430 r444 (iv_mono b446 (by decide) (by decide)) h439 (by have h1 := hs; have h2 := h440; omega)) 11 (rfl : ro 386 = 11) (by decide) rfl rfl 1 rfl mw_code_X11_layDown mw_ini_11 mw_ml_11_195 mw_inst_X11_layDown mw_sel_X11_layDown hd_X11_layDown ⟨Nat.le_trans (by decide) hfr, Nat.le_trans (by decide) hlo⟩ rfl rfl rfl (Nat.le_of_ble_eq_true rfl) dX11_tested_86 (fun zz448 H locs hp450 G => ?_)
                obtain ⟨oo451, kk452, h453, h454, h455, h456, h457⟩ := hp450
                have kk458 : KP2 z zz448 := KPf.tr kk434 (KPL.p2 kk452)
                have h459 := Scx.tr h435 (scx_p h435.1 kk452 rfl rfl)
                have h460 := Scx.tr h436 (scx_p h436.1 kk452 rfl rfl)
                have h461 : (tI zz19 386 8).toInt + 1 ≤ (tI zz448 386 8).toInt := by have h1 := h437; have h2 := (scx_p h436.1 kk452 rfl rfl).2; omega
                have h462 : SLk z + 1 ≤ SO zz448 := by have h1 := h440; have h2 := h454; omega
                have h463 := cn_nn zz448
                have h464 := h455.1
                have h465 : Gd (cn zz448 + 1) 0 z zz448 := Gd.tr h442 kk434 h455.2 (by omega) (by omega)
                refine lv_aload_n E.1 E.2.1 dX11_tested_89 rfl (lv_at hl 2 rfl) ?_
                refine t_get E G 11 15 (rfl : ro 386 = 11) (C := RX11) (T := TX11) (N := 37) rfl (by decide) (by decide) (by decide) mw_fl_11_29 (v := .ref (ad 393)) (fvl_o (n := 7) rfl) dX11_tested_90 ?_
                refine lv_aload_n E.1 E.2.1 dX11_tested_93 rfl (lv_at hl 2 rfl) ?_
                refine t_get E G 11 16 (rfl : ro 386 = 11) (C := RX11) (T := TX11) (N := 37) rfl (by decide) (by decide) (by decide) mw_fl_11_156 (fvl_i rfl) dX11_tested_94 ?_
                refine lv_topi (fun v466 e467 => ?_)
                have b468 : iv 0 400 v466 := by rw [e467]; exact oo451.i 11 16 (rfl : ro 386 = 11)
                have b469 : iv 0 399 v466 := by rw [e467]; exact so_o1 oo451 (by have h1 := hs; have h2 := h462; omega)
                refine lv_iload_n E.1 E.2.1 dX11_tested_97 rfl (lv_at hl 0 rfl) ?_
                refine t_iast E G 51 (rfl : ro 393 = 51) (by decide) (by decide) rfl (n := 400) rfl (iv_vp b469 (by decide) (by decide)) dX11_tested_98 (fun H locs G => ?_)
                obtain ⟨zz478, G, oo479, kk480, h481, h470, h471, h472, h473, h475, h476, h477⟩ : ∃ u : TS, mG D A s H locs (wd K ad u) ∧ Ok u ∧ KP2 z u ∧ tI u 386 16 = v466 ∧ (PIx u) ∧ (SLk z + 1 ≤ SO u) ∧ (Gd (cn zz448 + 1) 0 z u) ∧ (tA u 393 = upd (tA zz448 393) v466.toNatClampNeg 12) ∧ (Scx zz19 u) ∧ ((tI zz19 386 8).toInt + 1 ≤ (tI u 386 8).toInt) ∧ (Scx z u) := ⟨_, G, ok_u oo451 51 (rfl : ro 393 = 51) (wr_u (by decide) (iv_full _)) (by decide), KPf.tr kk458 (KPf_r 51 (rfl : ro 393 = 51) (by decide)), e467.symm, (pi_q h453 (Same.r (by decide)) h453.2.1 rfl rfl), (so_q 0 h462 (Same.r (by decide)) rfl (by show (tI zz448 386 8).toInt + 0 ≤ (tI zz448 386 8).toInt; omega) (by decide)), (Gd.sm h465 (Same.r (by decide))), sR_row, h460, h461, h459⟩
                refine lv_aload_n E.1 E.2.1 dX11_tested_99 rfl (lv_at hl 2 rfl) ?_
                refine lv_dup E.1 E.2.1 dX11_tested_100 rfl ?_
                refine t_get E G 11 16 (rfl : ro 386 = 11) (C := RX11) (T := TX11) (N := 37) rfl (by decide) (by decide) (by decide) mw_fl_11_156 (fvl_i rfl) dX11_tested_101 ?_
                refine m_ci v466 h481 ?_
                refine lv_iconst (v := 1) E.1 E.2.1 dX11_tested_104 (by decide) ?_
                refine lv_iadd E.1 E.2.1 dX11_tested_105 ?_
                refine lv_topi (fun v482 e483 => ?_)
                have b484 : iv 1 400 v482 := by rw [e483]; exact iv_add b469 (iv_lit (lo := 1) (hi := 1) 1 (by decide) (by decide)) (by decide) (by decide) (by decide) (by decide)
                have l485 : v482.toInt = 1 + 1 * v466.toInt := (show v482.toInt = v466.toInt + 1 by rw [e483]; exact ti_addc 1 (by decide) b469 (by decide) (by decide)).trans (by omega)
                refine t_puti E G 11 16 (rfl : ro 386 = 11) (C := RX11) (T := TX11) (N := 37) rfl (by decide) (by decide) (by decide) rfl rfl mw_fl_11_156 rfl dX11_tested_106 (fun H locs G => ?_)
                have h489 : cn (setI zz478 386 16 v482) = cn zz448 + (if (12 : Int32) = 12 ∨ (12 : Int32) = 13 then 1 else 0) := cn_push e467.symm b469 h473 sI_self (l485.trans (by omega))
                rw [if_yes (by decide)] at h489
                obtain ⟨zz493, G, oo494, kk495, h496, h486, h487, h488, h490, h491, h492⟩ : ∃ u : TS, mG D A s H locs (wd K ad u) ∧ Ok u ∧ KP2 z u ∧ tI u 386 16 = v482 ∧ (PIx u) ∧ (SLk z + 0 ≤ SO u) ∧ (Gd (cn u + 0) 0 z u) ∧ (Scx zz19 u) ∧ ((tI zz19 386 8).toInt + 1 ≤ (tI u 386 8).toInt) ∧ (Scx z u) := ⟨_, G, ok_i oo479 11 (rfl : ro 386 = 11) (iv_mono b484 (by decide) (by decide)) (by decide), KPf.tr kk480 (KPf_i 11 (rfl : ro 386 = 11) (by decide)), sI_self, (pi_q h470 (Same.i (by decide)) h470.2.1 rfl rfl), (so_op (d := 1) h471 (Same.i (by decide)) rfl (by rw [sI_self]; have e := congrArg Int32.toInt h481; have := l485; omega) (by decide)), (by rw [h489]; exact Gd.wk (Gd.sm h472 (Same.i (by decide))) (by omega) (Int.le_refl _)), h475, h476, h477⟩
                refine lv_goto (tgt := 12) E.1 E.2.1 dX11_tested_109 (by decide) ?_
                exact ih12 zz493 1 H locs ls G oo494 kk495 (iv_mono (iv_lit (lo := 1) (hi := 1) 1 (by decide) (by decide)) (by decide) (by decide)) h492 h486 (by have h := h487; omega) (Gd.wk h488 (by have e1 : (1 : Int32).toInt = 1 := (by decide); have e0 : (0 : Int32).toInt = 0 := (by decide); omega) (Int.le_refl _)) (by have h1 := m22; have h2 := h491; have h3 := b94.1; have e1 : (1 : Int32).toInt = 1 := (by decide); have e0 : (0 : Int32).toInt = 0 := (by decide); omega) (lv_sub hl [1, 2] rfl)
        · skip
          have b497 : iv 0 0 r97 := iv_eq c110 (iv_lit (lo := 0) (hi := 0) 0 (by decide) (by decide))
          refine lv_iconst (v := 0) E.1 E.2.1 dX11_tested_23 (by decide) ?_
          exact RET G ⟨oo99, kk106, (iv_mono (iv_lit (lo := 0) (hi := 0) 0 (by decide) (by decide)) (by decide) (by decide)), h107, h103, (by have h := h109; have h2 := (oo99.i (j := 386) 11 16 rfl).1; have e : ilo 11 16 = 0 := (by decide); unfold SO at h; omega), (fun h => absurd rfl h)⟩ (by decide) dX11_tested_24
  exact LOOP12 802 zz13 1 H locs ls G oo14 kk15 (iv_mono (iv_lit (lo := 1) (hi := 1) 1 (by decide) (by decide)) (by decide) (by decide)) h9 h10 (by have h := h11; omega) (Gd.wk h12 (by have e1 : (1 : Int32).toInt = 1 := (by decide); have e0 : (0 : Int32).toInt = 0 := (by decide); omega) (Int.le_refl _)) (by have := (oo14.i (j := 386) 11 8 rfl).1; have e : ilo 11 8 = 0 := (by decide); have e1 : (1 : Int32).toInt = 1 := (by decide); omega) (lv_sub hl [0, 1] rfl)
