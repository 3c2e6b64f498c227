theorem mw_code_X11_choice : (Cond.code yX11_choice cX11_choice 9 (some .int) : Cond) ∈ cw := cw_of (List.mem_append_right _ (List.mem_append_right _ (List.mem_append_right _ (List.mem_append_right _ (List.mem_append_right _ (List.mem_append_right _ (List.mem_append_left _ (List.mem_of_getElem? (i := 229) rfl)))))))) (by decide +kernel)
theorem mw_code_X11_has : (Cond.code yX11_has cX11_has 5 none : Cond) ∈ cw := cw_of (List.mem_append_right _ (List.mem_append_right _ (List.mem_append_right _ (List.mem_append_right _ (List.mem_append_right _ (List.mem_append_right _ (List.mem_append_right _ (List.mem_append_left _ (List.mem_of_getElem? (i := 47) rfl))))))))) (by decide +kernel)
theorem mw_code_X11_lureFor : (Cond.code yX11_lureFor cX11_lureFor 3 (some .int) : Cond) ∈ cw := cw_of (List.mem_append_right _ (List.mem_append_right _ (List.mem_append_right _ (List.mem_append_right _ (List.mem_append_right _ (List.mem_append_right _ (List.mem_append_right _ (List.mem_append_left _ (List.mem_of_getElem? (i := 43) rfl))))))))) (by decide +kernel)
theorem mw_fl_11_46 : (Cond.fieldLink RX11 46 "LureTownModel" "goesTo" "[I" : Cond) ∈ cw := cw_of (List.mem_append_right _ (List.mem_append_right _ (List.mem_append_right _ (List.mem_append_right _ (List.mem_append_right _ (List.mem_append_left _ (List.mem_of_getElem? (i := 130) (by decide +kernel)))))))) (by decide +kernel)
theorem mw_fl_11_49 : (Cond.fieldLink RX11 49 "LureTownModel" "hadBy" "[I" : Cond) ∈ cw := cw_of (List.mem_append_right _ (List.mem_append_right _ (List.mem_append_right _ (List.mem_append_right _ (List.mem_append_right _ (List.mem_append_left _ (List.mem_of_getElem? (i := 131) (by decide +kernel)))))))) (by decide +kernel)
theorem mw_inst_X11_choice : (Cond.instanceMethod yX11_choice : Cond) ∈ cw := cw_of (List.mem_append_right _ (List.mem_append_right _ (List.mem_append_right _ (List.mem_append_right _ (List.mem_append_right _ (List.mem_append_right _ (List.mem_append_left _ (List.mem_of_getElem? (i := 228) (by decide +kernel))))))))) (by decide +kernel)
theorem mw_inst_X11_has : (Cond.instanceMethod yX11_has : Cond) ∈ cw := cw_of (List.mem_append_right _ (List.mem_append_right _ (List.mem_append_right _ (List.mem_append_right _ (List.mem_append_right _ (List.mem_append_right _ (List.mem_append_right _ (List.mem_append_left _ (List.mem_of_getElem? (i := 46) (by decide +kernel)))))))))) (by decide +kernel)
theorem mw_inst_X11_lureFor : (Cond.instanceMethod yX11_lureFor : Cond) ∈ cw := cw_of (List.mem_append_right _ (List.mem_append_right _ (List.mem_append_right _ (List.mem_append_right _ (List.mem_append_right _ (List.mem_append_right _ (List.mem_append_right _ (List.mem_append_left _ (List.mem_of_getElem? (i := 42) (by decide +kernel)))))))))) (by decide +kernel)
theorem mw_ml_11_347 : (Cond.methodLink RX11 347 yX11_choice : Cond) ∈ cw := cw_of (List.mem_append_right _ (List.mem_append_right _ (List.mem_append_right _ (List.mem_append_right _ (List.mem_append_right _ (List.mem_append_right _ (List.mem_append_left _ (List.mem_of_getElem? (i := 226) (by decide +kernel))))))))) (by decide +kernel)
theorem mw_ml_11_350 : (Cond.methodLink RX11 350 yX11_lureFor : Cond) ∈ cw := cw_of (List.mem_append_right _ (List.mem_append_right _ (List.mem_append_right _ (List.mem_append_right _ (List.mem_append_right _ (List.mem_append_right _ (List.mem_append_right _ (List.mem_append_left _ (List.mem_of_getElem? (i := 40) (by decide +kernel)))))))))) (by decide +kernel)
theorem mw_ml_11_353 : (Cond.methodLink RX11 353 yX11_has : Cond) ∈ cw := cw_of (List.mem_append_right _ (List.mem_append_right _ (List.mem_append_right _ (List.mem_append_right _ (List.mem_append_right _ (List.mem_append_right _ (List.mem_append_right _ (List.mem_append_left _ (List.mem_of_getElem? (i := 44) (by decide +kernel)))))))))) (by decide +kernel)
theorem mw_sel_X11_choice : (Cond.selects RX11 yX11_choice yX11_choice : Cond) ∈ cw := cw_of (List.mem_append_left _ (List.mem_of_getElem? (i := 92) (by decide +kernel))) (by decide +kernel)
theorem mw_sel_X11_has : (Cond.selects RX11 yX11_has yX11_has : Cond) ∈ cw := cw_of (List.mem_append_left _ (List.mem_of_getElem? (i := 105) (by decide +kernel))) (by decide +kernel)
theorem mw_sel_X11_lureFor : (Cond.selects RX11 yX11_lureFor yX11_lureFor : Cond) ∈ cw := cw_of (List.mem_append_left _ (List.mem_of_getElem? (i := 104) (by decide +kernel))) (by decide +kernel)
theorem dX11_passes_0 : decode cX11_passes 0 = .ok (.iconst 0, 1) := by decide +kernel
theorem dX11_passes_1 : decode cX11_passes 1 = .ok (.istore_n 1, 1) := by decide +kernel
theorem dX11_passes_2 : decode cX11_passes 2 = .ok (.iconst 0, 1) := by decide +kernel
theorem dX11_passes_3 : decode cX11_passes 3 = .ok (.istore_n 2, 1) := by decide +kernel
theorem dX11_passes_4 : decode cX11_passes 4 = .ok (.iload_n 2, 1) := by decide +kernel
theorem dX11_passes_5 : decode cX11_passes 5 = .ok (.aload_n 0, 1) := by decide +kernel
theorem dX11_passes_6 : decode cX11_passes 6 = .ok (.getfield 39, 3) := by decide +kernel
theorem dX11_passes_9 : decode cX11_passes 9 = .ok (.iconst 4, 1) := by decide +kernel
theorem dX11_passes_10 : decode cX11_passes 10 = .ok (.iaload, 1) := by decide +kernel
theorem dX11_passes_11 : decode cX11_passes 11 = .ok (.if_icmp .ge 20, 3) := by decide +kernel
theorem dX11_passes_14 : decode cX11_passes 14 = .ok (.aload_n 0, 1) := by decide +kernel
theorem dX11_passes_15 : decode cX11_passes 15 = .ok (.getfield 46, 3) := by decide +kernel
theorem dX11_passes_18 : decode cX11_passes 18 = .ok (.iload_n 2, 1) := by decide +kernel
theorem dX11_passes_19 : decode cX11_passes 19 = .ok (.aload_n 0, 1) := by decide +kernel
theorem dX11_passes_20 : decode cX11_passes 20 = .ok (.iload_n 2, 1) := by decide +kernel
theorem dX11_passes_21 : decode cX11_passes 21 = .ok (.invokevirtual 347, 3) := by decide +kernel
theorem dX11_passes_24 : decode cX11_passes 24 = .ok (.iastore, 1) := by decide +kernel
theorem dX11_passes_25 : decode cX11_passes 25 = .ok (.iinc 2 1, 3) := by decide +kernel
theorem dX11_passes_28 : decode cX11_passes 28 = .ok (.goto (-24), 3) := by decide +kernel
theorem dX11_passes_31 : decode cX11_passes 31 = .ok (.iconst 0, 1) := by decide +kernel
theorem dX11_passes_32 : decode cX11_passes 32 = .ok (.istore_n 2, 1) := by decide +kernel
theorem dX11_passes_33 : decode cX11_passes 33 = .ok (.iload_n 2, 1) := by decide +kernel
theorem dX11_passes_34 : decode cX11_passes 34 = .ok (.aload_n 0, 1) := by decide +kernel
theorem dX11_passes_35 : decode cX11_passes 35 = .ok (.getfield 39, 3) := by decide +kernel
theorem dX11_passes_38 : decode cX11_passes 38 = .ok (.iconst 4, 1) := by decide +kernel
theorem dX11_passes_39 : decode cX11_passes 39 = .ok (.iaload, 1) := by decide +kernel
theorem dX11_passes_40 : decode cX11_passes 40 = .ok (.if_icmp .ge 26, 3) := by decide +kernel
theorem dX11_passes_43 : decode cX11_passes 43 = .ok (.aload_n 0, 1) := by decide +kernel
theorem dX11_passes_44 : decode cX11_passes 44 = .ok (.getfield 39, 3) := by decide +kernel
theorem dX11_passes_47 : decode cX11_passes 47 = .ok (.bipush 29, 2) := by decide +kernel
theorem dX11_passes_49 : decode cX11_passes 49 = .ok (.iconst 3, 1) := by decide +kernel
theorem dX11_passes_50 : decode cX11_passes 50 = .ok (.iload_n 2, 1) := by decide +kernel
theorem dX11_passes_51 : decode cX11_passes 51 = .ok (.imul, 1) := by decide +kernel
theorem dX11_passes_52 : decode cX11_passes 52 = .ok (.iadd, 1) := by decide +kernel
theorem dX11_passes_53 : decode cX11_passes 53 = .ok (.aload_n 0, 1) := by decide +kernel
theorem dX11_passes_54 : decode cX11_passes 54 = .ok (.getfield 46, 3) := by decide +kernel
theorem dX11_passes_57 : decode cX11_passes 57 = .ok (.iload_n 2, 1) := by decide +kernel
theorem dX11_passes_58 : decode cX11_passes 58 = .ok (.iaload, 1) := by decide +kernel
theorem dX11_passes_59 : decode cX11_passes 59 = .ok (.iastore, 1) := by decide +kernel
theorem dX11_passes_60 : decode cX11_passes 60 = .ok (.iinc 2 1, 3) := by decide +kernel
theorem dX11_passes_63 : decode cX11_passes 63 = .ok (.goto (-30), 3) := by decide +kernel
theorem dX11_passes_66 : decode cX11_passes 66 = .ok (.iconst 0, 1) := by decide +kernel
theorem dX11_passes_67 : decode cX11_passes 67 = .ok (.istore_n 2, 1) := by decide +kernel
theorem dX11_passes_68 : decode cX11_passes 68 = .ok (.iload_n 2, 1) := by decide +kernel
theorem dX11_passes_69 : decode cX11_passes 69 = .ok (.aload_n 0, 1) := by decide +kernel
theorem dX11_passes_70 : decode cX11_passes 70 = .ok (.getfield 39, 3) := by decide +kernel
theorem dX11_passes_73 : decode cX11_passes 73 = .ok (.iconst 4, 1) := by decide +kernel
theorem dX11_passes_74 : decode cX11_passes 74 = .ok (.iaload, 1) := by decide +kernel
theorem dX11_passes_75 : decode cX11_passes 75 = .ok (.if_icmp .ge 49, 3) := by decide +kernel
theorem dX11_passes_78 : decode cX11_passes 78 = .ok (.aload_n 0, 1) := by decide +kernel
theorem dX11_passes_79 : decode cX11_passes 79 = .ok (.getfield 49, 3) := by decide +kernel
theorem dX11_passes_82 : decode cX11_passes 82 = .ok (.iload_n 2, 1) := by decide +kernel
theorem dX11_passes_83 : decode cX11_passes 83 = .ok (.aload_n 0, 1) := by decide +kernel
theorem dX11_passes_84 : decode cX11_passes 84 = .ok (.iload_n 2, 1) := by decide +kernel
theorem dX11_passes_85 : decode cX11_passes 85 = .ok (.invokevirtual 350, 3) := by decide +kernel
theorem dX11_passes_88 : decode cX11_passes 88 = .ok (.iastore, 1) := by decide +kernel
theorem dX11_passes_89 : decode cX11_passes 89 = .ok (.aload_n 0, 1) := by decide +kernel
theorem dX11_passes_90 : decode cX11_passes 90 = .ok (.getfield 49, 3) := by decide +kernel
theorem dX11_passes_93 : decode cX11_passes 93 = .ok (.iload_n 2, 1) := by decide +kernel
theorem dX11_passes_94 : decode cX11_passes 94 = .ok (.iaload, 1) := by decide +kernel
theorem dX11_passes_95 : decode cX11_passes 95 = .ok (.ifCond .ge 6, 3) := by decide +kernel
theorem dX11_passes_98 : decode cX11_passes 98 = .ok (.goto 20, 3) := by decide +kernel
theorem dX11_passes_101 : decode cX11_passes 101 = .ok (.aload_n 0, 1) := by decide +kernel
theorem dX11_passes_102 : decode cX11_passes 102 = .ok (.aload_n 0, 1) := by decide +kernel
theorem dX11_passes_103 : decode cX11_passes 103 = .ok (.getfield 49, 3) := by decide +kernel
theorem dX11_passes_106 : decode cX11_passes 106 = .ok (.iload_n 2, 1) := by decide +kernel
theorem dX11_passes_107 : decode cX11_passes 107 = .ok (.iaload, 1) := by decide +kernel
theorem dX11_passes_108 : decode cX11_passes 108 = .ok (.iload_n 2, 1) := by decide +kernel
theorem dX11_passes_109 : decode cX11_passes 109 = .ok (.invokevirtual 353, 3) := by decide +kernel
theorem dX11_passes_112 : decode cX11_passes 112 = .ok (.iload_n 1, 1) := by decide +kernel
theorem dX11_passes_113 : decode cX11_passes 113 = .ok (.iconst 1, 1) := by decide +kernel
theorem dX11_passes_114 : decode cX11_passes 114 = .ok (.iload_n 2, 1) := by decide +kernel
theorem dX11_passes_115 : decode cX11_passes 115 = .ok (.ishl, 1) := by decide +kernel
theorem dX11_passes_116 : decode cX11_passes 116 = .ok (.ior, 1) := by decide +kernel
theorem dX11_passes_117 : decode cX11_passes 117 = .ok (.istore_n 1, 1) := by decide +kernel
theorem dX11_passes_118 : decode cX11_passes 118 = .ok (.iinc 2 1, 3) := by decide +kernel
theorem dX11_passes_121 : decode cX11_passes 121 = .ok (.goto (-53), 3) := by decide +kernel
theorem dX11_passes_124 : decode cX11_passes 124 = .ok (.aload_n 0, 1) := by decide +kernel
theorem dX11_passes_125 : decode cX11_passes 125 = .ok (.getfield 39, 3) := by decide +kernel
theorem dX11_passes_128 : decode cX11_passes 128 = .ok (.bipush 10, 2) := by decide +kernel
theorem dX11_passes_130 : decode cX11_passes 130 = .ok (.dup2, 1) := by decide +kernel
theorem dX11_passes_131 : decode cX11_passes 131 = .ok (.iaload, 1) := by decide +kernel
theorem dX11_passes_132 : decode cX11_passes 132 = .ok (.iconst 1, 1) := by decide +kernel
theorem dX11_passes_133 : decode cX11_passes 133 = .ok (.iadd, 1) := by decide +kernel
theorem dX11_passes_134 : decode cX11_passes 134 = .ok (.iastore, 1) := by decide +kernel
theorem dX11_passes_135 : decode cX11_passes 135 = .ok (.iload_n 1, 1) := by decide +kernel
theorem dX11_passes_136 : decode cX11_passes 136 = .ok (.ireturn, 1) := by decide +kernel
theorem hd_X11_choice : yX11_choice.cls ≠ "java/lang/invoke/MethodHandle" ∧ yX11_choice.cls ≠ "java/lang/invoke/VarHandle" ∧ (parseMethodDescriptor yX11_choice.desc).map (fun d => d.parameters.length) = some 1 := ⟨by decide +kernel, by decide +kernel, by decide +kernel⟩
theorem hd_X11_has : yX11_has.cls ≠ "java/lang/invoke/MethodHandle" ∧ yX11_has.cls ≠ "java/lang/invoke/VarHandle" ∧ (parseMethodDescriptor yX11_has.desc).map (fun d => d.parameters.length) = some 2 := ⟨by decide +kernel, by decide +kernel, by decide +kernel⟩
theorem hd_X11_lureFor : yX11_lureFor.cls ≠ "java/lang/invoke/MethodHandle" ∧ yX11_lureFor.cls ≠ "java/lang/invoke/VarHandle" ∧ (parseMethodDescriptor yX11_lureFor.desc).map (fun d => d.parameters.length) = some 1 := ⟨by decide +kernel, by decide +kernel, by decide +kernel⟩
set_option maxHeartbeats 4000000 in
set_option maxRecDepth 100000 in
theorem v_passes (l : Launch) (D : va_G) (K : Nat → ClassId) (ad : Nat → Nat) (z : TS) (o : Ok z) (wf : WFc z) : cI l yX11_passes cX11_passes 3 .int ({ frames := 6, cells := 0, slots := 0, locals := 146 }) D K ad z [.ref (ad 386)] (fun r u => Ok u ∧ KM z u) := by
  refine t_enterI (by decide) (Nat.le_of_ble_eq_true rfl) rfl rfl ?_
  intro p e s m args below meth c A R Q H locs ls E hfr hlo RET G hl
  have E : mE p s m meth c cX11_passes args 3 RX11 D K A := E
  have hl : lv_has ls 3 [(0, .ref (ad 386))] := hl
  refine lv_iconst (v := 0) E.1 E.2.1 dX11_passes_0 (by decide) ?_
  refine lv_istore_n (lv' := [(1, .int 0), (0, .ref (ad 386))]) E.1 E.2.1 dX11_passes_1 rfl hl (by decide) rfl (fun ls hl => ?_)
  refine lv_iconst (v := 0) E.1 E.2.1 dX11_passes_2 (by decide) ?_
  refine lv_istore_n (lv' := [(2, .int 0), (1, .int 0), (0, .ref (ad 386))]) E.1 E.2.1 dX11_passes_3 rfl hl (by decide) rfl (fun ls hl => ?_)
  have LOOP4 : ∀ n : Nat, ∀ (zz2 : TS) (y1 : Int32) (H : Heap) (locs : List Loc) (ls : Array Slot), mG D A s H locs (wd K ad zz2) → Ok zz2 → KM z zz2 → iv 0 5 y1 → 5 < y1.toInt + (n : Int) → lv_has ls 3 [(2, .int y1), (1, .int 0), (0, .ref (ad 386))] → W p l e R s m args below meth c H locs 0 0 Q (F0 m 4 ls []) := by
    intro n
    induction n with
    | zero =>
      intro zz2 y1 H locs ls G oo3 kk4 b6 m5 hl
      exact absurd m5 (by have := b6.1; have := b6.2; omega)
    | succ n ih4 =>
      intro zz2 y1 H locs ls G oo3 kk4 b6 m5 hl
      refine lv_iload_n E.1 E.2.1 dX11_passes_4 rfl (lv_at hl 0 rfl) ?_
      refine lv_aload_n E.1 E.2.1 dX11_passes_5 rfl (lv_at hl 2 rfl) ?_
      refine t_get E G 11 20 (rfl : ro 386 = 11) (C := RX11) (T := TX11) (N := 37) rfl (by decide) (by decide) (by decide) mw_fl_11_39 (v := .ref (ad 396)) (fvl_o (n := 10) rfl) dX11_passes_6 ?_
      refine lv_iconst (v := 4) E.1 E.2.1 dX11_passes_9 (by decide) ?_
      refine t_iald E G 54 (rfl : ro 396 = 54) (by decide) (by decide) rfl (n := 127) rfl (by unfold vp_in; decide) dX11_passes_10 ?_
      refine lv_topi (fun v7 e8 => ?_)
      have b9 : iv 0 5 v7 := by rw [e8]; exact iv_mono (oo3.a 54 (rfl : ro 396 = 54) _) (by decide +kernel) (by decide +kernel)
      refine lv_icmp_ge (tgt := 31) E.1 E.2.1 dX11_passes_11 (by decide) (fun c10 => ?_) (fun c10 => ?_)
      · skip
        refine lv_iconst (v := 0) E.1 E.2.1 dX11_passes_31 (by decide) ?_
        refine lv_istore_n (lv' := [(2, .int 0), (1, .int 0), (0, .ref (ad 386))]) E.1 E.2.1 dX11_passes_32 rfl hl (by decide) rfl (fun ls hl => ?_)
        have LOOP33 : ∀ n : Nat, ∀ (zz12 : TS) (y11 : Int32) (H : Heap) (locs : List Loc) (ls : Array Slot), mG D A s H locs (wd K ad zz12) → Ok zz12 → KM z zz12 → iv 0 5 y11 → 5 < y11.toInt + (n : Int) → lv_has ls 3 [(2, .int y11), (1, .int 0), (0, .ref (ad 386))] → W p l e R s m args below meth c H locs 0 0 Q (F0 m 33 ls []) := by
          intro n
          induction n with
          | zero =>
            intro zz12 y11 H locs ls G oo13 kk14 b16 m15 hl
            exact absurd m15 (by have := b16.1; have := b16.2; omega)
          | succ n ih33 =>
            intro zz12 y11 H locs ls G oo13 kk14 b16 m15 hl
            refine lv_iload_n E.1 E.2.1 dX11_passes_33 rfl (lv_at hl 0 rfl) ?_
            refine lv_aload_n E.1 E.2.1 dX11_passes_34 rfl (lv_at hl 2 rfl) ?_
            refine t_get E G 11 20 (rfl : ro 386 = 11) (C := RX11) (T := TX11) (N := 37) rfl (by decide) (by decide) (by decide) mw_fl_11_39 (v := .ref (ad 396)) (fvl_o (n := 10) rfl) dX11_passes_35 ?_
            refine lv_iconst (v := 4) E.1 E.2.1 dX11_passes_38 (by decide) ?_
            refine t_iald E G 54 (rfl : ro 396 = 54) (by decide) (by decide) rfl (n := 127) rfl (by unfold vp_in; decide) dX11_passes_39 ?_
            refine lv_topi (fun v17 e18 => ?_)
            have b19 : iv 0 5 v17 := by rw [e18]; exact iv_mono (oo13.a 54 (rfl : ro 396 = 54) _) (by decide +kernel) (by decide +kernel)
            refine lv_icmp_ge (tgt := 66) E.1 E.2.1 dX11_passes_40 (by decide) (fun c20 => ?_) (fun c20 => ?_)
            · skip
              refine lv_iconst (v := 0) E.1 E.2.1 dX11_passes_66 (by decide) ?_
              refine lv_istore_n (lv' := [(2, .int 0), (1, .int 0), (0, .ref (ad 386))]) E.1 E.2.1 dX11_passes_67 rfl hl (by decide) rfl (fun ls hl => ?_)
              have LOOP68 : ∀ n : Nat, ∀ (zz23 : TS) (y21 : Int32) (y22 : Int32) (H : Heap) (locs : List Loc) (ls : Array Slot), mG D A s H locs (wd K ad zz23) → Ok zz23 → KM z zz23 → iv 0 5 y21 → 5 < y21.toInt + (n : Int) → lv_has ls 3 [(2, .int y21), (1, .int y22), (0, .ref (ad 386))] → W p l e R s m args below meth c H locs 0 0 Q (F0 m 68 ls []) := by
                intro n
                induction n with
                | zero =>
                  intro zz23 y21 y22 H locs ls G oo24 kk25 b27 m26 hl
                  exact absurd m26 (by have := b27.1; have := b27.2; omega)
                | succ n ih68 =>
                  intro zz23 y21 y22 H locs ls G oo24 kk25 b27 m26 hl
                  refine lv_iload_n E.1 E.2.1 dX11_passes_68 rfl (lv_at hl 0 rfl) ?_
                  refine lv_aload_n E.1 E.2.1 dX11_passes_69 rfl (lv_at hl 2 rfl) ?_
                  refine t_get E G 11 20 (rfl : ro 386 = 11) (C := RX11) (T := TX11) (N := 37) rfl (by decide) (by decide) (by decide) mw_fl_11_39 (v := .ref (ad 396)) (fvl_o (n := 10) rfl) dX11_passes_70 ?_
                  refine lv_iconst (v := 4) E.1 E.2.1 dX11_passes_73 (by decide) ?_
                  refine t_iald E G 54 (rfl : ro 396 = 54) (by decide) (by decide) rfl (n := 127) rfl (by unfold vp_in; decide) dX11_passes_74 ?_
                  refine lv_topi (fun v28 e29 => ?_)
                  have b30 : iv 0 5 v28 := by rw [e29]; exact iv_mono (oo24.a 54 (rfl : ro 396 = 54) _) (by decide +kernel) (by decide +kernel)
                  refine lv_icmp_ge (tgt := 124) E.1 E.2.1 dX11_passes_75 (by decide) (fun c31 => ?_) (fun c31 => ?_)
                  · skip
                    refine lv_aload_n E.1 E.2.1 dX11_passes_124 rfl (lv_at hl 2 rfl) ?_
                    refine t_get E G 11 20 (rfl : ro 386 = 11) (C := RX11) (T := TX11) (N := 37) rfl (by decide) (by decide) (by decide) mw_fl_11_39 (v := .ref (ad 396)) (fvl_o (n := 10) rfl) dX11_passes_125 ?_
                    refine lv_bipush (v := 10) E.1 E.2.1 dX11_passes_128 (by decide) ?_
                    refine lv_dup2_11 E.1 E.2.1 dX11_passes_130 rfl rfl ?_
                    refine t_iald E G 54 (rfl : ro 396 = 54) (by decide) (by decide) rfl (n := 127) rfl (by unfold vp_in; decide) dX11_passes_131 ?_
                    refine lv_topi (fun v32 e33 => ?_)
                    refine lv_iconst (v := 1) E.1 E.2.1 dX11_passes_132 (by decide) ?_
                    refine lv_iadd E.1 E.2.1 dX11_passes_133 ?_
                    refine lv_topi (fun v34 e35 => ?_)
                    refine t_iast E G 54 (rfl : ro 396 = 54) (by decide) (by decide) rfl (n := 127) rfl (by unfold vp_in; decide) dX11_passes_134 (fun H locs G => ?_)
                    obtain ⟨zz36, G, oo37, kk38⟩ : ∃ u : TS, mG D A s H locs (wd K ad u) ∧ Ok u ∧ KM z u := ⟨_, G, ok_u oo24 54 (rfl : ro 396 = 54) (iv_mono (iv_full v34) (by decide +kernel) (by decide +kernel)) (by decide), KF.tr kk25 (KF_r 54 (rfl : ro 396 = 54) (by decide))⟩
                    refine lv_iload_n E.1 E.2.1 dX11_passes_135 rfl (lv_at hl 1 rfl) ?_
                    exact RET G ⟨oo37, kk38⟩ rfl dX11_passes_136
                  · skip
                    have b39 : iv 0 4 y21 := lt_l (Int32.not_le.mp c31) b27 b30 (by decide)
                    have b40 : iv 1 5 v28 := lt_r (Int32.not_le.mp c31) b27 b30 (by decide)
                    refine lv_aload_n E.1 E.2.1 dX11_passes_78 rfl (lv_at hl 2 rfl) ?_
                    refine t_get E G 11 24 (rfl : ro 386 = 11) (C := RX11) (T := TX11) (N := 37) rfl (by decide) (by decide) (by decide) mw_fl_11_49 (v := .ref (ad 398)) (fvl_o (n := 12) rfl) dX11_passes_79 ?_
                    refine lv_iload_n E.1 E.2.1 dX11_passes_82 rfl (lv_at hl 0 rfl) ?_
                    refine lv_aload_n E.1 E.2.1 dX11_passes_83 rfl (lv_at hl 2 rfl) ?_
                    refine lv_iload_n E.1 E.2.1 dX11_passes_84 rfl (lv_at hl 0 rfl) ?_
                    refine t_vi E G hl (v_lureFor l D K ad zz23 oo24 y21 (iv_mono b39 (by decide) (by decide))) 11 (rfl : ro 386 = 11) (by decide) rfl rfl 1 rfl mw_code_X11_lureFor mw_ini_11 mw_ml_11_350 mw_inst_X11_lureFor mw_sel_X11_lureFor hd_X11_lureFor ⟨Nat.le_trans (by decide) hfr, Nat.le_trans (by decide) hlo⟩ rfl rfl rfl (Nat.le_of_ble_eq_true rfl) dX11_passes_85 (fun r42 zz41 H locs hp43 G => ?_)
                    obtain ⟨hz45, b44⟩ := hp43
                    rw [hz45] at G
                    refine t_iast E G 56 (rfl : ro 398 = 56) (by decide) (by decide) rfl (n := 5) rfl (iv_vp b39 (by decide) (by decide)) dX11_passes_88 (fun H locs G => ?_)
                    obtain ⟨zz46, G, oo47, kk48⟩ : ∃ u : TS, mG D A s H locs (wd K ad u) ∧ Ok u ∧ KM z u := ⟨_, G, ok_u oo24 56 (rfl : ro 398 = 56) (wr_u (by decide) (iv_mono b44 (by decide) (by decide))) (by decide), KF.tr kk25 (KF_r 56 (rfl : ro 398 = 56) (by decide))⟩
                    refine lv_aload_n E.1 E.2.1 dX11_passes_89 rfl (lv_at hl 2 rfl) ?_
                    refine t_get E G 11 24 (rfl : ro 386 = 11) (C := RX11) (T := TX11) (N := 37) rfl (by decide) (by decide) (by decide) mw_fl_11_49 (v := .ref (ad 398)) (fvl_o (n := 12) rfl) dX11_passes_90 ?_
                    refine lv_iload_n E.1 E.2.1 dX11_passes_93 rfl (lv_at hl 0 rfl) ?_
                    refine t_iald E G 56 (rfl : ro 398 = 56) (by decide) (by decide) rfl (n := 5) rfl (iv_vp b39 (by decide) (by decide)) dX11_passes_94 ?_
                    refine lv_topi (fun v49 e50 => ?_)
                    have b51 : iv (-1) 5 v49 := by rw [e50]; exact iv_mono (rd_u oo47 56 (rfl : ro 398 = 56) (by decide) _) (by decide) (by decide)
                    refine lv_if_ge (tgt := 101) E.1 E.2.1 dX11_passes_95 (by decide) (fun c52 => ?_) (fun c52 => ?_)
                    · skip
                      have b53 : iv 0 5 v49 := le_r c52 (iv_lit (lo := 0) (hi := 0) 0 (by decide) (by decide)) b51 (by decide)
                      refine lv_aload_n E.1 E.2.1 dX11_passes_101 rfl (lv_at hl 2 rfl) ?_
                      refine lv_aload_n E.1 E.2.1 dX11_passes_102 rfl (lv_at hl 2 rfl) ?_
                      refine t_get E G 11 24 (rfl : ro 386 = 11) (C := RX11) (T := TX11) (N := 37) rfl (by decide) (by decide) (by decide) mw_fl_11_49 (v := .ref (ad 398)) (fvl_o (n := 12) rfl) dX11_passes_103 ?_
                      refine lv_iload_n E.1 E.2.1 dX11_passes_106 rfl (lv_at hl 0 rfl) ?_
                      refine t_iald E G 56 (rfl : ro 398 = 56) (by decide) (by decide) rfl (n := 5) rfl (iv_vp b39 (by decide) (by decide)) dX11_passes_107 ?_
                      refine m_ci v49 e50.symm ?_
                      refine lv_iload_n E.1 E.2.1 dX11_passes_108 rfl (lv_at hl 0 rfl) ?_
                      refine t_vv E G hl (v_has l D K ad zz46 oo47 v49 (iv_mono b53 (by decide) (by decide)) y21 (iv_mono b39 (by decide) (by decide))) 11 (rfl : ro 386 = 11) (by decide) rfl rfl 2 rfl mw_code_X11_has mw_ini_11 mw_ml_11_353 mw_inst_X11_has mw_sel_X11_has hd_X11_has ⟨Nat.le_trans (by decide) hfr, Nat.le_trans (by decide) hlo⟩ rfl rfl rfl (Nat.le_of_ble_eq_true rfl) dX11_passes_109 (fun zz54 H locs hp56 G => ?_)
                      obtain ⟨oo57, kk58⟩ := hp56
                      have kk59 : KM z zz54 := KF.tr kk48 kk58
                      refine lv_iload_n E.1 E.2.1 dX11_passes_112 rfl (lv_at hl 1 rfl) ?_
                      refine lv_iconst (v := 1) E.1 E.2.1 dX11_passes_113 (by decide) ?_
                      refine lv_iload_n E.1 E.2.1 dX11_passes_114 rfl (lv_at hl 0 rfl) ?_
                      refine lv_ishl E.1 E.2.1 dX11_passes_115 ?_
                      refine lv_topi (fun v60 e61 => ?_)
                      have b62 : iv 1 256 v60 := by rw [e61]; exact iv_shl8 (iv_mono b39 (by decide) (by decide))
                      refine lv_ior E.1 E.2.1 dX11_passes_116 ?_
                      refine lv_topi (fun v63 e64 => ?_)
                      refine lv_istore_n (lv' := [(1, .int v63), (2, .int y21), (0, .ref (ad 386))]) E.1 E.2.1 dX11_passes_117 rfl hl (by decide) rfl (fun ls hl => ?_)
                      obtain ⟨v65, e66⟩ : ∃ w : Int32, w = y21 + (1 : Int32) := ⟨_, rfl⟩
                      refine lv_iinc (v := v65) (lv' := [(2, .int v65), (1, .int v63), (0, .ref (ad 386))]) E.1 E.2.1 dX11_passes_118 hl (k := 1) rfl (by rw [e66]; rfl) (by decide) rfl (fun ls hl => ?_)
                      have b67 : iv 1 5 v65 := by rw [e66]; exact iv_add b39 (iv_lit (lo := 1) (hi := 1) 1 (by decide) (by decide)) (by decide) (by decide) (by decide) (by decide)
                      have t68 : v65.toInt = y21.toInt + 1 := by rw [e66]; exact ti_addc 1 (by decide) b39 (by decide) (by decide)
                      refine lv_goto (tgt := 68) E.1 E.2.1 dX11_passes_121 (by decide) ?_
                      exact ih68 zz54 v65 v63 H locs ls G oo57 kk59 (iv_mono b67 (by decide) (by decide)) (by have := t68; have := m26; omega) (lv_sub hl [0, 1, 2] rfl)
                    · skip
                      have b69 : iv (-1) (-1) v49 := lt_l (Int32.not_le.mp c52) b51 (iv_lit (lo := 0) (hi := 0) 0 (by decide) (by decide)) (by decide)
                      refine lv_goto (tgt := 118) E.1 E.2.1 dX11_passes_98 (by decide) ?_
                      obtain ⟨v70, e71⟩ : ∃ w : Int32, w = y21 + (1 : Int32) := ⟨_, rfl⟩
                      refine lv_iinc (v := v70) (lv' := [(2, .int v70), (1, .int y22), (0, .ref (ad 386))]) E.1 E.2.1 dX11_passes_118 hl (k := 0) rfl (by rw [e71]; rfl) (by decide) rfl (fun ls hl => ?_)
                      have b72 : iv 1 5 v70 := by rw [e71]; exact iv_add b39 (iv_lit (lo := 1) (hi := 1) 1 (by decide) (by decide)) (by decide) (by decide) (by decide) (by decide)
                      have t73 : v70.toInt = y21.toInt + 1 := by rw [e71]; exact ti_addc 1 (by decide) b39 (by decide) (by decide)
                      refine lv_goto (tgt := 68) E.1 E.2.1 dX11_passes_121 (by decide) ?_
                      exact ih68 zz46 v70 y22 H locs ls G oo47 kk48 (iv_mono b72 (by decide) (by decide)) (by have := t73; have := m26; omega) (lv_sub hl [0, 1, 2] rfl)
              exact LOOP68 6 zz12 0 0 H locs ls G oo13 kk14 (iv_mono (iv_lit (lo := 0) (hi := 0) 0 (by decide) (by decide)) (by decide) (by decide)) (by have := (iv_lit (lo := 0) (hi := 0) 0 (by decide) (by decide)).1; omega) (lv_sub hl [0, 1, 2] rfl)
            · skip
              have b74 : iv 0 4 y11 := lt_l (Int32.not_le.mp c20) b16 b19 (by decide)
              have b75 : iv 1 5 v17 := lt_r (Int32.not_le.mp c20) b16 b19 (by decide)
              refine lv_aload_n E.1 E.2.1 dX11_passes_43 rfl (lv_at hl 2 rfl) ?_
              refine t_get E G 11 20 (rfl : ro 386 = 11) (C := RX11) (T := TX11) (N := 37) rfl (by decide) (by decide) (by decide) mw_fl_11_39 (v := .ref (ad 396)) (fvl_o (n := 10) rfl) dX11_passes_44 ?_
              refine lv_bipush (v := 29) E.1 E.2.1 dX11_passes_47 (by decide) ?_
              refine lv_iconst (v := 3) E.1 E.2.1 dX11_passes_49 (by decide) ?_
              refine lv_iload_n E.1 E.2.1 dX11_passes_50 rfl (lv_at hl 0 rfl) ?_
              refine lv_imul E.1 E.2.1 dX11_passes_51 ?_
              refine lv_topi (fun v76 e77 => ?_)
              have b78 : iv 0 12 v76 := by rw [e77]; exact iv_mulc' b74 3 (by decide) (by decide) (by decide) (by decide) (by decide) (by decide)
              have l79 : v76.toInt = 0 + 3 * y11.toInt := (show v76.toInt = 3 * y11.toInt by rw [e77]; exact ti_cmul 3 (by decide) (by decide) b74 (by decide) (by decide)).trans (by omega)
              refine lv_iadd E.1 E.2.1 dX11_passes_52 ?_
              refine lv_topi (fun v80 e81 => ?_)
              have b82 : iv 29 41 v80 := by rw [e81]; exact iv_add (iv_lit (lo := 29) (hi := 29) 29 (by decide) (by decide)) b78 (by decide) (by decide) (by decide) (by decide)
              have l83 : v80.toInt = 29 + 3 * y11.toInt := (show v80.toInt = 29 + v76.toInt by rw [e81]; exact ti_cadd 29 (by decide) b78 (by decide) (by decide)).trans (by omega)
              refine lv_aload_n E.1 E.2.1 dX11_passes_53 rfl (lv_at hl 2 rfl) ?_
              refine t_get E G 11 23 (rfl : ro 386 = 11) (C := RX11) (T := TX11) (N := 37) rfl (by decide) (by decide) (by decide) mw_fl_11_46 (v := .ref (ad 397)) (fvl_o (n := 11) rfl) dX11_passes_54 ?_
              refine lv_iload_n E.1 E.2.1 dX11_passes_57 rfl (lv_at hl 0 rfl) ?_
              refine t_iald E G 55 (rfl : ro 397 = 55) (by decide) (by decide) rfl (n := 5) rfl (iv_vp b74 (by decide) (by decide)) dX11_passes_58 ?_
              refine lv_topi (fun v84 e85 => ?_)
              have b86 : iv 0 7 v84 := by rw [e85]; exact iv_mono (rd_u oo13 55 (rfl : ro 397 = 55) (by decide) _) (by decide) (by decide)
              refine t_iast E G 54 (rfl : ro 396 = 54) (by decide) (by decide) rfl (n := 127) rfl (iv_vp b82 (by decide) (by decide)) dX11_passes_59 (fun H locs G => ?_)
              obtain ⟨zz87, G, oo88, kk89⟩ : ∃ u : TS, mG D A s H locs (wd K ad u) ∧ Ok u ∧ KM z u := ⟨_, G, ok_u oo13 54 (rfl : ro 396 = 54) (wr1 29 3 0 4 b86 b74 (l83.trans (by omega)) (by decide +kernel)) (by decide), KF.tr kk14 (KF_r 54 (rfl : ro 396 = 54) (by decide))⟩
              obtain ⟨v90, e91⟩ : ∃ w : Int32, w = y11 + (1 : Int32) := ⟨_, rfl⟩
              refine lv_iinc (v := v90) (lv' := [(2, .int v90), (1, .int 0), (0, .ref (ad 386))]) E.1 E.2.1 dX11_passes_60 hl (k := 0) rfl (by rw [e91]; rfl) (by decide) rfl (fun ls hl => ?_)
              have b92 : iv 1 5 v90 := by rw [e91]; exact iv_add b74 (iv_lit (lo := 1) (hi := 1) 1 (by decide) (by decide)) (by decide) (by decide) (by decide) (by decide)
              have t93 : v90.toInt = y11.toInt + 1 := by rw [e91]; exact ti_addc 1 (by decide) b74 (by decide) (by decide)
              refine lv_goto (tgt := 33) E.1 E.2.1 dX11_passes_63 (by decide) ?_
              exact ih33 zz87 v90 H locs ls G oo88 kk89 (iv_mono b92 (by decide) (by decide)) (by have := t93; have := m15; omega) (lv_sub hl [0, 1, 2] rfl)
        exact LOOP33 6 zz2 0 H locs ls G oo3 kk4 (iv_mono (iv_lit (lo := 0) (hi := 0) 0 (by decide) (by decide)) (by decide) (by decide)) (by have := (iv_lit (lo := 0) (hi := 0) 0 (by decide) (by decide)).1; omega) (lv_sub hl [0, 1, 2] rfl)
      · skip
        have b94 : iv 0 4 y1 := lt_l (Int32.not_le.mp c10) b6 b9 (by decide)
        have b95 : iv 1 5 v7 := lt_r (Int32.not_le.mp c10) b6 b9 (by decide)
        refine lv_aload_n E.1 E.2.1 dX11_passes_14 rfl (lv_at hl 2 rfl) ?_
        refine t_get E G 11 23 (rfl : ro 386 = 11) (C := RX11) (T := TX11) (N := 37) rfl (by decide) (by decide) (by decide) mw_fl_11_46 (v := .ref (ad 397)) (fvl_o (n := 11) rfl) dX11_passes_15 ?_
        refine lv_iload_n E.1 E.2.1 dX11_passes_18 rfl (lv_at hl 0 rfl) ?_
        refine lv_aload_n E.1 E.2.1 dX11_passes_19 rfl (lv_at hl 2 rfl) ?_
        refine lv_iload_n E.1 E.2.1 dX11_passes_20 rfl (lv_at hl 0 rfl) ?_
        refine t_vi E G hl (v_choice l D K ad zz2 oo3 y1 (iv_mono b94 (by decide) (by decide)) (wf_ka wf kk4.2.1 rfl rfl rfl rfl)) 11 (rfl : ro 386 = 11) (by decide) rfl rfl 1 rfl mw_code_X11_choice mw_ini_11 mw_ml_11_347 mw_inst_X11_choice mw_sel_X11_choice hd_X11_choice ⟨Nat.le_trans (by decide) hfr, Nat.le_trans (by decide) hlo⟩ rfl rfl rfl (Nat.le_of_ble_eq_true rfl) dX11_passes_21 (fun r97 zz96 H locs hp98 G => ?_)
        obtain ⟨oo99, kk100, b101, h102⟩ := hp98
        have kk103 : KM z zz96 := KF.tr kk4 (KQ.m kk100)
        refine t_iast E G 55 (rfl : ro 397 = 55) (by decide) (by decide) rfl (n := 5) rfl (iv_vp b94 (by decide) (by decide)) dX11_passes_24 (fun H locs G => ?_)
        obtain ⟨zz104, G, oo105, kk106⟩ : ∃ u : TS, mG D A s H locs (wd K ad u) ∧ Ok u ∧ KM z u := ⟨_, G, ok_u oo99 55 (rfl : ro 397 = 55) (wr_u (by decide) (iv_mono b101 (by decide) (by decide))) (by decide), KF.tr kk103 (KF_r 55 (rfl : ro 397 = 55) (by decide))⟩
        obtain ⟨v107, e108⟩ : ∃ w : Int32, w = y1 + (1 : Int32) := ⟨_, rfl⟩
        refine lv_iinc (v := v107) (lv' := [(2, .int v107), (1, .int 0), (0, .ref (ad 386))]) E.1 E.2.1 dX11_passes_25 hl (k := 0) rfl (by rw [e108]; rfl) (by decide) rfl (fun ls hl => ?_)
        have b109 : iv 1 5 v107 := by rw [e108]; exact iv_add b94 (iv_lit (lo := 1) (hi := 1) 1 (by decide) (by decide)) (by decide) (by decide) (by decide) (by decide)
        have t110 : v107.toInt = y1.toInt + 1 := by rw [e108]; exact ti_addc 1 (by decide) b94 (by decide) (by decide)
        refine lv_goto (tgt := 4) E.1 E.2.1 dX11_passes_28 (by decide) ?_
        exact ih4 zz104 v107 H locs ls G oo105 kk106 (iv_mono b109 (by decide) (by decide)) (by have := t110; have := m5; omega) (lv_sub hl [0, 1, 2] rfl)
  exact LOOP4 6 z 0 H locs ls G o KF.rf (iv_mono (iv_lit (lo := 0) (hi := 0) 0 (by decide) (by decide)) (by decide) (by decide)) (by have := (iv_lit (lo := 0) (hi := 0) 0 (by decide) (by decide)).1; omega) (lv_sub hl [0, 1, 2] rfl)
