theorem mw_code_X8_wouldHave : (Cond.code yX8_wouldHave cX8_wouldHave 4 (some .boolean) : Cond) ∈ cw := cw_of (List.mem_append_right _ (List.mem_append_right _ (List.mem_append_right _ (List.mem_append_right _ (List.mem_append_left _ (List.mem_of_getElem? (i := 110) rfl)))))) (by decide +kernel)
theorem mw_fl_8_60 : (Cond.fieldLink RX8 60 "LureTown$State" "lureCorner" "[I" : Cond) ∈ cw := cw_of (List.mem_append_right _ (List.mem_append_left _ (List.mem_of_getElem? (i := 103) (by decide +kernel)))) (by decide +kernel)
theorem mw_ini_8 : (Cond.initialized RX8 : Cond) ∈ cw := cw_of (List.mem_append_right _ (List.mem_append_left _ (List.mem_of_getElem? (i := 4) (by decide +kernel)))) (by decide +kernel)
theorem mw_inst_X8_wouldHave : (Cond.instanceMethod yX8_wouldHave : Cond) ∈ cw := cw_of (List.mem_append_right _ (List.mem_append_right _ (List.mem_append_right _ (List.mem_append_right _ (List.mem_append_left _ (List.mem_of_getElem? (i := 108) (by decide +kernel))))))) (by decide +kernel)
theorem mw_ml_8_83 : (Cond.methodLink RX8 83 yX8_wouldHave : Cond) ∈ cw := cw_of (List.mem_append_right _ (List.mem_append_right _ (List.mem_append_right _ (List.mem_append_right _ (List.mem_append_left _ (List.mem_of_getElem? (i := 127) (by decide +kernel))))))) (by decide +kernel)
theorem mw_sel_X8_wouldHave : (Cond.selects RX8 yX8_wouldHave yX8_wouldHave : Cond) ∈ cw := cw_of (List.mem_append_right _ (List.mem_append_right _ (List.mem_append_right _ (List.mem_append_right _ (List.mem_append_left _ (List.mem_of_getElem? (i := 109) (by decide +kernel))))))) (by decide +kernel)
theorem dX8_holdsAllWays_0 : decode cX8_holdsAllWays 0 = .ok (.iconst 0, 1) := by decide +kernel
theorem dX8_holdsAllWays_1 : decode cX8_holdsAllWays 1 = .ok (.istore_n 2, 1) := by decide +kernel
theorem dX8_holdsAllWays_2 : decode cX8_holdsAllWays 2 = .ok (.iload_n 2, 1) := by decide +kernel
theorem dX8_holdsAllWays_3 : decode cX8_holdsAllWays 3 = .ok (.aload_n 0, 1) := by decide +kernel
theorem dX8_holdsAllWays_4 : decode cX8_holdsAllWays 4 = .ok (.getfield 9, 3) := by decide +kernel
theorem dX8_holdsAllWays_7 : decode cX8_holdsAllWays 7 = .ok (.if_icmp .ge 32, 3) := by decide +kernel
theorem dX8_holdsAllWays_10 : decode cX8_holdsAllWays 10 = .ok (.iload_n 1, 1) := by decide +kernel
theorem dX8_holdsAllWays_11 : decode cX8_holdsAllWays 11 = .ok (.iload_n 2, 1) := by decide +kernel
theorem dX8_holdsAllWays_12 : decode cX8_holdsAllWays 12 = .ok (.ishr, 1) := by decide +kernel
theorem dX8_holdsAllWays_13 : decode cX8_holdsAllWays 13 = .ok (.iconst 1, 1) := by decide +kernel
theorem dX8_holdsAllWays_14 : decode cX8_holdsAllWays 14 = .ok (.iand, 1) := by decide +kernel
theorem dX8_holdsAllWays_15 : decode cX8_holdsAllWays 15 = .ok (.ifCond .ne 18, 3) := by decide +kernel
theorem dX8_holdsAllWays_18 : decode cX8_holdsAllWays 18 = .ok (.aload_n 0, 1) := by decide +kernel
theorem dX8_holdsAllWays_19 : decode cX8_holdsAllWays 19 = .ok (.getfield 24, 3) := by decide +kernel
theorem dX8_holdsAllWays_22 : decode cX8_holdsAllWays 22 = .ok (.iload_n 2, 1) := by decide +kernel
theorem dX8_holdsAllWays_23 : decode cX8_holdsAllWays 23 = .ok (.iaload, 1) := by decide +kernel
theorem dX8_holdsAllWays_24 : decode cX8_holdsAllWays 24 = .ok (.iload_n 1, 1) := by decide +kernel
theorem dX8_holdsAllWays_25 : decode cX8_holdsAllWays 25 = .ok (.iconst (-1), 1) := by decide +kernel
theorem dX8_holdsAllWays_26 : decode cX8_holdsAllWays 26 = .ok (.ixor, 1) := by decide +kernel
theorem dX8_holdsAllWays_27 : decode cX8_holdsAllWays 27 = .ok (.iand, 1) := by decide +kernel
theorem dX8_holdsAllWays_28 : decode cX8_holdsAllWays 28 = .ok (.ifCond .eq 5, 3) := by decide +kernel
theorem dX8_holdsAllWays_31 : decode cX8_holdsAllWays 31 = .ok (.iconst 0, 1) := by decide +kernel
theorem dX8_holdsAllWays_32 : decode cX8_holdsAllWays 32 = .ok (.ireturn, 1) := by decide +kernel
theorem dX8_holdsAllWays_33 : decode cX8_holdsAllWays 33 = .ok (.iinc 2 1, 3) := by decide +kernel
theorem dX8_holdsAllWays_36 : decode cX8_holdsAllWays 36 = .ok (.goto (-34), 3) := by decide +kernel
theorem dX8_holdsAllWays_39 : decode cX8_holdsAllWays 39 = .ok (.iconst 1, 1) := by decide +kernel
theorem dX8_holdsAllWays_40 : decode cX8_holdsAllWays 40 = .ok (.ireturn, 1) := by decide +kernel
theorem dX8_lureThatHas_0 : decode cX8_lureThatHas 0 = .ok (.iconst 0, 1) := by decide +kernel
theorem dX8_lureThatHas_1 : decode cX8_lureThatHas 1 = .ok (.istore 4, 2) := by decide +kernel
theorem dX8_lureThatHas_3 : decode cX8_lureThatHas 3 = .ok (.iload 4, 2) := by decide +kernel
theorem dX8_lureThatHas_5 : decode cX8_lureThatHas 5 = .ok (.aload_n 0, 1) := by decide +kernel
theorem dX8_lureThatHas_6 : decode cX8_lureThatHas 6 = .ok (.getfield 18, 3) := by decide +kernel
theorem dX8_lureThatHas_9 : decode cX8_lureThatHas 9 = .ok (.if_icmp .ge 34, 3) := by decide +kernel
theorem dX8_lureThatHas_12 : decode cX8_lureThatHas 12 = .ok (.aload_n 1, 1) := by decide +kernel
theorem dX8_lureThatHas_13 : decode cX8_lureThatHas 13 = .ok (.getfield 60, 3) := by decide +kernel
theorem dX8_lureThatHas_16 : decode cX8_lureThatHas 16 = .ok (.iload 4, 2) := by decide +kernel
theorem dX8_lureThatHas_18 : decode cX8_lureThatHas 18 = .ok (.iaload, 1) := by decide +kernel
theorem dX8_lureThatHas_19 : decode cX8_lureThatHas 19 = .ok (.iload_n 3, 1) := by decide +kernel
theorem dX8_lureThatHas_20 : decode cX8_lureThatHas 20 = .ok (.if_icmp .ne 17, 3) := by decide +kernel
theorem dX8_lureThatHas_23 : decode cX8_lureThatHas 23 = .ok (.aload_n 0, 1) := by decide +kernel
theorem dX8_lureThatHas_24 : decode cX8_lureThatHas 24 = .ok (.aload_n 1, 1) := by decide +kernel
theorem dX8_lureThatHas_25 : decode cX8_lureThatHas 25 = .ok (.iload 4, 2) := by decide +kernel
theorem dX8_lureThatHas_27 : decode cX8_lureThatHas 27 = .ok (.iload_n 2, 1) := by decide +kernel
theorem dX8_lureThatHas_28 : decode cX8_lureThatHas 28 = .ok (.invokevirtual 83, 3) := by decide +kernel
theorem dX8_lureThatHas_31 : decode cX8_lureThatHas 31 = .ok (.ifCond .eq 6, 3) := by decide +kernel
theorem dX8_lureThatHas_34 : decode cX8_lureThatHas 34 = .ok (.iload 4, 2) := by decide +kernel
theorem dX8_lureThatHas_36 : decode cX8_lureThatHas 36 = .ok (.ireturn, 1) := by decide +kernel
theorem dX8_lureThatHas_37 : decode cX8_lureThatHas 37 = .ok (.iinc 4 1, 3) := by decide +kernel
theorem dX8_lureThatHas_40 : decode cX8_lureThatHas 40 = .ok (.goto (-37), 3) := by decide +kernel
theorem dX8_lureThatHas_43 : decode cX8_lureThatHas 43 = .ok (.iconst (-1), 1) := by decide +kernel
theorem dX8_lureThatHas_44 : decode cX8_lureThatHas 44 = .ok (.ireturn, 1) := by decide +kernel
theorem dX8_waysWithin_0 : decode cX8_waysWithin 0 = .ok (.iconst 1, 1) := by decide +kernel
theorem dX8_waysWithin_1 : decode cX8_waysWithin 1 = .ok (.iload_n 1, 1) := by decide +kernel
theorem dX8_waysWithin_2 : decode cX8_waysWithin 2 = .ok (.ishl, 1) := by decide +kernel
theorem dX8_waysWithin_3 : decode cX8_waysWithin 3 = .ok (.istore 4, 2) := by decide +kernel
theorem dX8_waysWithin_5 : decode cX8_waysWithin 5 = .ok (.iconst 0, 1) := by decide +kernel
theorem dX8_waysWithin_6 : decode cX8_waysWithin 6 = .ok (.istore 5, 2) := by decide +kernel
theorem dX8_waysWithin_8 : decode cX8_waysWithin 8 = .ok (.iload 5, 2) := by decide +kernel
theorem dX8_waysWithin_10 : decode cX8_waysWithin 10 = .ok (.aload_n 0, 1) := by decide +kernel
theorem dX8_waysWithin_11 : decode cX8_waysWithin 11 = .ok (.getfield 9, 3) := by decide +kernel
theorem dX8_waysWithin_14 : decode cX8_waysWithin 14 = .ok (.if_icmp .ge 71, 3) := by decide +kernel
theorem dX8_waysWithin_17 : decode cX8_waysWithin 17 = .ok (.iload 4, 2) := by decide +kernel
theorem dX8_waysWithin_19 : decode cX8_waysWithin 19 = .ok (.iload_n 2, 1) := by decide +kernel
theorem dX8_waysWithin_20 : decode cX8_waysWithin 20 = .ok (.ishr, 1) := by decide +kernel
theorem dX8_waysWithin_21 : decode cX8_waysWithin 21 = .ok (.iconst 1, 1) := by decide +kernel
theorem dX8_waysWithin_22 : decode cX8_waysWithin 22 = .ok (.iand, 1) := by decide +kernel
theorem dX8_waysWithin_23 : decode cX8_waysWithin 23 = .ok (.ifCond .eq 6, 3) := by decide +kernel
theorem dX8_waysWithin_26 : decode cX8_waysWithin 26 = .ok (.iload 5, 2) := by decide +kernel
theorem dX8_waysWithin_28 : decode cX8_waysWithin 28 = .ok (.ireturn, 1) := by decide +kernel
theorem dX8_waysWithin_29 : decode cX8_waysWithin 29 = .ok (.iload 4, 2) := by decide +kernel
theorem dX8_waysWithin_31 : decode cX8_waysWithin 31 = .ok (.istore 6, 2) := by decide +kernel
theorem dX8_waysWithin_33 : decode cX8_waysWithin 33 = .ok (.iconst 0, 1) := by decide +kernel
theorem dX8_waysWithin_34 : decode cX8_waysWithin 34 = .ok (.istore 7, 2) := by decide +kernel
theorem dX8_waysWithin_36 : decode cX8_waysWithin 36 = .ok (.iload 7, 2) := by decide +kernel
theorem dX8_waysWithin_38 : decode cX8_waysWithin 38 = .ok (.aload_n 0, 1) := by decide +kernel
theorem dX8_waysWithin_39 : decode cX8_waysWithin 39 = .ok (.getfield 9, 3) := by decide +kernel
theorem dX8_waysWithin_42 : decode cX8_waysWithin 42 = .ok (.if_icmp .ge 33, 3) := by decide +kernel
theorem dX8_waysWithin_45 : decode cX8_waysWithin 45 = .ok (.iload 4, 2) := by decide +kernel
theorem dX8_waysWithin_47 : decode cX8_waysWithin 47 = .ok (.iload 7, 2) := by decide +kernel
theorem dX8_waysWithin_49 : decode cX8_waysWithin 49 = .ok (.ishr, 1) := by decide +kernel
theorem dX8_waysWithin_50 : decode cX8_waysWithin 50 = .ok (.iconst 1, 1) := by decide +kernel
theorem dX8_waysWithin_51 : decode cX8_waysWithin 51 = .ok (.iand, 1) := by decide +kernel
theorem dX8_waysWithin_52 : decode cX8_waysWithin 52 = .ok (.ifCond .eq 17, 3) := by decide +kernel
theorem dX8_waysWithin_55 : decode cX8_waysWithin 55 = .ok (.iload 6, 2) := by decide +kernel
theorem dX8_waysWithin_57 : decode cX8_waysWithin 57 = .ok (.aload_n 0, 1) := by decide +kernel
theorem dX8_waysWithin_58 : decode cX8_waysWithin 58 = .ok (.getfield 24, 3) := by decide +kernel
theorem dX8_waysWithin_61 : decode cX8_waysWithin 61 = .ok (.iload 7, 2) := by decide +kernel
theorem dX8_waysWithin_63 : decode cX8_waysWithin 63 = .ok (.iaload, 1) := by decide +kernel
theorem dX8_waysWithin_64 : decode cX8_waysWithin 64 = .ok (.iload_n 3, 1) := by decide +kernel
theorem dX8_waysWithin_65 : decode cX8_waysWithin 65 = .ok (.iand, 1) := by decide +kernel
theorem dX8_waysWithin_66 : decode cX8_waysWithin 66 = .ok (.ior, 1) := by decide +kernel
theorem dX8_waysWithin_67 : decode cX8_waysWithin 67 = .ok (.istore 6, 2) := by decide +kernel
theorem dX8_waysWithin_69 : decode cX8_waysWithin 69 = .ok (.iinc 7 1, 3) := by decide +kernel
theorem dX8_waysWithin_72 : decode cX8_waysWithin 72 = .ok (.goto (-36), 3) := by decide +kernel
theorem dX8_waysWithin_75 : decode cX8_waysWithin 75 = .ok (.iload 6, 2) := by decide +kernel
theorem dX8_waysWithin_77 : decode cX8_waysWithin 77 = .ok (.istore 4, 2) := by decide +kernel
theorem dX8_waysWithin_79 : decode cX8_waysWithin 79 = .ok (.iinc 5 1, 3) := by decide +kernel
theorem dX8_waysWithin_82 : decode cX8_waysWithin 82 = .ok (.goto (-74), 3) := by decide +kernel
theorem dX8_waysWithin_85 : decode cX8_waysWithin 85 = .ok (.bipush 99, 2) := by decide +kernel
theorem dX8_waysWithin_87 : decode cX8_waysWithin 87 = .ok (.ireturn, 1) := by decide +kernel
theorem hd_X8_wouldHave : yX8_wouldHave.cls ≠ "java/lang/invoke/MethodHandle" ∧ yX8_wouldHave.cls ≠ "java/lang/invoke/VarHandle" ∧ (parseMethodDescriptor yX8_wouldHave.desc).map (fun d => d.parameters.length) = some 3 := ⟨by decide +kernel, by decide +kernel, by decide +kernel⟩
set_option maxHeartbeats 4000000 in
set_option maxRecDepth 100000 in
theorem t_within (l : Launch) (D : va_G) (K : Nat → ClassId) (ad : Nat → Nat) (z : TS) (o : Ok z) (p0 : Nat) (ap0 : at_ 8 p0 = true) (x1 : Int32) (x2 : Int32) (x3 : Int32) : cI l yX8_waysWithin cX8_waysWithin 8 .int ({ frames := 0, cells := 0, slots := 0, locals := 0 }) D K ad z [.ref (ad p0), .int x1, .int x2, .int x3] (fun r u => u = z ∧ iv 0 99 r) := by
  refine t_enterI (by decide) (Nat.le_of_ble_eq_true rfl) rfl rfl ?_
  intro p e s m args below meth c A R Q H locs ls E hfr hlo RET G hl
  have E : mE p s m meth c cX8_waysWithin args 8 RX8 D K A := E
  have hl : lv_has ls 8 [(0, .ref (ad p0)), (1, .int x1), (2, .int x2), (3, .int x3)] := hl
  refine lv_iconst (v := 1) E.1 E.2.1 dX8_waysWithin_0 (by decide) ?_
  refine lv_iload_n E.1 E.2.1 dX8_waysWithin_1 rfl (lv_at hl 1 rfl) ?_
  refine lv_ishl E.1 E.2.1 dX8_waysWithin_2 ?_
  refine lv_topi (fun v1 e2 => ?_)
  refine lv_istore (lv' := [(4, .int v1), (0, .ref (ad p0)), (1, .int x1), (2, .int x2), (3, .int x3)]) E.1 E.2.1 dX8_waysWithin_3 hl (by decide) rfl (fun ls hl => ?_)
  refine lv_iconst (v := 0) E.1 E.2.1 dX8_waysWithin_5 (by decide) ?_
  refine lv_istore (lv' := [(5, .int 0), (4, .int v1), (0, .ref (ad p0)), (1, .int x1), (2, .int x2), (3, .int x3)]) E.1 E.2.1 dX8_waysWithin_6 hl (by decide) rfl (fun ls hl => ?_)
  have LOOP8 : ∀ n : Nat, ∀ (y3 : Int32) (y4 : Int32) (H : Heap) (locs : List Loc) (ls : Array Slot), mG D A s H locs (wd K ad z) → iv 0 8 y3 → 8 < y3.toInt + (n : Int) → lv_has ls 8 [(5, .int y3), (4, .int y4), (0, .ref (ad p0)), (1, .int x1), (2, .int x2), (3, .int x3)] → W p l e R s m args below meth c H locs 0 0 Q (F0 m 8 ls []) := by
    intro n
    induction n with
    | zero =>
      intro y3 y4 H locs ls G b9 m8 hl
      exact absurd m8 (by have := b9.1; have := b9.2; omega)
    | succ n ih8 =>
      intro y3 y4 H locs ls G b9 m8 hl
      refine lv_iload E.1 E.2.1 dX8_waysWithin_8 (lv_at hl 0 rfl) ?_
      refine lv_aload_n E.1 E.2.1 dX8_waysWithin_10 rfl (lv_at hl 2 rfl) ?_
      refine t_get E G 8 0 (at_ro (i := 0) ap0 (by decide) : ro p0 = 8) (C := RX8) (T := TX8) (N := 10) rfl (by decide) (by decide) (by decide) mw_fl_8_9 (fvl_i rfl) dX8_waysWithin_11 ?_
      refine lv_topi (fun v10 e11 => ?_)
      have b12 : iv 0 8 v10 := by rw [e11]; exact o.i 8 0 (at_ro (i := 0) ap0 (by decide) : ro p0 = 8)
      refine lv_icmp_ge (tgt := 85) E.1 E.2.1 dX8_waysWithin_14 (by decide) (fun c13 => ?_) (fun c13 => ?_)
      · skip
        refine lv_bipush (v := 99) E.1 E.2.1 dX8_waysWithin_85 (by decide) ?_
        exact RET G ⟨rfl, (iv_mono (iv_lit (lo := 99) (hi := 99) 99 (by decide) (by decide)) (by decide) (by decide))⟩ rfl dX8_waysWithin_87
      · skip
        have b14 : iv 0 7 y3 := lt_l (Int32.not_le.mp c13) b9 b12 (by decide)
        have b15 : iv 1 8 v10 := lt_r (Int32.not_le.mp c13) b9 b12 (by decide)
        refine lv_iload E.1 E.2.1 dX8_waysWithin_17 (lv_at hl 1 rfl) ?_
        refine lv_iload_n E.1 E.2.1 dX8_waysWithin_19 rfl (lv_at hl 4 rfl) ?_
        refine lv_ishr E.1 E.2.1 dX8_waysWithin_20 ?_
        refine lv_topi (fun v16 e17 => ?_)
        refine lv_iconst (v := 1) E.1 E.2.1 dX8_waysWithin_21 (by decide) ?_
        refine lv_iand E.1 E.2.1 dX8_waysWithin_22 ?_
        refine lv_topi (fun v18 e19 => ?_)
        have b20 : iv 0 1 v18 := by rw [e19]; exact iv_and (iv_lit (lo := 1) (hi := 1) 1 (by decide) (by decide)) (by decide)
        refine lv_if_eq (tgt := 29) E.1 E.2.1 dX8_waysWithin_23 (by decide) (fun c21 => ?_) (fun c21 => ?_)
        · skip
          have b22 : iv 0 0 v18 := iv_eq c21 (iv_lit (lo := 0) (hi := 0) 0 (by decide) (by decide))
          refine lv_iload E.1 E.2.1 dX8_waysWithin_29 (lv_at hl 1 rfl) ?_
          refine lv_istore (lv' := [(6, .int y4), (5, .int y3), (4, .int y4), (0, .ref (ad p0)), (1, .int x1), (2, .int x2), (3, .int x3)]) E.1 E.2.1 dX8_waysWithin_31 hl (by decide) rfl (fun ls hl => ?_)
          refine lv_iconst (v := 0) E.1 E.2.1 dX8_waysWithin_33 (by decide) ?_
          refine lv_istore (lv' := [(7, .int 0), (6, .int y4), (5, .int y3), (4, .int y4), (0, .ref (ad p0)), (1, .int x1), (2, .int x2), (3, .int x3)]) E.1 E.2.1 dX8_waysWithin_34 hl (by decide) rfl (fun ls hl => ?_)
          have LOOP36 : ∀ n : Nat, ∀ (y23 : Int32) (y24 : Int32) (H : Heap) (locs : List Loc) (ls : Array Slot), mG D A s H locs (wd K ad z) → iv 0 8 y23 → 8 < y23.toInt + (n : Int) → lv_has ls 8 [(7, .int y23), (6, .int y24), (5, .int y3), (4, .int y4), (0, .ref (ad p0)), (1, .int x1), (2, .int x2), (3, .int x3)] → W p l e R s m args below meth c H locs 0 0 Q (F0 m 36 ls []) := by
            intro n
            induction n with
            | zero =>
              intro y23 y24 H locs ls G b29 m28 hl
              exact absurd m28 (by have := b29.1; have := b29.2; omega)
            | succ n ih36 =>
              intro y23 y24 H locs ls G b29 m28 hl
              refine lv_iload E.1 E.2.1 dX8_waysWithin_36 (lv_at hl 0 rfl) ?_
              refine lv_aload_n E.1 E.2.1 dX8_waysWithin_38 rfl (lv_at hl 4 rfl) ?_
              refine t_get E G 8 0 (at_ro (i := 0) ap0 (by decide) : ro p0 = 8) (C := RX8) (T := TX8) (N := 10) rfl (by decide) (by decide) (by decide) mw_fl_8_9 (fvl_i rfl) dX8_waysWithin_39 ?_
              refine m_ci v10 e11.symm ?_
              refine lv_icmp_ge (tgt := 75) E.1 E.2.1 dX8_waysWithin_42 (by decide) (fun c30 => ?_) (fun c30 => ?_)
              · skip
                have b31 : iv 1 8 y23 := le_r c30 b15 b29 (by decide)
                refine lv_iload E.1 E.2.1 dX8_waysWithin_75 (lv_at hl 1 rfl) ?_
                refine lv_istore (lv' := [(4, .int y24), (7, .int y23), (6, .int y24), (5, .int y3), (0, .ref (ad p0)), (1, .int x1), (2, .int x2), (3, .int x3)]) E.1 E.2.1 dX8_waysWithin_77 hl (by decide) rfl (fun ls hl => ?_)
                obtain ⟨v32, e33⟩ : ∃ w : Int32, w = y3 + (1 : Int32) := ⟨_, rfl⟩
                refine lv_iinc (v := v32) (lv' := [(5, .int v32), (4, .int y24), (7, .int y23), (6, .int y24), (0, .ref (ad p0)), (1, .int x1), (2, .int x2), (3, .int x3)]) E.1 E.2.1 dX8_waysWithin_79 hl (k := 3) rfl (by rw [e33]; rfl) (by decide) rfl (fun ls hl => ?_)
                have b34 : iv 1 8 v32 := by rw [e33]; exact iv_add b14 (iv_lit (lo := 1) (hi := 1) 1 (by decide) (by decide)) (by decide) (by decide) (by decide) (by decide)
                have t35 : v32.toInt = y3.toInt + 1 := by rw [e33]; exact ti_addc 1 (by decide) b14 (by decide) (by decide)
                refine lv_goto (tgt := 8) E.1 E.2.1 dX8_waysWithin_82 (by decide) ?_
                exact ih8 v32 y24 H locs ls G (iv_mono b34 (by decide) (by decide)) (by have := t35; have := m8; omega) (lv_sub hl [0, 1, 4, 5, 6, 7] rfl)
              · skip
                have b36 : iv 0 7 y23 := lt_l (Int32.not_le.mp c30) b29 b15 (by decide)
                refine lv_iload E.1 E.2.1 dX8_waysWithin_45 (lv_at hl 3 rfl) ?_
                refine lv_iload E.1 E.2.1 dX8_waysWithin_47 (lv_at hl 0 rfl) ?_
                refine lv_ishr E.1 E.2.1 dX8_waysWithin_49 ?_
                refine lv_topi (fun v37 e38 => ?_)
                refine lv_iconst (v := 1) E.1 E.2.1 dX8_waysWithin_50 (by decide) ?_
                refine lv_iand E.1 E.2.1 dX8_waysWithin_51 ?_
                refine lv_topi (fun v39 e40 => ?_)
                have b41 : iv 0 1 v39 := by rw [e40]; exact iv_and (iv_lit (lo := 1) (hi := 1) 1 (by decide) (by decide)) (by decide)
                refine lv_if_eq (tgt := 69) E.1 E.2.1 dX8_waysWithin_52 (by decide) (fun c42 => ?_) (fun c42 => ?_)
                · skip
                  have b43 : iv 0 0 v39 := iv_eq c42 (iv_lit (lo := 0) (hi := 0) 0 (by decide) (by decide))
                  obtain ⟨v44, e45⟩ : ∃ w : Int32, w = y23 + (1 : Int32) := ⟨_, rfl⟩
                  refine lv_iinc (v := v44) (lv' := [(7, .int v44), (6, .int y24), (5, .int y3), (4, .int y4), (0, .ref (ad p0)), (1, .int x1), (2, .int x2), (3, .int x3)]) E.1 E.2.1 dX8_waysWithin_69 hl (k := 0) rfl (by rw [e45]; rfl) (by decide) rfl (fun ls hl => ?_)
                  have b46 : iv 1 8 v44 := by rw [e45]; exact iv_add b36 (iv_lit (lo := 1) (hi := 1) 1 (by decide) (by decide)) (by decide) (by decide) (by decide) (by decide)
                  have t47 : v44.toInt = y23.toInt + 1 := by rw [e45]; exact ti_addc 1 (by decide) b36 (by decide) (by decide)
                  refine lv_goto (tgt := 36) E.1 E.2.1 dX8_waysWithin_72 (by decide) ?_
                  exact ih36 v44 y24 H locs ls G (iv_mono b46 (by decide) (by decide)) (by have := t47; have := m28; omega) (lv_sub hl [0, 1, 2, 3, 4, 5, 6, 7] rfl)
                · skip
                  have b48 : iv 1 1 v39 := ne_lo c42 b41 (by decide) (by decide)
                  refine lv_iload E.1 E.2.1 dX8_waysWithin_55 (lv_at hl 1 rfl) ?_
                  refine lv_aload_n E.1 E.2.1 dX8_waysWithin_57 rfl (lv_at hl 4 rfl) ?_
                  refine t_get E G 8 4 (at_ro (i := 0) ap0 (by decide) : ro p0 = 8) (C := RX8) (T := TX8) (N := 10) rfl (by decide) (by decide) (by decide) mw_fl_8_24 (v := .ref (ad (p0 + 1))) (fvl_o (n := 1) rfl) dX8_waysWithin_58 ?_
                  refine lv_iload E.1 E.2.1 dX8_waysWithin_61 (lv_at hl 0 rfl) ?_
                  refine t_iald E G 24 (at_ro (i := 1) ap0 (by decide) : ro (p0 + 1) = 24) (by decide) (by decide) rfl (n := 8) rfl (iv_vp b36 (by decide) (by decide)) dX8_waysWithin_63 ?_
                  refine lv_topi (fun v49 e50 => ?_)
                  refine lv_iload_n E.1 E.2.1 dX8_waysWithin_64 rfl (lv_at hl 7 rfl) ?_
                  refine lv_iand E.1 E.2.1 dX8_waysWithin_65 ?_
                  refine lv_topi (fun v51 e52 => ?_)
                  refine lv_ior E.1 E.2.1 dX8_waysWithin_66 ?_
                  refine lv_topi (fun v53 e54 => ?_)
                  refine lv_istore (lv' := [(6, .int v53), (7, .int y23), (5, .int y3), (4, .int y4), (0, .ref (ad p0)), (1, .int x1), (2, .int x2), (3, .int x3)]) E.1 E.2.1 dX8_waysWithin_67 hl (by decide) rfl (fun ls hl => ?_)
                  obtain ⟨v55, e56⟩ : ∃ w : Int32, w = y23 + (1 : Int32) := ⟨_, rfl⟩
                  refine lv_iinc (v := v55) (lv' := [(7, .int v55), (6, .int v53), (5, .int y3), (4, .int y4), (0, .ref (ad p0)), (1, .int x1), (2, .int x2), (3, .int x3)]) E.1 E.2.1 dX8_waysWithin_69 hl (k := 1) rfl (by rw [e56]; rfl) (by decide) rfl (fun ls hl => ?_)
                  have b57 : iv 1 8 v55 := by rw [e56]; exact iv_add b36 (iv_lit (lo := 1) (hi := 1) 1 (by decide) (by decide)) (by decide) (by decide) (by decide) (by decide)
                  have t58 : v55.toInt = y23.toInt + 1 := by rw [e56]; exact ti_addc 1 (by decide) b36 (by decide) (by decide)
                  refine lv_goto (tgt := 36) E.1 E.2.1 dX8_waysWithin_72 (by decide) ?_
                  exact ih36 v55 v53 H locs ls G (iv_mono b57 (by decide) (by decide)) (by have := t58; have := m28; omega) (lv_sub hl [0, 1, 2, 3, 4, 5, 6, 7] rfl)
          exact LOOP36 9 0 y4 H locs ls G (iv_mono (iv_lit (lo := 0) (hi := 0) 0 (by decide) (by decide)) (by decide) (by decide)) (by have := (iv_lit (lo := 0) (hi := 0) 0 (by decide) (by decide)).1; omega) (lv_sub hl [0, 1, 2, 3, 4, 5, 6, 7] rfl)
        · skip
          have b59 : iv 1 1 v18 := ne_lo c21 b20 (by decide) (by decide)
          refine lv_iload E.1 E.2.1 dX8_waysWithin_26 (lv_at hl 0 rfl) ?_
          exact RET G ⟨rfl, (iv_mono b14 (by decide) (by decide))⟩ rfl dX8_waysWithin_28
  exact LOOP8 9 0 v1 H locs ls G (iv_mono (iv_lit (lo := 0) (hi := 0) 0 (by decide) (by decide)) (by decide) (by decide)) (by have := (iv_lit (lo := 0) (hi := 0) 0 (by decide) (by decide)).1; omega) (lv_sub hl [0, 1, 2, 3, 4, 5] rfl)
set_option maxHeartbeats 4000000 in
set_option maxRecDepth 100000 in
theorem t_holds (l : Launch) (D : va_G) (K : Nat → ClassId) (ad : Nat → Nat) (z : TS) (o : Ok z) (p0 : Nat) (ap0 : at_ 8 p0 = true) (x1 : Int32) : cI l yX8_holdsAllWays cX8_holdsAllWays 3 .boolean ({ frames := 0, cells := 0, slots := 0, locals := 0 }) D K ad z [.ref (ad p0), .int x1] (fun r u => u = z ∧ iv 0 1 r) := by
  refine t_enterI (by decide) (Nat.le_of_ble_eq_true rfl) rfl rfl ?_
  intro p e s m args below meth c A R Q H locs ls E hfr hlo RET G hl
  have E : mE p s m meth c cX8_holdsAllWays args 3 RX8 D K A := E
  have hl : lv_has ls 3 [(0, .ref (ad p0)), (1, .int x1)] := hl
  refine lv_iconst (v := 0) E.1 E.2.1 dX8_holdsAllWays_0 (by decide) ?_
  refine lv_istore_n (lv' := [(2, .int 0), (0, .ref (ad p0)), (1, .int x1)]) E.1 E.2.1 dX8_holdsAllWays_1 rfl hl (by decide) rfl (fun ls hl => ?_)
  have LOOP2 : ∀ n : Nat, ∀ (y1 : Int32) (H : Heap) (locs : List Loc) (ls : Array Slot), mG D A s H locs (wd K ad z) → iv 0 8 y1 → 8 < y1.toInt + (n : Int) → lv_has ls 3 [(2, .int y1), (0, .ref (ad p0)), (1, .int x1)] → W p l e R s m args below meth c H locs 0 0 Q (F0 m 2 ls []) := by
    intro n
    induction n with
    | zero =>
      intro y1 H locs ls G b6 m5 hl
      exact absurd m5 (by have := b6.1; have := b6.2; omega)
    | succ n ih2 =>
      intro y1 H locs ls G b6 m5 hl
      refine lv_iload_n E.1 E.2.1 dX8_holdsAllWays_2 rfl (lv_at hl 0 rfl) ?_
      refine lv_aload_n E.1 E.2.1 dX8_holdsAllWays_3 rfl (lv_at hl 1 rfl) ?_
      refine t_get E G 8 0 (at_ro (i := 0) ap0 (by decide) : ro p0 = 8) (C := RX8) (T := TX8) (N := 10) rfl (by decide) (by decide) (by decide) mw_fl_8_9 (fvl_i rfl) dX8_holdsAllWays_4 ?_
      refine lv_topi (fun v7 e8 => ?_)
      have b9 : iv 0 8 v7 := by rw [e8]; exact o.i 8 0 (at_ro (i := 0) ap0 (by decide) : ro p0 = 8)
      refine lv_icmp_ge (tgt := 39) E.1 E.2.1 dX8_holdsAllWays_7 (by decide) (fun c10 => ?_) (fun c10 => ?_)
      · skip
        refine lv_iconst (v := 1) E.1 E.2.1 dX8_holdsAllWays_39 (by decide) ?_
        exact RET G ⟨rfl, (iv_mono (iv_lit (lo := 1) (hi := 1) 1 (by decide) (by decide)) (by decide) (by decide))⟩ (by decide) dX8_holdsAllWays_40
      · skip
        have b11 : iv 0 7 y1 := lt_l (Int32.not_le.mp c10) b6 b9 (by decide)
        have b12 : iv 1 8 v7 := lt_r (Int32.not_le.mp c10) b6 b9 (by decide)
        refine lv_iload_n E.1 E.2.1 dX8_holdsAllWays_10 rfl (lv_at hl 2 rfl) ?_
        refine lv_iload_n E.1 E.2.1 dX8_holdsAllWays_11 rfl (lv_at hl 0 rfl) ?_
        refine lv_ishr E.1 E.2.1 dX8_holdsAllWays_12 ?_
        refine lv_topi (fun v13 e14 => ?_)
        refine lv_iconst (v := 1) E.1 E.2.1 dX8_holdsAllWays_13 (by decide) ?_
        refine lv_iand E.1 E.2.1 dX8_holdsAllWays_14 ?_
        refine lv_topi (fun v15 e16 => ?_)
        have b17 : iv 0 1 v15 := by rw [e16]; exact iv_and (iv_lit (lo := 1) (hi := 1) 1 (by decide) (by decide)) (by decide)
        refine lv_if_ne (tgt := 33) E.1 E.2.1 dX8_holdsAllWays_15 (by decide) (fun c18 => ?_) (fun c18 => ?_)
        · skip
          have b19 : iv 1 1 v15 := ne_lo c18 b17 (by decide) (by decide)
          obtain ⟨v20, e21⟩ : ∃ w : Int32, w = y1 + (1 : Int32) := ⟨_, rfl⟩
          refine lv_iinc (v := v20) (lv' := [(2, .int v20), (0, .ref (ad p0)), (1, .int x1)]) E.1 E.2.1 dX8_holdsAllWays_33 hl (k := 0) rfl (by rw [e21]; rfl) (by decide) rfl (fun ls hl => ?_)
          have b22 : iv 1 8 v20 := by rw [e21]; exact iv_add b11 (iv_lit (lo := 1) (hi := 1) 1 (by decide) (by decide)) (by decide) (by decide) (by decide) (by decide)
          have t23 : v20.toInt = y1.toInt + 1 := by rw [e21]; exact ti_addc 1 (by decide) b11 (by decide) (by decide)
          refine lv_goto (tgt := 2) E.1 E.2.1 dX8_holdsAllWays_36 (by decide) ?_
          exact ih2 v20 H locs ls G (iv_mono b22 (by decide) (by decide)) (by have := t23; have := m5; omega) (lv_sub hl [0, 1, 2] rfl)
        · skip
          have b24 : iv 0 0 v15 := iv_eq c18 (iv_lit (lo := 0) (hi := 0) 0 (by decide) (by decide))
          refine lv_aload_n E.1 E.2.1 dX8_holdsAllWays_18 rfl (lv_at hl 1 rfl) ?_
          refine t_get E G 8 4 (at_ro (i := 0) ap0 (by decide) : ro p0 = 8) (C := RX8) (T := TX8) (N := 10) rfl (by decide) (by decide) (by decide) mw_fl_8_24 (v := .ref (ad (p0 + 1))) (fvl_o (n := 1) rfl) dX8_holdsAllWays_19 ?_
          refine lv_iload_n E.1 E.2.1 dX8_holdsAllWays_22 rfl (lv_at hl 0 rfl) ?_
          refine t_iald E G 24 (at_ro (i := 1) ap0 (by decide) : ro (p0 + 1) = 24) (by decide) (by decide) rfl (n := 8) rfl (iv_vp b11 (by decide) (by decide)) dX8_holdsAllWays_23 ?_
          refine lv_topi (fun v25 e26 => ?_)
          refine lv_iload_n E.1 E.2.1 dX8_holdsAllWays_24 rfl (lv_at hl 2 rfl) ?_
          refine lv_iconst (v := (-1)) E.1 E.2.1 dX8_holdsAllWays_25 (by decide) ?_
          refine lv_ixor E.1 E.2.1 dX8_holdsAllWays_26 ?_
          refine lv_topi (fun v27 e28 => ?_)
          refine lv_iand E.1 E.2.1 dX8_holdsAllWays_27 ?_
          refine lv_topi (fun v29 e30 => ?_)
          refine lv_if_eq (tgt := 33) E.1 E.2.1 dX8_holdsAllWays_28 (by decide) (fun c31 => ?_) (fun c31 => ?_)
          · skip
            have b32 : iv 0 0 v29 := iv_eq c31 (iv_lit (lo := 0) (hi := 0) 0 (by decide) (by decide))
            obtain ⟨v33, e34⟩ : ∃ w : Int32, w = y1 + (1 : Int32) := ⟨_, rfl⟩
            refine lv_iinc (v := v33) (lv' := [(2, .int v33), (0, .ref (ad p0)), (1, .int x1)]) E.1 E.2.1 dX8_holdsAllWays_33 hl (k := 0) rfl (by rw [e34]; rfl) (by decide) rfl (fun ls hl => ?_)
            have b35 : iv 1 8 v33 := by rw [e34]; exact iv_add b11 (iv_lit (lo := 1) (hi := 1) 1 (by decide) (by decide)) (by decide) (by decide) (by decide) (by decide)
            have t36 : v33.toInt = y1.toInt + 1 := by rw [e34]; exact ti_addc 1 (by decide) b11 (by decide) (by decide)
            refine lv_goto (tgt := 2) E.1 E.2.1 dX8_holdsAllWays_36 (by decide) ?_
            exact ih2 v33 H locs ls G (iv_mono b35 (by decide) (by decide)) (by have := t36; have := m5; omega) (lv_sub hl [0, 1, 2] rfl)
          · skip
            refine lv_iconst (v := 0) E.1 E.2.1 dX8_holdsAllWays_31 (by decide) ?_
            exact RET G ⟨rfl, (iv_mono (iv_lit (lo := 0) (hi := 0) 0 (by decide) (by decide)) (by decide) (by decide))⟩ (by decide) dX8_holdsAllWays_32
  exact LOOP2 9 0 H locs ls G (iv_mono (iv_lit (lo := 0) (hi := 0) 0 (by decide) (by decide)) (by decide) (by decide)) (by have := (iv_lit (lo := 0) (hi := 0) 0 (by decide) (by decide)).1; omega) (lv_sub hl [0, 1, 2] rfl)
set_option maxHeartbeats 4000000 in
set_option maxRecDepth 100000 in
theorem t_has (l : Launch) (D : va_G) (K : Nat → ClassId) (ad : Nat → Nat) (z : TS) (o : Ok z) (p0 : Nat) (ap0 : at_ 8 p0 = true) (p1 : Nat) (ap1 : at_ 6 p1 = true) (x1 : Int32) (bx1 : iv 0 4 x1) (x2 : Int32) : cI l yX8_lureThatHas cX8_lureThatHas 5 .int ({ frames := 1, cells := 0, slots := 0, locals := 23 }) D K ad z [.ref (ad p0), .ref (ad p1), .int x1, .int x2] (fun r u => u = z ∧ iv (-1) 5 r) := by
  refine t_enterI (by decide) (Nat.le_of_ble_eq_true rfl) rfl rfl ?_
  intro p e s m args below meth c A R Q H locs ls E hfr hlo RET G hl
  have E : mE p s m meth c cX8_lureThatHas args 5 RX8 D K A := E
  have hl : lv_has ls 5 [(0, .ref (ad p0)), (1, .ref (ad p1)), (2, .int x1), (3, .int x2)] := hl
  refine lv_iconst (v := 0) E.1 E.2.1 dX8_lureThatHas_0 (by decide) ?_
  refine lv_istore (lv' := [(4, .int 0), (0, .ref (ad p0)), (1, .ref (ad p1)), (2, .int x1), (3, .int x2)]) E.1 E.2.1 dX8_lureThatHas_1 hl (by decide) rfl (fun ls hl => ?_)
  have LOOP3 : ∀ n : Nat, ∀ (y1 : Int32) (H : Heap) (locs : List Loc) (ls : Array Slot), mG D A s H locs (wd K ad z) → iv 0 6 y1 → 6 < y1.toInt + (n : Int) → lv_has ls 5 [(4, .int y1), (0, .ref (ad p0)), (1, .ref (ad p1)), (2, .int x1), (3, .int x2)] → W p l e R s m args below meth c H locs 0 0 Q (F0 m 3 ls []) := by
    intro n
    induction n with
    | zero =>
      intro y1 H locs ls G b6 m5 hl
      exact absurd m5 (by have := b6.1; have := b6.2; omega)
    | succ n ih3 =>
      intro y1 H locs ls G b6 m5 hl
      refine lv_iload E.1 E.2.1 dX8_lureThatHas_3 (lv_at hl 0 rfl) ?_
      refine lv_aload_n E.1 E.2.1 dX8_lureThatHas_5 rfl (lv_at hl 1 rfl) ?_
      refine t_get E G 8 2 (at_ro (i := 0) ap0 (by decide) : ro p0 = 8) (C := RX8) (T := TX8) (N := 10) rfl (by decide) (by decide) (by decide) mw_fl_8_18 (fvl_i rfl) dX8_lureThatHas_6 ?_
      refine lv_topi (fun v7 e8 => ?_)
      have b9 : iv 0 6 v7 := by rw [e8]; exact o.i 8 2 (at_ro (i := 0) ap0 (by decide) : ro p0 = 8)
      refine lv_icmp_ge (tgt := 43) E.1 E.2.1 dX8_lureThatHas_9 (by decide) (fun c10 => ?_) (fun c10 => ?_)
      · skip
        refine lv_iconst (v := (-1)) E.1 E.2.1 dX8_lureThatHas_43 (by decide) ?_
        exact RET G ⟨rfl, (iv_mono (iv_lit (lo := (-1)) (hi := (-1)) (-1) (by decide) (by decide)) (by decide) (by decide))⟩ rfl dX8_lureThatHas_44
      · skip
        have b11 : iv 0 5 y1 := lt_l (Int32.not_le.mp c10) b6 b9 (by decide)
        have b12 : iv 1 6 v7 := lt_r (Int32.not_le.mp c10) b6 b9 (by decide)
        refine lv_aload_n E.1 E.2.1 dX8_lureThatHas_12 rfl (lv_at hl 2 rfl) ?_
        refine t_get E G 6 4 (at_ro (i := 0) ap1 (by decide) : ro p1 = 6) (C := RX6) (T := TX6) (N := 8) rfl (by decide) (by decide) (by decide) mw_fl_8_60 (v := .ref (ad (p1 + 5))) (fvl_o (n := 5) rfl) dX8_lureThatHas_13 ?_
        refine lv_iload E.1 E.2.1 dX8_lureThatHas_16 (lv_at hl 0 rfl) ?_
        refine t_iald E G 23 (at_ro (i := 5) ap1 (by decide) : ro (p1 + 5) = 23) (by decide) (by decide) rfl (n := 6) rfl (iv_vp b11 (by decide) (by decide)) dX8_lureThatHas_18 ?_
        refine lv_topi (fun v13 e14 => ?_)
        refine lv_iload_n E.1 E.2.1 dX8_lureThatHas_19 rfl (lv_at hl 4 rfl) ?_
        refine lv_icmp_ne (tgt := 37) E.1 E.2.1 dX8_lureThatHas_20 (by decide) (fun c15 => ?_) (fun c15 => ?_)
        · skip
          obtain ⟨v16, e17⟩ : ∃ w : Int32, w = y1 + (1 : Int32) := ⟨_, rfl⟩
          refine lv_iinc (v := v16) (lv' := [(4, .int v16), (0, .ref (ad p0)), (1, .ref (ad p1)), (2, .int x1), (3, .int x2)]) E.1 E.2.1 dX8_lureThatHas_37 hl (k := 0) rfl (by rw [e17]; rfl) (by decide) rfl (fun ls hl => ?_)
          have b18 : iv 1 6 v16 := by rw [e17]; exact iv_add b11 (iv_lit (lo := 1) (hi := 1) 1 (by decide) (by decide)) (by decide) (by decide) (by decide) (by decide)
          have t19 : v16.toInt = y1.toInt + 1 := by rw [e17]; exact ti_addc 1 (by decide) b11 (by decide) (by decide)
          refine lv_goto (tgt := 3) E.1 E.2.1 dX8_lureThatHas_40 (by decide) ?_
          exact ih3 v16 H locs ls G (iv_mono b18 (by decide) (by decide)) (by have := t19; have := m5; omega) (lv_sub hl [0, 1, 2, 3, 4] rfl)
        · skip
          refine lv_aload_n E.1 E.2.1 dX8_lureThatHas_23 rfl (lv_at hl 1 rfl) ?_
          refine lv_aload_n E.1 E.2.1 dX8_lureThatHas_24 rfl (lv_at hl 2 rfl) ?_
          refine lv_iload E.1 E.2.1 dX8_lureThatHas_25 (lv_at hl 0 rfl) ?_
          refine lv_iload_n E.1 E.2.1 dX8_lureThatHas_27 rfl (lv_at hl 3 rfl) ?_
          refine t_vi E G hl (t_wouldHave l D K ad z o p0 ap0 p1 ap1 y1 (iv_mono b11 (by decide) (by decide)) x1 (iv_mono bx1 (by decide) (by decide))) 8 (at_ro (i := 0) ap0 (by decide) : ro p0 = 8) (by decide) rfl rfl 3 rfl mw_code_X8_wouldHave mw_ini_8 mw_ml_8_83 mw_inst_X8_wouldHave mw_sel_X8_wouldHave hd_X8_wouldHave ⟨Nat.le_trans (by decide) hfr, Nat.le_trans (by decide) hlo⟩ rfl rfl rfl (Nat.le_of_ble_eq_true rfl) dX8_lureThatHas_28 (fun r21 zz20 H locs hp22 G => ?_)
          obtain ⟨hz24, b23⟩ := hp22
          rw [hz24] at G
          refine lv_if_eq (tgt := 37) E.1 E.2.1 dX8_lureThatHas_31 (by decide) (fun c25 => ?_) (fun c25 => ?_)
          · skip
            have b26 : iv 0 0 r21 := iv_eq c25 (iv_lit (lo := 0) (hi := 0) 0 (by decide) (by decide))
            obtain ⟨v27, e28⟩ : ∃ w : Int32, w = y1 + (1 : Int32) := ⟨_, rfl⟩
            refine lv_iinc (v := v27) (lv' := [(4, .int v27), (0, .ref (ad p0)), (1, .ref (ad p1)), (2, .int x1), (3, .int x2)]) E.1 E.2.1 dX8_lureThatHas_37 hl (k := 0) rfl (by rw [e28]; rfl) (by decide) rfl (fun ls hl => ?_)
            have b29 : iv 1 6 v27 := by rw [e28]; exact iv_add b11 (iv_lit (lo := 1) (hi := 1) 1 (by decide) (by decide)) (by decide) (by decide) (by decide) (by decide)
            have t30 : v27.toInt = y1.toInt + 1 := by rw [e28]; exact ti_addc 1 (by decide) b11 (by decide) (by decide)
            refine lv_goto (tgt := 3) E.1 E.2.1 dX8_lureThatHas_40 (by decide) ?_
            exact ih3 v27 H locs ls G (iv_mono b29 (by decide) (by decide)) (by have := t30; have := m5; omega) (lv_sub hl [0, 1, 2, 3, 4] rfl)
          · skip
            have b31 : iv 1 1 r21 := ne_lo c25 b23 (by decide) (by decide)
            refine lv_iload E.1 E.2.1 dX8_lureThatHas_34 (lv_at hl 0 rfl) ?_
            exact RET G ⟨rfl, (iv_mono b11 (by decide) (by decide))⟩ rfl dX8_lureThatHas_36
  exact LOOP3 7 0 H locs ls G (iv_mono (iv_lit (lo := 0) (hi := 0) 0 (by decide) (by decide)) (by decide) (by decide)) (by have := (iv_lit (lo := 0) (hi := 0) 0 (by decide) (by decide)).1; omega) (lv_sub hl [0, 1, 2, 3, 4] rfl)
