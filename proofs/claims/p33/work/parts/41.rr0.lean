theorem mw_code_X7_blame : (Cond.code yX7_blame cX7_blame 2 none : Cond) ∈ cw := cw_of (List.mem_append_right _ (List.mem_append_right _ (List.mem_append_right _ (List.mem_append_left _ (List.mem_of_getElem? (i := 112) rfl))))) (by decide +kernel)
theorem mw_fl_5_12 : (Cond.fieldLink RX5 12 "LureTown$RuleReader" "tape" "LLureTown$Tape;" : Cond) ∈ cw := cw_of (List.mem_append_right _ (List.mem_append_left _ (List.mem_of_getElem? (i := 228) (by decide +kernel)))) (by decide +kernel)
theorem mw_fl_5_18 : (Cond.fieldLink RX5 18 "LureTown$RuleReader" "held" "[I" : Cond) ∈ cw := cw_of (List.mem_append_right _ (List.mem_append_left _ (List.mem_of_getElem? (i := 229) (by decide +kernel)))) (by decide +kernel)
theorem mw_fl_5_22 : (Cond.fieldLink RX5 22 "LureTown$RuleReader" "heldCount" "I" : Cond) ∈ cw := cw_of (List.mem_append_right _ (List.mem_append_left _ (List.mem_of_getElem? (i := 230) (by decide +kernel)))) (by decide +kernel)
theorem mw_fl_5_32 : (Cond.fieldLink RX5 32 "LureTown$RuleReader" "parts" "I" : Cond) ∈ cw := cw_of (List.mem_append_right _ (List.mem_append_left _ (List.mem_of_getElem? (i := 233) (by decide +kernel)))) (by decide +kernel)
theorem mw_inst_X7_blame : (Cond.instanceMethod yX7_blame : Cond) ∈ cw := cw_of (List.mem_append_right _ (List.mem_append_right _ (List.mem_append_right _ (List.mem_append_left _ (List.mem_of_getElem? (i := 110) (by decide +kernel)))))) (by decide +kernel)
theorem mw_ml_5_78 : (Cond.methodLink RX5 78 yX7_blame : Cond) ∈ cw := cw_of (List.mem_append_right _ (List.mem_append_right _ (List.mem_append_right _ (List.mem_append_left _ (List.mem_of_getElem? (i := 199) (by decide +kernel)))))) (by decide +kernel)
theorem mw_sel_X7_blame : (Cond.selects RX7 yX7_blame yX7_blame : Cond) ∈ cw := cw_of (List.mem_append_right _ (List.mem_append_right _ (List.mem_append_right _ (List.mem_append_left _ (List.mem_of_getElem? (i := 111) (by decide +kernel)))))) (by decide +kernel)
theorem dX5_hold_0 : decode cX5_hold 0 = .ok (.aload_n 0, 1) := by decide +kernel
theorem dX5_hold_1 : decode cX5_hold 1 = .ok (.getfield 22, 3) := by decide +kernel
theorem dX5_hold_4 : decode cX5_hold 4 = .ok (.aload_n 0, 1) := by decide +kernel
theorem dX5_hold_5 : decode cX5_hold 5 = .ok (.getfield 18, 3) := by decide +kernel
theorem dX5_hold_8 : decode cX5_hold 8 = .ok (.arraylength, 1) := by decide +kernel
theorem dX5_hold_9 : decode cX5_hold 9 = .ok (.if_icmp .ge 23, 3) := by decide +kernel
theorem dX5_hold_12 : decode cX5_hold 12 = .ok (.aload_n 0, 1) := by decide +kernel
theorem dX5_hold_13 : decode cX5_hold 13 = .ok (.getfield 18, 3) := by decide +kernel
theorem dX5_hold_16 : decode cX5_hold 16 = .ok (.aload_n 0, 1) := by decide +kernel
theorem dX5_hold_17 : decode cX5_hold 17 = .ok (.getfield 22, 3) := by decide +kernel
theorem dX5_hold_20 : decode cX5_hold 20 = .ok (.iload_n 1, 1) := by decide +kernel
theorem dX5_hold_21 : decode cX5_hold 21 = .ok (.iastore, 1) := by decide +kernel
theorem dX5_hold_22 : decode cX5_hold 22 = .ok (.aload_n 0, 1) := by decide +kernel
theorem dX5_hold_23 : decode cX5_hold 23 = .ok (.dup, 1) := by decide +kernel
theorem dX5_hold_24 : decode cX5_hold 24 = .ok (.getfield 22, 3) := by decide +kernel
theorem dX5_hold_27 : decode cX5_hold 27 = .ok (.iconst 1, 1) := by decide +kernel
theorem dX5_hold_28 : decode cX5_hold 28 = .ok (.iadd, 1) := by decide +kernel
theorem dX5_hold_29 : decode cX5_hold 29 = .ok (.putfield 22, 3) := by decide +kernel
theorem dX5_hold_32 : decode cX5_hold 32 = .ok (.return_, 1) := by decide +kernel
theorem dX5_rankOf_0 : decode cX5_rankOf 0 = .ok (.iload_n 0, 1) := by decide +kernel
theorem dX5_rankOf_1 : decode cX5_rankOf 1 = .ok (.bipush 25, 2) := by decide +kernel
theorem dX5_rankOf_3 : decode cX5_rankOf 3 = .ok (.if_icmp .lt 12, 3) := by decide +kernel
theorem dX5_rankOf_6 : decode cX5_rankOf 6 = .ok (.iload_n 0, 1) := by decide +kernel
theorem dX5_rankOf_7 : decode cX5_rankOf 7 = .ok (.bipush 27, 2) := by decide +kernel
theorem dX5_rankOf_9 : decode cX5_rankOf 9 = .ok (.if_icmp .gt 6, 3) := by decide +kernel
theorem dX5_rankOf_12 : decode cX5_rankOf 12 = .ok (.bipush 6, 2) := by decide +kernel
theorem dX5_rankOf_14 : decode cX5_rankOf 14 = .ok (.ireturn, 1) := by decide +kernel
theorem dX5_rankOf_15 : decode cX5_rankOf 15 = .ok (.iload_n 0, 1) := by decide +kernel
theorem dX5_rankOf_16 : decode cX5_rankOf 16 = .ok (.bipush 23, 2) := by decide +kernel
theorem dX5_rankOf_18 : decode cX5_rankOf 18 = .ok (.if_icmp .eq 9, 3) := by decide +kernel
theorem dX5_rankOf_21 : decode cX5_rankOf 21 = .ok (.iload_n 0, 1) := by decide +kernel
theorem dX5_rankOf_22 : decode cX5_rankOf 22 = .ok (.bipush 24, 2) := by decide +kernel
theorem dX5_rankOf_24 : decode cX5_rankOf 24 = .ok (.if_icmp .ne 5, 3) := by decide +kernel
theorem dX5_rankOf_27 : decode cX5_rankOf 27 = .ok (.iconst 5, 1) := by decide +kernel
theorem dX5_rankOf_28 : decode cX5_rankOf 28 = .ok (.ireturn, 1) := by decide +kernel
theorem dX5_rankOf_29 : decode cX5_rankOf 29 = .ok (.iload_n 0, 1) := by decide +kernel
theorem dX5_rankOf_30 : decode cX5_rankOf 30 = .ok (.bipush 28, 2) := by decide +kernel
theorem dX5_rankOf_32 : decode cX5_rankOf 32 = .ok (.if_icmp .lt 11, 3) := by decide +kernel
theorem dX5_rankOf_35 : decode cX5_rankOf 35 = .ok (.iload_n 0, 1) := by decide +kernel
theorem dX5_rankOf_36 : decode cX5_rankOf 36 = .ok (.bipush 32, 2) := by decide +kernel
theorem dX5_rankOf_38 : decode cX5_rankOf 38 = .ok (.if_icmp .gt 5, 3) := by decide +kernel
theorem dX5_rankOf_41 : decode cX5_rankOf 41 = .ok (.iconst 4, 1) := by decide +kernel
theorem dX5_rankOf_42 : decode cX5_rankOf 42 = .ok (.ireturn, 1) := by decide +kernel
theorem dX5_rankOf_43 : decode cX5_rankOf 43 = .ok (.iload_n 0, 1) := by decide +kernel
theorem dX5_rankOf_44 : decode cX5_rankOf 44 = .ok (.tableswitch 34 13 15 #[32, 30, 28], 28) := by decide +kernel
theorem dX5_rankOf_72 : decode cX5_rankOf 72 = .ok (.iconst 3, 1) := by decide +kernel
theorem dX5_rankOf_73 : decode cX5_rankOf 73 = .ok (.ireturn, 1) := by decide +kernel
theorem dX5_rankOf_74 : decode cX5_rankOf 74 = .ok (.iconst 2, 1) := by decide +kernel
theorem dX5_rankOf_75 : decode cX5_rankOf 75 = .ok (.ireturn, 1) := by decide +kernel
theorem dX5_rankOf_76 : decode cX5_rankOf 76 = .ok (.iconst 1, 1) := by decide +kernel
theorem dX5_rankOf_77 : decode cX5_rankOf 77 = .ok (.ireturn, 1) := by decide +kernel
theorem dX5_rankOf_78 : decode cX5_rankOf 78 = .ok (.iconst 0, 1) := by decide +kernel
theorem dX5_rankOf_79 : decode cX5_rankOf 79 = .ok (.ireturn, 1) := by decide +kernel
theorem dX5_takePart_0 : decode cX5_takePart 0 = .ok (.aload_n 0, 1) := by decide +kernel
theorem dX5_takePart_1 : decode cX5_takePart 1 = .ok (.getfield 32, 3) := by decide +kernel
theorem dX5_takePart_4 : decode cX5_takePart 4 = .ok (.bipush 60, 2) := by decide +kernel
theorem dX5_takePart_6 : decode cX5_takePart 6 = .ok (.if_icmp .lt 11, 3) := by decide +kernel
theorem dX5_takePart_9 : decode cX5_takePart 9 = .ok (.aload_n 0, 1) := by decide +kernel
theorem dX5_takePart_10 : decode cX5_takePart 10 = .ok (.getfield 12, 3) := by decide +kernel
theorem dX5_takePart_13 : decode cX5_takePart 13 = .ok (.iconst 3, 1) := by decide +kernel
theorem dX5_takePart_14 : decode cX5_takePart 14 = .ok (.invokevirtual 78, 3) := by decide +kernel
theorem dX5_takePart_17 : decode cX5_takePart 17 = .ok (.aload_n 0, 1) := by decide +kernel
theorem dX5_takePart_18 : decode cX5_takePart 18 = .ok (.dup, 1) := by decide +kernel
theorem dX5_takePart_19 : decode cX5_takePart 19 = .ok (.getfield 32, 3) := by decide +kernel
theorem dX5_takePart_22 : decode cX5_takePart 22 = .ok (.iconst 1, 1) := by decide +kernel
theorem dX5_takePart_23 : decode cX5_takePart 23 = .ok (.iadd, 1) := by decide +kernel
theorem dX5_takePart_24 : decode cX5_takePart 24 = .ok (.putfield 32, 3) := by decide +kernel
theorem dX5_takePart_27 : decode cX5_takePart 27 = .ok (.return_, 1) := by decide +kernel
theorem hd_X7_blame : yX7_blame.cls ≠ "java/lang/invoke/MethodHandle" ∧ yX7_blame.cls ≠ "java/lang/invoke/VarHandle" ∧ (parseMethodDescriptor yX7_blame.desc).map (fun d => d.parameters.length) = some 1 := ⟨by decide +kernel, by decide +kernel, by decide +kernel⟩
theorem sw_13_15 (x : Int32) (h1 : ¬ x.toInt < 13) (h2 : ¬ 15 < x.toInt) : x = 13 ∨ x = 14 ∨ x = 15 := by
  have h := (Int32.ofInt_toInt x).symm
  have h3 : ∃ n : Int, n = x.toInt := ⟨_, rfl⟩
  obtain ⟨n, hn⟩ := h3
  rw [← hn] at h h1 h2
  have h4 : n = 13 ∨ n = 14 ∨ n = 15 := by omega
  subst h
  clear hn
  rcases h4 with rfl | rfl | rfl <;> simp
set_option maxHeartbeats 4000000 in
set_option maxRecDepth 100000 in
theorem rr_rankOf (l : Launch) (D : va_G) (K : Nat → ClassId) (ad : Nat → Nat) (z : TS) (o : Ok z) (x1 : Int32) : cI l yX5_rankOf cX5_rankOf 1 .int ({ frames := 0, cells := 0, slots := 0, locals := 0 }) D K ad z [.int x1] (fun r u => u = z ∧ iv 0 6 r) := by
  refine t_enterI (by decide) (Nat.le_of_ble_eq_true rfl) rfl rfl ?_
  intro p e s m args below meth c A R Q H locs ls E hfr hlo RET G hl
  have E : mE p s m meth c cX5_rankOf args 1 RX5 D K A := E
  have hl : lv_has ls 1 [(0, .int x1)] := hl
  refine lv_iload_n E.1 E.2.1 dX5_rankOf_0 rfl (lv_at hl 0 rfl) ?_
  refine lv_bipush (v := 25) E.1 E.2.1 dX5_rankOf_1 (by decide) ?_
  refine lv_icmp_lt (tgt := 15) E.1 E.2.1 dX5_rankOf_3 (by decide) (fun c1 => ?_) (fun c1 => ?_)
  · skip
    have b2 : iv (-2147483648) 24 x1 := lt_l c1 (iv_full x1) (iv_lit (lo := 25) (hi := 25) 25 (by decide) (by decide)) (by decide)
    refine lv_iload_n E.1 E.2.1 dX5_rankOf_15 rfl (lv_at hl 0 rfl) ?_
    refine lv_bipush (v := 23) E.1 E.2.1 dX5_rankOf_16 (by decide) ?_
    refine lv_icmp_eq (tgt := 27) E.1 E.2.1 dX5_rankOf_18 (by decide) (fun c3 => ?_) (fun c3 => ?_)
    · skip
      have b4 : iv 23 23 x1 := iv_eq c3 (iv_lit (lo := 23) (hi := 23) 23 (by decide) (by decide))
      refine lv_iconst (v := 5) E.1 E.2.1 dX5_rankOf_27 (by decide) ?_
      exact RET G ⟨rfl, (iv_mono (iv_lit (lo := 5) (hi := 5) 5 (by decide) (by decide)) (by decide) (by decide))⟩ rfl dX5_rankOf_28
    · skip
      refine lv_iload_n E.1 E.2.1 dX5_rankOf_21 rfl (lv_at hl 0 rfl) ?_
      refine lv_bipush (v := 24) E.1 E.2.1 dX5_rankOf_22 (by decide) ?_
      refine lv_icmp_ne (tgt := 29) E.1 E.2.1 dX5_rankOf_24 (by decide) (fun c5 => ?_) (fun c5 => ?_)
      · skip
        have b6 : iv (-2147483648) 23 x1 := ne_hi c5 b2 (by decide) (by decide)
        refine lv_iload_n E.1 E.2.1 dX5_rankOf_29 rfl (lv_at hl 0 rfl) ?_
        refine lv_bipush (v := 28) E.1 E.2.1 dX5_rankOf_30 (by decide) ?_
        refine lv_icmp_lt (tgt := 43) E.1 E.2.1 dX5_rankOf_32 (by decide) (fun _ => ?_) (fun h => absurd (ivlt b6 (iv_lit (lo := 28) (hi := 28) 28 (by decide) (by decide)) (by decide)) h)
        refine lv_iload_n E.1 E.2.1 dX5_rankOf_43 rfl (lv_at hl 0 rfl) ?_
        rcases Decidable.em (x1.toInt < 13 ∨ 15 < x1.toInt) with c7 | c7
        · refine lv_tableOut (tgt := 78) E.1 E.2.1 dX5_rankOf_44 c7 (by decide) ?_
          refine lv_iconst (v := 0) E.1 E.2.1 dX5_rankOf_78 (by decide) ?_
          exact RET G ⟨rfl, (iv_mono (iv_lit (lo := 0) (hi := 0) 0 (by decide) (by decide)) (by decide) (by decide))⟩ rfl dX5_rankOf_79
        · rcases sw_13_15 x1 (fun h => c7 (Or.inl h)) (fun h => c7 (Or.inr h)) with ee0 | ee1 | ee2
          · refine lv_tableIn (off := 32) (tgt := 76) E.1 E.2.1 dX5_rankOf_44 (by rw [ee0]; decide) (by rw [ee0]; decide) (by rw [ee0]; decide) (by decide) ?_
            refine lv_iconst (v := 1) E.1 E.2.1 dX5_rankOf_76 (by decide) ?_
            exact RET G ⟨rfl, (iv_mono (iv_lit (lo := 1) (hi := 1) 1 (by decide) (by decide)) (by decide) (by decide))⟩ rfl dX5_rankOf_77
          · refine lv_tableIn (off := 30) (tgt := 74) E.1 E.2.1 dX5_rankOf_44 (by rw [ee1]; decide) (by rw [ee1]; decide) (by rw [ee1]; decide) (by decide) ?_
            refine lv_iconst (v := 2) E.1 E.2.1 dX5_rankOf_74 (by decide) ?_
            exact RET G ⟨rfl, (iv_mono (iv_lit (lo := 2) (hi := 2) 2 (by decide) (by decide)) (by decide) (by decide))⟩ rfl dX5_rankOf_75
          · refine lv_tableIn (off := 28) (tgt := 72) E.1 E.2.1 dX5_rankOf_44 (by rw [ee2]; decide) (by rw [ee2]; decide) (by rw [ee2]; decide) (by decide) ?_
            refine lv_iconst (v := 3) E.1 E.2.1 dX5_rankOf_72 (by decide) ?_
            exact RET G ⟨rfl, (iv_mono (iv_lit (lo := 3) (hi := 3) 3 (by decide) (by decide)) (by decide) (by decide))⟩ rfl dX5_rankOf_73
      · skip
        have b9 : iv 24 24 x1 := iv_eq c5 (iv_lit (lo := 24) (hi := 24) 24 (by decide) (by decide))
        refine lv_iconst (v := 5) E.1 E.2.1 dX5_rankOf_27 (by decide) ?_
        exact RET G ⟨rfl, (iv_mono (iv_lit (lo := 5) (hi := 5) 5 (by decide) (by decide)) (by decide) (by decide))⟩ rfl dX5_rankOf_28
  · skip
    have b10 : iv 25 2147483647 x1 := le_r (Int32.not_lt.mp c1) (iv_lit (lo := 25) (hi := 25) 25 (by decide) (by decide)) (iv_full x1) (by decide)
    refine lv_iload_n E.1 E.2.1 dX5_rankOf_6 rfl (lv_at hl 0 rfl) ?_
    refine lv_bipush (v := 27) E.1 E.2.1 dX5_rankOf_7 (by decide) ?_
    refine lv_icmp_gt (tgt := 15) E.1 E.2.1 dX5_rankOf_9 (by decide) (fun c11 => ?_) (fun c11 => ?_)
    · skip
      have b12 : iv 28 2147483647 x1 := lt_r c11 (iv_lit (lo := 27) (hi := 27) 27 (by decide) (by decide)) b10 (by decide)
      refine lv_iload_n E.1 E.2.1 dX5_rankOf_15 rfl (lv_at hl 0 rfl) ?_
      refine lv_bipush (v := 23) E.1 E.2.1 dX5_rankOf_16 (by decide) ?_
      refine lv_icmp_eq (tgt := 27) E.1 E.2.1 dX5_rankOf_18 (by decide) (fun h => absurd h (ivne2 b12 (iv_lit (lo := 23) (hi := 23) 23 (by decide) (by decide)) (by decide))) (fun _ => ?_)
      refine lv_iload_n E.1 E.2.1 dX5_rankOf_21 rfl (lv_at hl 0 rfl) ?_
      refine lv_bipush (v := 24) E.1 E.2.1 dX5_rankOf_22 (by decide) ?_
      refine lv_icmp_ne (tgt := 29) E.1 E.2.1 dX5_rankOf_24 (by decide) (fun _ => ?_) (fun h => absurd h (ivne2 b12 (iv_lit (lo := 24) (hi := 24) 24 (by decide) (by decide)) (by decide)))
      refine lv_iload_n E.1 E.2.1 dX5_rankOf_29 rfl (lv_at hl 0 rfl) ?_
      refine lv_bipush (v := 28) E.1 E.2.1 dX5_rankOf_30 (by decide) ?_
      refine lv_icmp_lt (tgt := 43) E.1 E.2.1 dX5_rankOf_32 (by decide) (fun h => absurd h (ivnlt b12 (iv_lit (lo := 28) (hi := 28) 28 (by decide) (by decide)) (by decide))) (fun _ => ?_)
      refine lv_iload_n E.1 E.2.1 dX5_rankOf_35 rfl (lv_at hl 0 rfl) ?_
      refine lv_bipush (v := 32) E.1 E.2.1 dX5_rankOf_36 (by decide) ?_
      refine lv_icmp_gt (tgt := 43) E.1 E.2.1 dX5_rankOf_38 (by decide) (fun c13 => ?_) (fun c13 => ?_)
      · skip
        have b14 : iv 33 2147483647 x1 := lt_r c13 (iv_lit (lo := 32) (hi := 32) 32 (by decide) (by decide)) b12 (by decide)
        refine lv_iload_n E.1 E.2.1 dX5_rankOf_43 rfl (lv_at hl 0 rfl) ?_
        rcases Decidable.em (x1.toInt < 13 ∨ 15 < x1.toInt) with c15 | c15
        · refine lv_tableOut (tgt := 78) E.1 E.2.1 dX5_rankOf_44 c15 (by decide) ?_
          refine lv_iconst (v := 0) E.1 E.2.1 dX5_rankOf_78 (by decide) ?_
          exact RET G ⟨rfl, (iv_mono (iv_lit (lo := 0) (hi := 0) 0 (by decide) (by decide)) (by decide) (by decide))⟩ rfl dX5_rankOf_79
        · rcases sw_13_15 x1 (fun h => c15 (Or.inl h)) (fun h => c15 (Or.inr h)) with ee0 | ee1 | ee2
          · refine lv_tableIn (off := 32) (tgt := 76) E.1 E.2.1 dX5_rankOf_44 (by rw [ee0]; decide) (by rw [ee0]; decide) (by rw [ee0]; decide) (by decide) ?_
            refine lv_iconst (v := 1) E.1 E.2.1 dX5_rankOf_76 (by decide) ?_
            exact RET G ⟨rfl, (iv_mono (iv_lit (lo := 1) (hi := 1) 1 (by decide) (by decide)) (by decide) (by decide))⟩ rfl dX5_rankOf_77
          · refine lv_tableIn (off := 30) (tgt := 74) E.1 E.2.1 dX5_rankOf_44 (by rw [ee1]; decide) (by rw [ee1]; decide) (by rw [ee1]; decide) (by decide) ?_
            refine lv_iconst (v := 2) E.1 E.2.1 dX5_rankOf_74 (by decide) ?_
            exact RET G ⟨rfl, (iv_mono (iv_lit (lo := 2) (hi := 2) 2 (by decide) (by decide)) (by decide) (by decide))⟩ rfl dX5_rankOf_75
          · refine lv_tableIn (off := 28) (tgt := 72) E.1 E.2.1 dX5_rankOf_44 (by rw [ee2]; decide) (by rw [ee2]; decide) (by rw [ee2]; decide) (by decide) ?_
            refine lv_iconst (v := 3) E.1 E.2.1 dX5_rankOf_72 (by decide) ?_
            exact RET G ⟨rfl, (iv_mono (iv_lit (lo := 3) (hi := 3) 3 (by decide) (by decide)) (by decide) (by decide))⟩ rfl dX5_rankOf_73
      · skip
        have b17 : iv 28 32 x1 := le_l (Int32.not_lt.mp c13) b12 (iv_lit (lo := 32) (hi := 32) 32 (by decide) (by decide)) (by decide)
        refine lv_iconst (v := 4) E.1 E.2.1 dX5_rankOf_41 (by decide) ?_
        exact RET G ⟨rfl, (iv_mono (iv_lit (lo := 4) (hi := 4) 4 (by decide) (by decide)) (by decide) (by decide))⟩ rfl dX5_rankOf_42
    · skip
      have b18 : iv 25 27 x1 := le_l (Int32.not_lt.mp c11) b10 (iv_lit (lo := 27) (hi := 27) 27 (by decide) (by decide)) (by decide)
      refine lv_bipush (v := 6) E.1 E.2.1 dX5_rankOf_12 (by decide) ?_
      exact RET G ⟨rfl, (iv_mono (iv_lit (lo := 6) (hi := 6) 6 (by decide) (by decide)) (by decide) (by decide))⟩ rfl dX5_rankOf_14
set_option maxHeartbeats 4000000 in
set_option maxRecDepth 100000 in
theorem rr_takePart (l : Launch) (D : va_G) (K : Nat → ClassId) (ad : Nat → Nat) (z : TS) (o : Ok z) : cV l yX5_takePart cX5_takePart 1 ({ frames := 1, cells := 0, slots := 0, locals := 21 }) D K ad z [.ref (ad 5)] (fun u => Ok u ∧ KC z u ∧ tI u 0 5 = tI z 0 5) := by
  refine t_enterV (by decide) (Nat.le_of_ble_eq_true rfl) rfl rfl ?_
  intro p e s m args below meth c A R Q H locs ls E hfr hlo RET G hl
  have E : mE p s m meth c cX5_takePart args 1 RX5 D K A := E
  have hl : lv_has ls 1 [(0, .ref (ad 5))] := hl
  refine lv_aload_n E.1 E.2.1 dX5_takePart_0 rfl (lv_at hl 0 rfl) ?_
  refine t_get E G 5 5 (rfl : ro 5 = 5) (C := RX5) (T := TX5) (N := 9) rfl (by decide) (by decide) (by decide) mw_fl_5_32 (fvl_i rfl) dX5_takePart_1 ?_
  refine lv_topi (fun v1 e2 => ?_)
  refine lv_bipush (v := 60) E.1 E.2.1 dX5_takePart_4 (by decide) ?_
  refine lv_icmp_lt (tgt := 17) E.1 E.2.1 dX5_takePart_6 (by decide) (fun c3 => ?_) (fun c3 => ?_)
  · skip
    have b4 : iv (-2147483648) 59 v1 := lt_l c3 (iv_full v1) (iv_lit (lo := 60) (hi := 60) 60 (by decide) (by decide)) (by decide)
    refine lv_aload_n E.1 E.2.1 dX5_takePart_17 rfl (lv_at hl 0 rfl) ?_
    refine lv_dup E.1 E.2.1 dX5_takePart_18 rfl ?_
    refine t_get E G 5 5 (rfl : ro 5 = 5) (C := RX5) (T := TX5) (N := 9) rfl (by decide) (by decide) (by decide) mw_fl_5_32 (fvl_i rfl) dX5_takePart_19 ?_
    refine m_ci v1 e2.symm ?_
    refine lv_iconst (v := 1) E.1 E.2.1 dX5_takePart_22 (by decide) ?_
    refine lv_iadd E.1 E.2.1 dX5_takePart_23 ?_
    refine lv_topi (fun v5 e6 => ?_)
    have b7 : iv (-2147483647) 60 v5 := by rw [e6]; exact iv_add b4 (iv_lit (lo := 1) (hi := 1) 1 (by decide) (by decide)) (by decide) (by decide) (by decide) (by decide)
    refine t_puti E G 5 5 (rfl : ro 5 = 5) (C := RX5) (T := TX5) (N := 9) rfl (by decide) (by decide) (by decide) rfl rfl mw_fl_5_32 rfl dX5_takePart_24 (fun H locs G => ?_)
    obtain ⟨zz8, G, oo9, kk10, h11, h12⟩ : ∃ u : TS, mG D A s H locs (wd K ad u) ∧ Ok u ∧ KC z u ∧ tI u 0 5 = (tI z 0 5) ∧ tI u 5 5 = v5 := ⟨_, G, ok_i o 5 (rfl : ro 5 = 5) (iv_mono b7 (by decide) (by decide)) (by decide), KC.tr KC.rf (KC_i 5 (rfl : ro 5 = 5) (by decide)), (sI_j rfl (by decide)), sI_self⟩
    exact RET G ⟨oo9, kk10, h11⟩ dX5_takePart_27
  · skip
    have b13 : iv 60 2147483647 v1 := le_r (Int32.not_lt.mp c3) (iv_lit (lo := 60) (hi := 60) 60 (by decide) (by decide)) (iv_full v1) (by decide)
    refine lv_aload_n E.1 E.2.1 dX5_takePart_9 rfl (lv_at hl 0 rfl) ?_
    refine t_get E G 5 0 (rfl : ro 5 = 5) (C := RX5) (T := TX5) (N := 9) rfl (by decide) (by decide) (by decide) mw_fl_5_12 (fvl_d rfl) dX5_takePart_10 ?_
    obtain ⟨qq14, eqq14⟩ : ∃ q : Nat, q = tP z 5 0 := ⟨_, rfl⟩
    have aqq14 : at_ 7 qq14 = true := by rw [eqq14]; exact o.p 5 0 (rfl : ro 5 = 5) (by decide)
    rw [← eqq14]
    refine lv_iconst (v := 3) E.1 E.2.1 dX5_takePart_13 (by decide) ?_
    refine t_vv E G hl (tp_blame l D K ad z o qq14 aqq14 (3 : Int32)) 7 (at_ro (i := 0) aqq14 (by decide) : ro qq14 = 7) (by decide) rfl rfl 1 rfl mw_code_X7_blame mw_ini_7 mw_ml_5_78 mw_inst_X7_blame mw_sel_X7_blame hd_X7_blame ⟨Nat.le_trans (by decide) hfr, Nat.le_trans (by decide) hlo⟩ rfl rfl rfl (Nat.le_of_ble_eq_true rfl) dX5_takePart_14 (fun zz15 H locs hp17 G => ?_)
    obtain ⟨oo18, kk19⟩ := hp17
    have kk20 : KC z zz15 := KC.tr KC.rf (KT.c kk19)
    have h21 : tI zz15 0 5 = (tI z 0 5) := KF.i kk19 10 (rfl : ro 0 = 10) (by decide) rfl
    have h22 : tI zz15 5 5 = v1 := KF.i kk19 5 (rfl : ro 5 = 5) (by decide) e2.symm
    have h23 : tP zz15 5 0 = qq14 := KF.p kk19 eqq14.symm
    refine lv_aload_n E.1 E.2.1 dX5_takePart_17 rfl (lv_at hl 0 rfl) ?_
    refine lv_dup E.1 E.2.1 dX5_takePart_18 rfl ?_
    refine t_get E G 5 5 (rfl : ro 5 = 5) (C := RX5) (T := TX5) (N := 9) rfl (by decide) (by decide) (by decide) mw_fl_5_32 (fvl_i rfl) dX5_takePart_19 ?_
    refine m_ci v1 h22 ?_
    refine lv_iconst (v := 1) E.1 E.2.1 dX5_takePart_22 (by decide) ?_
    refine lv_iadd E.1 E.2.1 dX5_takePart_23 ?_
    refine lv_topi (fun v24 e25 => ?_)
    refine t_puti E G 5 5 (rfl : ro 5 = 5) (C := RX5) (T := TX5) (N := 9) rfl (by decide) (by decide) (by decide) rfl rfl mw_fl_5_32 rfl dX5_takePart_24 (fun H locs G => ?_)
    obtain ⟨zz26, G, oo27, kk28, h29, h30, h31⟩ : ∃ u : TS, mG D A s H locs (wd K ad u) ∧ Ok u ∧ KC z u ∧ tI u 0 5 = (tI z 0 5) ∧ tI u 5 5 = v24 ∧ tP u 5 0 = qq14 := ⟨_, G, ok_i oo18 5 (rfl : ro 5 = 5) (iv_mono (iv_full v24) (by decide) (by decide)) (by decide), KC.tr kk20 (KC_i 5 (rfl : ro 5 = 5) (by decide)), (sI_j h21 (by decide)), sI_self, h23⟩
    exact RET G ⟨oo27, kk28, h29⟩ dX5_takePart_27
set_option maxHeartbeats 4000000 in
set_option maxRecDepth 100000 in
theorem rr_hold (l : Launch) (D : va_G) (K : Nat → ClassId) (ad : Nat → Nat) (z : TS) (o : Ok z) (x1 : Int32) (bx1 : iv 0 2147483647 x1) : cV l yX5_hold cX5_hold 2 ({ frames := 0, cells := 0, slots := 0, locals := 0 }) D K ad z [.ref (ad 5), .int x1] (fun u => Ok u ∧ KC z u ∧ tI u 0 5 = tI z 0 5) := by
  refine t_enterV (by decide) (Nat.le_of_ble_eq_true rfl) rfl rfl ?_
  intro p e s m args below meth c A R Q H locs ls E hfr hlo RET G hl
  have E : mE p s m meth c cX5_hold args 2 RX5 D K A := E
  have hl : lv_has ls 2 [(0, .ref (ad 5)), (1, .int x1)] := hl
  refine lv_aload_n E.1 E.2.1 dX5_hold_0 rfl (lv_at hl 0 rfl) ?_
  refine t_get E G 5 2 (rfl : ro 5 = 5) (C := RX5) (T := TX5) (N := 9) rfl (by decide) (by decide) (by decide) mw_fl_5_22 (fvl_i rfl) dX5_hold_1 ?_
  refine lv_topi (fun v1 e2 => ?_)
  have b3 : iv 0 400 v1 := by rw [e2]; exact o.i 5 2 (rfl : ro 5 = 5)
  refine lv_aload_n E.1 E.2.1 dX5_hold_4 rfl (lv_at hl 0 rfl) ?_
  refine t_get E G 5 1 (rfl : ro 5 = 5) (C := RX5) (T := TX5) (N := 9) rfl (by decide) (by decide) (by decide) mw_fl_5_18 (v := .ref (ad 6)) (fvl_o (n := 1) rfl) dX5_hold_5 ?_
  refine t_alen E G 35 0 (rfl : ro 6 = 35) (by decide) (by decide) rfl rfl (v := 400) (by decide) dX5_hold_8 ?_
  refine lv_icmp_ge (tgt := 32) E.1 E.2.1 dX5_hold_9 (by decide) (fun c4 => ?_) (fun c4 => ?_)
  · skip
    have b5 : iv 400 400 v1 := le_r c4 (iv_lit (lo := 400) (hi := 400) 400 (by decide) (by decide)) b3 (by decide)
    exact RET G ⟨o, KC.rf, rfl⟩ dX5_hold_32
  · skip
    have b6 : iv 0 399 v1 := lt_l (Int32.not_le.mp c4) b3 (iv_lit (lo := 400) (hi := 400) 400 (by decide) (by decide)) (by decide)
    refine lv_aload_n E.1 E.2.1 dX5_hold_12 rfl (lv_at hl 0 rfl) ?_
    refine t_get E G 5 1 (rfl : ro 5 = 5) (C := RX5) (T := TX5) (N := 9) rfl (by decide) (by decide) (by decide) mw_fl_5_18 (v := .ref (ad 6)) (fvl_o (n := 1) rfl) dX5_hold_13 ?_
    refine lv_aload_n E.1 E.2.1 dX5_hold_16 rfl (lv_at hl 0 rfl) ?_
    refine t_get E G 5 2 (rfl : ro 5 = 5) (C := RX5) (T := TX5) (N := 9) rfl (by decide) (by decide) (by decide) mw_fl_5_22 (fvl_i rfl) dX5_hold_17 ?_
    refine m_ci v1 e2.symm ?_
    refine lv_iload_n E.1 E.2.1 dX5_hold_20 rfl (lv_at hl 1 rfl) ?_
    refine t_iast E G 35 (rfl : ro 6 = 35) (by decide) (by decide) rfl (n := 400) rfl (iv_vp b6 (by decide) (by decide)) dX5_hold_21 (fun H locs G => ?_)
    obtain ⟨zz7, G, oo8, kk9, h10, h11⟩ : ∃ u : TS, mG D A s H locs (wd K ad u) ∧ Ok u ∧ KC z u ∧ tI u 0 5 = (tI z 0 5) ∧ tI u 5 2 = v1 := ⟨_, G, ok_uc o 35 (rfl : ro 6 = 35) (by decide) (iv_mono bx1 (by decide) (by decide)) (by decide), KC.tr KC.rf (KC_r 35 (rfl : ro 6 = 35) (by decide)), rfl, e2.symm⟩
    refine lv_aload_n E.1 E.2.1 dX5_hold_22 rfl (lv_at hl 0 rfl) ?_
    refine lv_dup E.1 E.2.1 dX5_hold_23 rfl ?_
    refine t_get E G 5 2 (rfl : ro 5 = 5) (C := RX5) (T := TX5) (N := 9) rfl (by decide) (by decide) (by decide) mw_fl_5_22 (fvl_i rfl) dX5_hold_24 ?_
    refine m_ci v1 h11 ?_
    refine lv_iconst (v := 1) E.1 E.2.1 dX5_hold_27 (by decide) ?_
    refine lv_iadd E.1 E.2.1 dX5_hold_28 ?_
    refine lv_topi (fun v12 e13 => ?_)
    have b14 : iv 1 400 v12 := by rw [e13]; exact iv_add b6 (iv_lit (lo := 1) (hi := 1) 1 (by decide) (by decide)) (by decide) (by decide) (by decide) (by decide)
    refine t_puti E G 5 2 (rfl : ro 5 = 5) (C := RX5) (T := TX5) (N := 9) rfl (by decide) (by decide) (by decide) rfl rfl mw_fl_5_22 rfl dX5_hold_29 (fun H locs G => ?_)
    obtain ⟨zz15, G, oo16, kk17, h18, h19⟩ : ∃ u : TS, mG D A s H locs (wd K ad u) ∧ Ok u ∧ KC z u ∧ tI u 0 5 = (tI z 0 5) ∧ tI u 5 2 = v12 := ⟨_, G, ok_i oo8 5 (rfl : ro 5 = 5) (iv_mono b14 (by decide) (by decide)) (by decide), KC.tr kk9 (KC_i 5 (rfl : ro 5 = 5) (by decide)), (sI_k h10 (by decide)), sI_self⟩
    exact RET G ⟨oo16, kk17, h18⟩ dX5_hold_32
