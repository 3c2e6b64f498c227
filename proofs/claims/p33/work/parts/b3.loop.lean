theorem dL_law_18 : decode code 18 = .ok (.iload_n 3, 1) := by decide +kernel
theorem dL_law_19 : decode code 19 = .ok (.aload_n 0, 1) := by decide +kernel
theorem dL_law_20 : decode code 20 = .ok (.arraylength, 1) := by decide +kernel
theorem dL_law_21 : decode code 21 = .ok (.bipush 6, 2) := by decide +kernel
theorem dL_law_23 : decode code 23 = .ok (.isub, 1) := by decide +kernel
theorem dL_law_24 : decode code 24 = .ok (.if_icmp .gt 1232, 3) := by decide +kernel
theorem dL_law_27 : decode code 27 = .ok (.aload_n 0, 1) := by decide +kernel
theorem dL_law_28 : decode code 28 = .ok (.iload_n 3, 1) := by decide +kernel
theorem dL_law_29 : decode code 29 = .ok (.iaload, 1) := by decide +kernel
theorem dL_law_30 : decode code 30 = .ok (.bipush 63, 2) := by decide +kernel
theorem dL_law_32 : decode code 32 = .ok (.iand, 1) := by decide +kernel
theorem dL_law_33 : decode code 33 = .ok (.tableswitch 1217 0 35 #[159, 222, 245, 258, 271, 294, 327, 360, 383, 396, 429, 462, 495, 528, 541, 584, 617, 640, 663, 686, 709, 752, 795, 818, 841, 864, 917, 940, 973, 1016, 1039, 1072, 1095, 1148, 1171, 1194], 159) := by decide +kernel
theorem dL_law_1250 : decode code 1250 = .ok (.iinc 3 6, 3) := by decide +kernel
theorem dL_law_1253 : decode code 1253 = .ok (.goto (-1235), 3) := by decide +kernel
theorem dL_law_1256 : decode code 1256 = .ok (.iconst 1, 1) := by decide +kernel
theorem dL_law_1257 : decode code 1257 = .ok (.ireturn, 1) := by decide +kernel
theorem sw_0_35 (x : Int32) (h1 : ¬ x.toInt < 0) (h2 : ¬ 35 < x.toInt) : x = 0 ∨ x = 1 ∨ x = 2 ∨ x = 3 ∨ x = 4 ∨ x = 5 ∨ x = 6 ∨ x = 7 ∨ x = 8 ∨ x = 9 ∨ x = 10 ∨ x = 11 ∨ x = 12 ∨ x = 13 ∨ x = 14 ∨ x = 15 ∨ x = 16 ∨ x = 17 ∨ x = 18 ∨ x = 19 ∨ x = 20 ∨ x = 21 ∨ x = 22 ∨ x = 23 ∨ x = 24 ∨ x = 25 ∨ x = 26 ∨ x = 27 ∨ x = 28 ∨ x = 29 ∨ x = 30 ∨ x = 31 ∨ x = 32 ∨ x = 33 ∨ x = 34 ∨ x = 35 := by
  have h := (Int32.ofInt_toInt x).symm
  have h3 : ∃ n : Int, n = x.toInt := ⟨_, rfl⟩
  obtain ⟨n, hn⟩ := h3
  rw [← hn] at h h1 h2
  have h4 : n = 0 ∨ n = 1 ∨ n = 2 ∨ n = 3 ∨ n = 4 ∨ n = 5 ∨ n = 6 ∨ n = 7 ∨ n = 8 ∨ n = 9 ∨ n = 10 ∨ n = 11 ∨ n = 12 ∨ n = 13 ∨ n = 14 ∨ n = 15 ∨ n = 16 ∨ n = 17 ∨ n = 18 ∨ n = 19 ∨ n = 20 ∨ n = 21 ∨ n = 22 ∨ n = 23 ∨ n = 24 ∨ n = 25 ∨ n = 26 ∨ n = 27 ∨ n = 28 ∨ n = 29 ∨ n = 30 ∨ n = 31 ∨ n = 32 ∨ n = 33 ∨ n = 34 ∨ n = 35 := by omega
  subst h
  clear hn
  rcases h4 with rfl | rfl | rfl | rfl | rfl | rfl | rfl | rfl | rfl | rfl | rfl | rfl | rfl | rfl | rfl | rfl | rfl | rfl | rfl | rfl | rfl | rfl | rfl | rfl | rfl | rfl | rfl | rfl | rfl | rfl | rfl | rfl | rfl | rfl | rfl | rfl <;> simp
theorem len6 {L : Nat} (hL : L ≤ 3072) : (Int32.ofNat L - 6).toInt = (L : Int) - 6 := by
  have e : (Int32.ofNat L).toInt = L := Int32.toInt_ofNat_of_lt (by omega)
  have e6 : (6 : Int32).toInt = 6 := by decide
  rw [ti_sub (by rw [e, e6]; omega) (by rw [e, e6]; omega), e, e6]
theorem law_exit {p : Program} {e : Env} {s : State} {m : MethodId} {below : List Frame} {meth : Method} {c : Code} (l : Launch) {b L : Nat} {xs : Nat → Int32} {D : va_G} {K : Nat → ClassId} {A : Nat → Prop} (E : mE p s m meth c code #[Value.ref b] 4 RL D K A) (hr : meth.sig.returnType = ret) (hge : ∀ q : Nat, A q → s.heap.size ≤ q) {H : Heap} {locs : List Loc} {ls : Array Slot} (hS : va_S A s.heap H locs) : W p l e room_1 s m #[Value.ref b] below meth c H locs 600000 7302250 (lw_Z below #[Value.ref b] s) (F0 m 1256 ls []) := by
  refine lv_iconst (v := 1) E.1 E.2.1 dL_law_1256 (by decide) ?_
  refine va_forget (fun q hq => hge _ (hS.2.2 q hq)) ?_
  exact lw_ret E.1 E.2.1 hr E.2.2.2.2.2.2.2.1 dL_law_1257
theorem law_out {p : Program} {e : Env} {s : State} {m : MethodId} {below : List Frame} {meth : Method} {c : Code} (l : Launch) {b L : Nat} {xs : Nat → Int32} {D : va_G} {K : Nat → ClassId} {A : Nat → Prop} {ad : Nat → Nat} {z : TS} {v : Int32} (E : mE p s m meth c code #[Value.ref b] 4 RL D K A) (hX : va_X b L xs s s.heap) (hbl : b < s.heap.size) (hbA : ¬ A b) (hr : meth.sig.returnType = ret) (hge : ∀ q : Nat, A q → s.heap.size ≤ q) (hlt : (Int32.ofNat L - 6) < v) {H : Heap} {locs : List Loc} {ls : Array Slot} (G : mG D A s H locs (wd K ad z)) (hl : lv_has ls 4 [(3, .int v), (2, .ref (ad 386)), (1, .ref (ad 0)), (0, .ref b)]) : W p l e room_1 s m #[Value.ref b] below meth c H locs 600000 7302250 (lw_Z below #[Value.ref b] s) (F0 m 18 ls []) := by
  refine lv_iload_n E.1 E.2.1 dL_law_18 rfl (lv_at hl 0 rfl) ?_
  refine lv_aload_n E.1 E.2.1 dL_law_19 rfl (lv_at hl 3 rfl) ?_
  refine va_slen E.1 E.2.1 hX hbl hbA G.2.2 dL_law_20 ?_
  refine lv_bipush (v := 6) E.1 E.2.1 dL_law_21 (by decide) ?_
  refine lv_isub E.1 E.2.1 dL_law_23 ?_
  refine lv_icmp_gt (tgt := 1256) E.1 E.2.1 dL_law_24 (by decide) (fun _ => ?_) (fun h => absurd hlt h)
  exact law_exit (L := L) (xs := xs) l E hr hge G.2.2
set_option maxHeartbeats 8000000 in
set_option maxRecDepth 100000 in
theorem law_loop {p : Program} {e : Env} {s : State} {m : MethodId} {below : List Frame} {meth : Method} {c : Code} (l : Launch) {b L : Nat} {xs : Nat → Int32} {D : va_G} {K : Nat → ClassId} {A : Nat → Prop} {ad : Nat → Nat} (hL : L ≤ 3072) (E : mE p s m meth c code #[Value.ref b] 4 RL D K A) (hX : va_X b L xs s s.heap) (hbl : b < s.heap.size) (hbA : ¬ A b) (hr : meth.sig.returnType = ret) (hge : ∀ q : Nat, A q → s.heap.size ≤ q) : ∀ (n : Nat) (z : TS) (v : Int32) (H : Heap) (locs : List Loc) (ls : Array Slot), mG D A s H locs (wd K ad z) → JJ z → 0 ≤ v.toInt → (L : Int) < v.toInt + (n : Int) → lv_has ls 4 [(3, .int v), (2, .ref (ad 386)), (1, .ref (ad 0)), (0, .ref b)] → W p l e room_1 s m #[Value.ref b] below meth c H locs 600000 7302250 (lw_Z below #[Value.ref b] s) (F0 m 18 ls []) := by
  intro n
  induction n with
  | zero =>
    intro z v H locs ls G j h0 hm hl
    exact law_out l E hX hbl hbA hr hge (Int32.lt_iff_toInt_lt.mpr (by rw [len6 hL]; omega)) G hl
  | succ n ih =>
    intro z v H locs ls G j h0 hm hl
    by_cases hh : (Int32.ofNat L - 6) < v
    · exact law_out l E hX hbl hbA hr hge hh G hl
    have h6 : v.toInt + 6 ≤ (L : Int) := by
      have : ¬ (Int32.ofNat L - 6).toInt < v.toInt := fun q => hh (Int32.lt_iff_toInt_lt.mpr q)
      rw [len6 hL] at this
      omega
    obtain ⟨v6, e6⟩ : ∃ w : Int32, w = v + (6 : Int32) := ⟨_, rfl⟩
    have t6 : v6.toInt = v.toInt + 6 := by rw [e6]; exact ti_addc 6 (by decide) (show iv 0 3072 v from ⟨h0, by omega⟩) (by decide) (by decide)
    have KK : ∀ (z : TS) (H : Heap) (locs : List Loc) (ls : Array Slot), mG D A s H locs (wd K ad z) → JJ z → lv_has ls 4 [(3, .int v), (2, .ref (ad 386)), (1, .ref (ad 0)), (0, .ref b)] → W p l e room_1 s m #[Value.ref b] below meth c H locs 600000 7302250 (lw_Z below #[Value.ref b] s) (F0 m 1250 ls []) := by
      intro z H locs ls G j hl
      refine lv_iinc (v := v6) (lv' := [(3, .int v6), (2, .ref (ad 386)), (1, .ref (ad 0)), (0, .ref b)]) E.1 E.2.1 dL_law_1250 hl (k := 0) rfl (by rw [e6]; rfl) (by decide) rfl (fun ls hl => ?_)
      refine lv_goto (tgt := 18) E.1 E.2.1 dL_law_1253 (by decide) ?_
      exact ih z v6 H locs ls G j (by omega) (by omega) hl
    refine lv_iload_n E.1 E.2.1 dL_law_18 rfl (lv_at hl 0 rfl) ?_
    refine lv_aload_n E.1 E.2.1 dL_law_19 rfl (lv_at hl 3 rfl) ?_
    refine va_slen E.1 E.2.1 hX hbl hbA G.2.2 dL_law_20 ?_
    refine lv_bipush (v := 6) E.1 E.2.1 dL_law_21 (by decide) ?_
    refine lv_isub E.1 E.2.1 dL_law_23 ?_
    refine lv_icmp_gt (tgt := 1256) E.1 E.2.1 dL_law_24 (by decide) (fun h => absurd h hh) (fun _ => ?_)
    refine lv_aload_n E.1 E.2.1 dL_law_27 rfl (lv_at hl 3 rfl) ?_
    refine lv_iload_n E.1 E.2.1 dL_law_28 rfl (lv_at hl 0 rfl) ?_
    refine va_sld E.1 E.2.1 hX hbl hbA G.2.2 (vp_in_iff.mpr ⟨by omega, by omega⟩) dL_law_29 ?_
    refine lv_bipush (v := 63) E.1 E.2.1 dL_law_30 (by decide) ?_
    refine lv_iand E.1 E.2.1 dL_law_32 ?_
    refine lv_topi (fun w _ => ?_)
    rcases Decidable.em (w.toInt < 0 ∨ 35 < w.toInt) with hw | hw
    · refine lv_tableOut (tgt := 1250) E.1 E.2.1 dL_law_33 hw (by decide) ?_
      exact KK z H locs ls G j hl
    · rcases sw_0_35 w (fun h => hw (Or.inl h)) (fun h => hw (Or.inr h)) with rfl | rfl | rfl | rfl | rfl | rfl | rfl | rfl | rfl | rfl | rfl | rfl | rfl | rfl | rfl | rfl | rfl | rfl | rfl | rfl | rfl | rfl | rfl | rfl | rfl | rfl | rfl | rfl | rfl | rfl | rfl | rfl | rfl | rfl | rfl | rfl
      · refine lv_tableIn (off := 159) (tgt := 192) E.1 E.2.1 dL_law_33 (by decide) (by decide) (by decide) (by decide) ?_
        exact law_feed l hL E hX hbl hbA j h0 h6 KK G hl
      · refine lv_tableIn (off := 222) (tgt := 255) E.1 E.2.1 dL_law_33 (by decide) (by decide) (by decide) (by decide) ?_
        exact law_end l hL E hX hbl hbA j h0 h6 KK G hl
      · refine lv_tableIn (off := 245) (tgt := 278) E.1 E.2.1 dL_law_33 (by decide) (by decide) (by decide) (by decide) ?_
        exact law_town l hL E hX hbl hbA j h0 h6 KK G hl
      · refine lv_tableIn (off := 258) (tgt := 291) E.1 E.2.1 dL_law_33 (by decide) (by decide) (by decide) (by decide) ?_
        exact law_rule l hL E hX hbl hbA j h0 h6 KK G hl
      · refine lv_tableIn (off := 271) (tgt := 304) E.1 E.2.1 dL_law_33 (by decide) (by decide) (by decide) (by decide) ?_
        exact law_force l hL E hX hbl hbA j h0 h6 KK G hl
      · refine lv_tableIn (off := 294) (tgt := 327) E.1 E.2.1 dL_law_33 (by decide) (by decide) (by decide) (by decide) ?_
        exact law_lure l hL E hX hbl hbA j h0 h6 KK G hl
      · refine lv_tableIn (off := 327) (tgt := 360) E.1 E.2.1 dL_law_33 (by decide) (by decide) (by decide) (by decide) ?_
        exact law_walker l hL E hX hbl hbA j h0 h6 KK G hl
      · refine lv_tableIn (off := 360) (tgt := 393) E.1 E.2.1 dL_law_33 (by decide) (by decide) (by decide) (by decide) ?_
        exact law_ways l hL E hX hbl hbA j h0 h6 KK G hl
      · refine lv_tableIn (off := 383) (tgt := 416) E.1 E.2.1 dL_law_33 (by decide) (by decide) (by decide) (by decide) ?_
        exact law_step l hL E hX hbl hbA j h0 h6 KK G hl
      · refine lv_tableIn (off := 396) (tgt := 429) E.1 E.2.1 dL_law_33 (by decide) (by decide) (by decide) (by decide) ?_
        exact law_set l hL E hX hbl hbA j h0 h6 KK G hl
      · refine lv_tableIn (off := 429) (tgt := 462) E.1 E.2.1 dL_law_33 (by decide) (by decide) (by decide) (by decide) ?_
        exact law_move l hL E hX hbl hbA j h0 h6 KK G hl
      · refine lv_tableIn (off := 462) (tgt := 495) E.1 E.2.1 dL_law_33 (by decide) (by decide) (by decide) (by decide) ?_
        exact law_bait l hL E hX hbl hbA j h0 h6 KK G hl
      · refine lv_tableIn (off := 495) (tgt := 528) E.1 E.2.1 dL_law_33 (by decide) (by decide) (by decide) (by decide) ?_
        exact law_calm l hL E hX hbl hbA j h0 h6 KK G hl
      · refine lv_tableIn (off := 528) (tgt := 561) E.1 E.2.1 dL_law_33 (by decide) (by decide) (by decide) (by decide) ?_
        exact law_undo l hL E hX hbl hbA j h0 h6 KK G hl
      · refine lv_tableIn (off := 541) (tgt := 574) E.1 E.2.1 dL_law_33 (by decide) (by decide) (by decide) (by decide) ?_
        exact law_ahead l hL E hX hbl hbA j h0 h6 KK G hl
      · refine lv_tableIn (off := 584) (tgt := 617) E.1 E.2.1 dL_law_33 (by decide) (by decide) (by decide) (by decide) ?_
        exact law_had l hL E hX hbl hbA j h0 h6 KK G hl
      · refine lv_tableIn (off := 617) (tgt := 650) E.1 E.2.1 dL_law_33 (by decide) (by decide) (by decide) (by decide) ?_
        exact law_first l hL E hX hbl hbA j h0 h6 KK G hl
      · refine lv_tableIn (off := 640) (tgt := 673) E.1 E.2.1 dL_law_33 (by decide) (by decide) (by decide) (by decide) ?_
        exact law_far l hL E hX hbl hbA j h0 h6 KK G hl
      · refine lv_tableIn (off := 663) (tgt := 696) E.1 E.2.1 dL_law_33 (by decide) (by decide) (by decide) (by decide) ?_
        exact law_safe l hL E hX hbl hbA j h0 h6 KK G hl
      · refine lv_tableIn (off := 686) (tgt := 719) E.1 E.2.1 dL_law_33 (by decide) (by decide) (by decide) (by decide) ?_
        exact law_stuck l hL E hX hbl hbA j h0 h6 KK G hl
      · refine lv_tableIn (off := 709) (tgt := 742) E.1 E.2.1 dL_law_33 (by decide) (by decide) (by decide) (by decide) ?_
        exact law_best l hL E hX hbl hbA j h0 h6 KK G hl
      · refine lv_tableIn (off := 752) (tgt := 785) E.1 E.2.1 dL_law_33 (by decide) (by decide) (by decide) (by decide) ?_
        exact law_kind l hL E hX hbl hbA j h0 h6 KK G hl
      · refine lv_tableIn (off := 795) (tgt := 828) E.1 E.2.1 dL_law_33 (by decide) (by decide) (by decide) (by decide) ?_
        exact law_cover l hL E hX hbl hbA j h0 h6 KK G hl
      · refine lv_tableIn (off := 818) (tgt := 851) E.1 E.2.1 dL_law_33 (by decide) (by decide) (by decide) (by decide) ?_
        exact law_hearts l hL E hX hbl hbA j h0 h6 KK G hl
      · refine lv_tableIn (off := 841) (tgt := 874) E.1 E.2.1 dL_law_33 (by decide) (by decide) (by decide) (by decide) ?_
        exact law_waries l hL E hX hbl hbA j h0 h6 KK G hl
      · refine lv_tableIn (off := 864) (tgt := 897) E.1 E.2.1 dL_law_33 (by decide) (by decide) (by decide) (by decide) ?_
        exact law_rests l hL E hX hbl hbA j h0 h6 KK G hl
      · refine lv_tableIn (off := 917) (tgt := 950) E.1 E.2.1 dL_law_33 (by decide) (by decide) (by decide) (by decide) ?_
        exact law_ring l hL E hX hbl hbA j h0 h6 KK G hl
      · refine lv_tableIn (off := 940) (tgt := 973) E.1 E.2.1 dL_law_33 (by decide) (by decide) (by decide) (by decide) ?_
        exact law_pence l hL E hX hbl hbA j h0 h6 KK G hl
      · refine lv_tableIn (off := 973) (tgt := 1006) E.1 E.2.1 dL_law_33 (by decide) (by decide) (by decide) (by decide) ?_
        exact law_note l hL E hX hbl hbA j h0 h6 KK G hl
      · refine lv_tableIn (off := 1016) (tgt := 1049) E.1 E.2.1 dL_law_33 (by decide) (by decide) (by decide) (by decide) ?_
        exact law_ruled l hL E hX hbl hbA j h0 h6 KK G hl
      · refine lv_tableIn (off := 1039) (tgt := 1072) E.1 E.2.1 dL_law_33 (by decide) (by decide) (by decide) (by decide) ?_
        exact law_look l hL E hX hbl hbA j h0 h6 KK G hl
      · refine lv_tableIn (off := 1072) (tgt := 1105) E.1 E.2.1 dL_law_33 (by decide) (by decide) (by decide) (by decide) ?_
        exact law_seed l hL E hX hbl hbA j h0 h6 KK G hl
      · refine lv_tableIn (off := 1095) (tgt := 1128) E.1 E.2.1 dL_law_33 (by decide) (by decide) (by decide) (by decide) ?_
        exact law_nights l hL E hX hbl hbA j h0 h6 KK G hl
      · refine lv_tableIn (off := 1148) (tgt := 1181) E.1 E.2.1 dL_law_33 (by decide) (by decide) (by decide) (by decide) ?_
        exact law_count l hL E hX hbl hbA j h0 h6 KK G hl
      · refine lv_tableIn (off := 1171) (tgt := 1204) E.1 E.2.1 dL_law_33 (by decide) (by decide) (by decide) (by decide) ?_
        exact law_image l hL E hX hbl hbA j h0 h6 KK G hl
      · refine lv_tableIn (off := 1194) (tgt := 1227) E.1 E.2.1 dL_law_33 (by decide) (by decide) (by decide) (by decide) ?_
        exact law_back l hL E hX hbl hbA j h0 h6 KK G hl
