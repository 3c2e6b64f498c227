theorem mw_fl_11_258 : (Cond.fieldLink RX11 258 "LureTownModel" "rules" "I" : Cond) ∈ cw := cw_of (List.mem_append_right _ (List.mem_append_right _ (List.mem_append_right _ (List.mem_append_right _ (List.mem_append_right _ (List.mem_append_left _ (List.mem_of_getElem? (i := 109) (by decide +kernel)))))))) (by decide +kernel)
theorem mw_fl_11_39 : (Cond.fieldLink RX11 39 "LureTownModel" "said" "[I" : Cond) ∈ cw := cw_of (List.mem_append_right _ (List.mem_append_right _ (List.mem_append_right _ (List.mem_append_right _ (List.mem_append_right _ (List.mem_append_left _ (List.mem_of_getElem? (i := 127) (by decide +kernel)))))))) (by decide +kernel)
theorem dX11_bits_0 : decode cX11_bits 0 = .ok (.iconst 0, 1) := by decide +kernel
theorem dX11_bits_1 : decode cX11_bits 1 = .ok (.istore_n 1, 1) := by decide +kernel
theorem dX11_bits_2 : decode cX11_bits 2 = .ok (.iload_n 0, 1) := by decide +kernel
theorem dX11_bits_3 : decode cX11_bits 3 = .ok (.istore_n 2, 1) := by decide +kernel
theorem dX11_bits_4 : decode cX11_bits 4 = .ok (.iload_n 2, 1) := by decide +kernel
theorem dX11_bits_5 : decode cX11_bits 5 = .ok (.ifCond .eq 15, 3) := by decide +kernel
theorem dX11_bits_8 : decode cX11_bits 8 = .ok (.iinc 1 1, 3) := by decide +kernel
theorem dX11_bits_11 : decode cX11_bits 11 = .ok (.iload_n 2, 1) := by decide +kernel
theorem dX11_bits_12 : decode cX11_bits 12 = .ok (.iload_n 2, 1) := by decide +kernel
theorem dX11_bits_13 : decode cX11_bits 13 = .ok (.iconst 1, 1) := by decide +kernel
theorem dX11_bits_14 : decode cX11_bits 14 = .ok (.isub, 1) := by decide +kernel
theorem dX11_bits_15 : decode cX11_bits 15 = .ok (.iand, 1) := by decide +kernel
theorem dX11_bits_16 : decode cX11_bits 16 = .ok (.istore_n 2, 1) := by decide +kernel
theorem dX11_bits_17 : decode cX11_bits 17 = .ok (.goto (-13), 3) := by decide +kernel
theorem dX11_bits_20 : decode cX11_bits 20 = .ok (.iload_n 1, 1) := by decide +kernel
theorem dX11_bits_21 : decode cX11_bits 21 = .ok (.ireturn, 1) := by decide +kernel
theorem dX11_chargeOf_0 : decode cX11_chargeOf 0 = .ok (.aload_n 0, 1) := by decide +kernel
theorem dX11_chargeOf_1 : decode cX11_chargeOf 1 = .ok (.getfield 39, 3) := by decide +kernel
theorem dX11_chargeOf_4 : decode cX11_chargeOf 4 = .ok (.bipush 29, 2) := by decide +kernel
theorem dX11_chargeOf_6 : decode cX11_chargeOf 6 = .ok (.iconst 3, 1) := by decide +kernel
theorem dX11_chargeOf_7 : decode cX11_chargeOf 7 = .ok (.iload_n 1, 1) := by decide +kernel
theorem dX11_chargeOf_8 : decode cX11_chargeOf 8 = .ok (.imul, 1) := by decide +kernel
theorem dX11_chargeOf_9 : decode cX11_chargeOf 9 = .ok (.iadd, 1) := by decide +kernel
theorem dX11_chargeOf_10 : decode cX11_chargeOf 10 = .ok (.iconst 2, 1) := by decide +kernel
theorem dX11_chargeOf_11 : decode cX11_chargeOf 11 = .ok (.iadd, 1) := by decide +kernel
theorem dX11_chargeOf_12 : decode cX11_chargeOf 12 = .ok (.iaload, 1) := by decide +kernel
theorem dX11_chargeOf_13 : decode cX11_chargeOf 13 = .ok (.ireturn, 1) := by decide +kernel
theorem dX11_cornerOf_0 : decode cX11_cornerOf 0 = .ok (.aload_n 0, 1) := by decide +kernel
theorem dX11_cornerOf_1 : decode cX11_cornerOf 1 = .ok (.getfield 39, 3) := by decide +kernel
theorem dX11_cornerOf_4 : decode cX11_cornerOf 4 = .ok (.bipush 29, 2) := by decide +kernel
theorem dX11_cornerOf_6 : decode cX11_cornerOf 6 = .ok (.iconst 3, 1) := by decide +kernel
theorem dX11_cornerOf_7 : decode cX11_cornerOf 7 = .ok (.iload_n 1, 1) := by decide +kernel
theorem dX11_cornerOf_8 : decode cX11_cornerOf 8 = .ok (.imul, 1) := by decide +kernel
theorem dX11_cornerOf_9 : decode cX11_cornerOf 9 = .ok (.iadd, 1) := by decide +kernel
theorem dX11_cornerOf_10 : decode cX11_cornerOf 10 = .ok (.iaload, 1) := by decide +kernel
theorem dX11_cornerOf_11 : decode cX11_cornerOf 11 = .ok (.ireturn, 1) := by decide +kernel
theorem dX11_in_0 : decode cX11_in 0 = .ok (.lload_n 0, 1) := by decide +kernel
theorem dX11_in_1 : decode cX11_in 1 = .ok (.lload_n 2, 1) := by decide +kernel
theorem dX11_in_2 : decode cX11_in 2 = .ok (.lcmp, 1) := by decide +kernel
theorem dX11_in_3 : decode cX11_in 3 = .ok (.ifCond .lt 14, 3) := by decide +kernel
theorem dX11_in_6 : decode cX11_in 6 = .ok (.lload_n 0, 1) := by decide +kernel
theorem dX11_in_7 : decode cX11_in 7 = .ok (.lload 4, 2) := by decide +kernel
theorem dX11_in_9 : decode cX11_in 9 = .ok (.lcmp, 1) := by decide +kernel
theorem dX11_in_10 : decode cX11_in 10 = .ok (.ifCond .gt 7, 3) := by decide +kernel
theorem dX11_in_13 : decode cX11_in 13 = .ok (.iconst 1, 1) := by decide +kernel
theorem dX11_in_14 : decode cX11_in 14 = .ok (.goto 4, 3) := by decide +kernel
theorem dX11_in_17 : decode cX11_in 17 = .ok (.iconst 0, 1) := by decide +kernel
theorem dX11_in_18 : decode cX11_in 18 = .ok (.ireturn, 1) := by decide +kernel
theorem dX11_isCorner_0 : decode cX11_isCorner 0 = .ok (.iload_n 1, 1) := by decide +kernel
theorem dX11_isCorner_1 : decode cX11_isCorner 1 = .ok (.ifCond .lt 17, 3) := by decide +kernel
theorem dX11_isCorner_4 : decode cX11_isCorner 4 = .ok (.iload_n 1, 1) := by decide +kernel
theorem dX11_isCorner_5 : decode cX11_isCorner 5 = .ok (.aload_n 0, 1) := by decide +kernel
theorem dX11_isCorner_6 : decode cX11_isCorner 6 = .ok (.getfield 39, 3) := by decide +kernel
theorem dX11_isCorner_9 : decode cX11_isCorner 9 = .ok (.iconst 1, 1) := by decide +kernel
theorem dX11_isCorner_10 : decode cX11_isCorner 10 = .ok (.iaload, 1) := by decide +kernel
theorem dX11_isCorner_11 : decode cX11_isCorner 11 = .ok (.if_icmp .ge 7, 3) := by decide +kernel
theorem dX11_isCorner_14 : decode cX11_isCorner 14 = .ok (.iconst 1, 1) := by decide +kernel
theorem dX11_isCorner_15 : decode cX11_isCorner 15 = .ok (.goto 4, 3) := by decide +kernel
theorem dX11_isCorner_18 : decode cX11_isCorner 18 = .ok (.iconst 0, 1) := by decide +kernel
theorem dX11_isCorner_19 : decode cX11_isCorner 19 = .ok (.ireturn, 1) := by decide +kernel
theorem dX11_isLure_0 : decode cX11_isLure 0 = .ok (.iload_n 1, 1) := by decide +kernel
theorem dX11_isLure_1 : decode cX11_isLure 1 = .ok (.ifCond .lt 17, 3) := by decide +kernel
theorem dX11_isLure_4 : decode cX11_isLure 4 = .ok (.iload_n 1, 1) := by decide +kernel
theorem dX11_isLure_5 : decode cX11_isLure 5 = .ok (.aload_n 0, 1) := by decide +kernel
theorem dX11_isLure_6 : decode cX11_isLure 6 = .ok (.getfield 39, 3) := by decide +kernel
theorem dX11_isLure_9 : decode cX11_isLure 9 = .ok (.iconst 3, 1) := by decide +kernel
theorem dX11_isLure_10 : decode cX11_isLure 10 = .ok (.iaload, 1) := by decide +kernel
theorem dX11_isLure_11 : decode cX11_isLure 11 = .ok (.if_icmp .ge 7, 3) := by decide +kernel
theorem dX11_isLure_14 : decode cX11_isLure 14 = .ok (.iconst 1, 1) := by decide +kernel
theorem dX11_isLure_15 : decode cX11_isLure 15 = .ok (.goto 4, 3) := by decide +kernel
theorem dX11_isLure_18 : decode cX11_isLure 18 = .ok (.iconst 0, 1) := by decide +kernel
theorem dX11_isLure_19 : decode cX11_isLure 19 = .ok (.ireturn, 1) := by decide +kernel
theorem dX11_isOf_0 : decode cX11_isOf 0 = .ok (.iload_n 0, 1) := by decide +kernel
theorem dX11_isOf_1 : decode cX11_isOf 1 = .ok (.iload_n 1, 1) := by decide +kernel
theorem dX11_isOf_2 : decode cX11_isOf 2 = .ok (.ishr, 1) := by decide +kernel
theorem dX11_isOf_3 : decode cX11_isOf 3 = .ok (.iconst 1, 1) := by decide +kernel
theorem dX11_isOf_4 : decode cX11_isOf 4 = .ok (.iand, 1) := by decide +kernel
theorem dX11_isOf_5 : decode cX11_isOf 5 = .ok (.iconst 1, 1) := by decide +kernel
theorem dX11_isOf_6 : decode cX11_isOf 6 = .ok (.if_icmp .ne 7, 3) := by decide +kernel
theorem dX11_isOf_9 : decode cX11_isOf 9 = .ok (.iconst 1, 1) := by decide +kernel
theorem dX11_isOf_10 : decode cX11_isOf 10 = .ok (.goto 4, 3) := by decide +kernel
theorem dX11_isOf_13 : decode cX11_isOf 13 = .ok (.iconst 0, 1) := by decide +kernel
theorem dX11_isOf_14 : decode cX11_isOf 14 = .ok (.ireturn, 1) := by decide +kernel
theorem dX11_isRule_0 : decode cX11_isRule 0 = .ok (.iload_n 1, 1) := by decide +kernel
theorem dX11_isRule_1 : decode cX11_isRule 1 = .ok (.ifCond .lt 15, 3) := by decide +kernel
theorem dX11_isRule_4 : decode cX11_isRule 4 = .ok (.iload_n 1, 1) := by decide +kernel
theorem dX11_isRule_5 : decode cX11_isRule 5 = .ok (.aload_n 0, 1) := by decide +kernel
theorem dX11_isRule_6 : decode cX11_isRule 6 = .ok (.getfield 258, 3) := by decide +kernel
theorem dX11_isRule_9 : decode cX11_isRule 9 = .ok (.if_icmp .ge 7, 3) := by decide +kernel
theorem dX11_isRule_12 : decode cX11_isRule 12 = .ok (.iconst 1, 1) := by decide +kernel
theorem dX11_isRule_13 : decode cX11_isRule 13 = .ok (.goto 4, 3) := by decide +kernel
theorem dX11_isRule_16 : decode cX11_isRule 16 = .ok (.iconst 0, 1) := by decide +kernel
theorem dX11_isRule_17 : decode cX11_isRule 17 = .ok (.ireturn, 1) := by decide +kernel
theorem dX11_isTown_0 : decode cX11_isTown 0 = .ok (.aload_n 0, 1) := by decide +kernel
theorem dX11_isTown_1 : decode cX11_isTown 1 = .ok (.getfield 39, 3) := by decide +kernel
theorem dX11_isTown_4 : decode cX11_isTown 4 = .ok (.iconst 0, 1) := by decide +kernel
theorem dX11_isTown_5 : decode cX11_isTown 5 = .ok (.iaload, 1) := by decide +kernel
theorem dX11_isTown_6 : decode cX11_isTown 6 = .ok (.iconst 1, 1) := by decide +kernel
theorem dX11_isTown_7 : decode cX11_isTown 7 = .ok (.if_icmp .ne 7, 3) := by decide +kernel
theorem dX11_isTown_10 : decode cX11_isTown 10 = .ok (.iconst 1, 1) := by decide +kernel
theorem dX11_isTown_11 : decode cX11_isTown 11 = .ok (.goto 4, 3) := by decide +kernel
theorem dX11_isTown_14 : decode cX11_isTown 14 = .ok (.iconst 0, 1) := by decide +kernel
theorem dX11_isTown_15 : decode cX11_isTown 15 = .ok (.ireturn, 1) := by decide +kernel
theorem dX11_isWalker_0 : decode cX11_isWalker 0 = .ok (.iload_n 1, 1) := by decide +kernel
theorem dX11_isWalker_1 : decode cX11_isWalker 1 = .ok (.ifCond .lt 17, 3) := by decide +kernel
theorem dX11_isWalker_4 : decode cX11_isWalker 4 = .ok (.iload_n 1, 1) := by decide +kernel
theorem dX11_isWalker_5 : decode cX11_isWalker 5 = .ok (.aload_n 0, 1) := by decide +kernel
theorem dX11_isWalker_6 : decode cX11_isWalker 6 = .ok (.getfield 39, 3) := by decide +kernel
theorem dX11_isWalker_9 : decode cX11_isWalker 9 = .ok (.iconst 4, 1) := by decide +kernel
theorem dX11_isWalker_10 : decode cX11_isWalker 10 = .ok (.iaload, 1) := by decide +kernel
theorem dX11_isWalker_11 : decode cX11_isWalker 11 = .ok (.if_icmp .ge 7, 3) := by decide +kernel
theorem dX11_isWalker_14 : decode cX11_isWalker 14 = .ok (.iconst 1, 1) := by decide +kernel
theorem dX11_isWalker_15 : decode cX11_isWalker 15 = .ok (.goto 4, 3) := by decide +kernel
theorem dX11_isWalker_18 : decode cX11_isWalker 18 = .ok (.iconst 0, 1) := by decide +kernel
theorem dX11_isWalker_19 : decode cX11_isWalker 19 = .ok (.ireturn, 1) := by decide +kernel
theorem dX11_kindOf_0 : decode cX11_kindOf 0 = .ok (.aload_n 0, 1) := by decide +kernel
theorem dX11_kindOf_1 : decode cX11_kindOf 1 = .ok (.getfield 39, 3) := by decide +kernel
theorem dX11_kindOf_4 : decode cX11_kindOf 4 = .ok (.bipush 11, 2) := by decide +kernel
theorem dX11_kindOf_6 : decode cX11_kindOf 6 = .ok (.iconst 3, 1) := by decide +kernel
theorem dX11_kindOf_7 : decode cX11_kindOf 7 = .ok (.iload_n 1, 1) := by decide +kernel
theorem dX11_kindOf_8 : decode cX11_kindOf 8 = .ok (.imul, 1) := by decide +kernel
theorem dX11_kindOf_9 : decode cX11_kindOf 9 = .ok (.iadd, 1) := by decide +kernel
theorem dX11_kindOf_10 : decode cX11_kindOf 10 = .ok (.iconst 1, 1) := by decide +kernel
theorem dX11_kindOf_11 : decode cX11_kindOf 11 = .ok (.iadd, 1) := by decide +kernel
theorem dX11_kindOf_12 : decode cX11_kindOf 12 = .ok (.iaload, 1) := by decide +kernel
theorem dX11_kindOf_13 : decode cX11_kindOf 13 = .ok (.ireturn, 1) := by decide +kernel
theorem dX11_lureAt_0 : decode cX11_lureAt 0 = .ok (.aload_n 0, 1) := by decide +kernel
theorem dX11_lureAt_1 : decode cX11_lureAt 1 = .ok (.getfield 39, 3) := by decide +kernel
theorem dX11_lureAt_4 : decode cX11_lureAt 4 = .ok (.bipush 11, 2) := by decide +kernel
theorem dX11_lureAt_6 : decode cX11_lureAt 6 = .ok (.iconst 3, 1) := by decide +kernel
theorem dX11_lureAt_7 : decode cX11_lureAt 7 = .ok (.iload_n 1, 1) := by decide +kernel
theorem dX11_lureAt_8 : decode cX11_lureAt 8 = .ok (.imul, 1) := by decide +kernel
theorem dX11_lureAt_9 : decode cX11_lureAt 9 = .ok (.iadd, 1) := by decide +kernel
theorem dX11_lureAt_10 : decode cX11_lureAt 10 = .ok (.iaload, 1) := by decide +kernel
theorem dX11_lureAt_11 : decode cX11_lureAt 11 = .ok (.ireturn, 1) := by decide +kernel
theorem dX11_waryOf_0 : decode cX11_waryOf 0 = .ok (.aload_n 0, 1) := by decide +kernel
theorem dX11_waryOf_1 : decode cX11_waryOf 1 = .ok (.getfield 39, 3) := by decide +kernel
theorem dX11_waryOf_4 : decode cX11_waryOf 4 = .ok (.bipush 29, 2) := by decide +kernel
theorem dX11_waryOf_6 : decode cX11_waryOf 6 = .ok (.iconst 3, 1) := by decide +kernel
theorem dX11_waryOf_7 : decode cX11_waryOf 7 = .ok (.iload_n 1, 1) := by decide +kernel
theorem dX11_waryOf_8 : decode cX11_waryOf 8 = .ok (.imul, 1) := by decide +kernel
theorem dX11_waryOf_9 : decode cX11_waryOf 9 = .ok (.iadd, 1) := by decide +kernel
theorem dX11_waryOf_10 : decode cX11_waryOf 10 = .ok (.iconst 1, 1) := by decide +kernel
theorem dX11_waryOf_11 : decode cX11_waryOf 11 = .ok (.iadd, 1) := by decide +kernel
theorem dX11_waryOf_12 : decode cX11_waryOf 12 = .ok (.iaload, 1) := by decide +kernel
theorem dX11_waryOf_13 : decode cX11_waryOf 13 = .ok (.ireturn, 1) := by decide +kernel
theorem sR_n {z : TS} {j i k : Nat} {v w : Int32} (h : tA z j i = w) (hne : i ≠ k) : tA (setR z j (upd (tA z j) k v)) j i = w := by
  rw [← h]; simp [setR, tA, upd, hne]
theorem cl_ne {a b : Int} {x : Int32} (h : iv a b x) (c : Int32) (hc : b < c.toInt ∧ 0 < c.toInt ∨ c.toInt < a ∧ 0 < a) : c.toNatClampNeg ≠ x.toNatClampNeg := by
  obtain ⟨p1, p2⟩ := h
  have e1 : c.toNatClampNeg = c.toInt.toNat := rfl
  have e2 : x.toNatClampNeg = x.toInt.toNat := rfl
  omega
theorem fsp_J : ∀ ci, ci < 12 → ∀ b, b < 40 → fsp ci b = 1 → ci = 11 ∧ b = 32 := by decide +kernel
theorem nfl_40 : ∀ ci, ci < 12 → nfl ci < 40 := by decide +kernel
theorem ro_11 : ∀ i, i < 409 → ro i = 11 → i = 386 := by decide +kernel
theorem fvl_setJ {ad : Nat → Nat} {z : TS} {v : Int64} {ci j k : Nat} (h : fsp ci k ≠ 1) : fvl ad (setJ z v) ci j k = fvl ad z ci j k := by
  unfold fvl
  split
  · rfl
  · rename_i q; exact absurd q h
  · rfl
  · rfl
theorem wd_setJ {K : Nat → ClassId} {ad : Nat → Nat} {z : TS} {v : Int64} : (wd K ad z).set 386 (ad 386, .inr (11, (flds ad z 11 386).set 32 (.long v))) = wd K ad (setJ z v) := by
  refine wd_ext (by decide) ?_ (fun i hi => ?_)
  · rw [cell_obj (show ro 386 = 11 from rfl) (by decide), ← flds_set (z' := setJ z v) (by decide +kernel) (by rw [fvl_J rfl]; rfl) (fun b hb => ?_)]
    by_cases q : b < 40
    · exact fvl_setJ (fun w => hb (fsp_J 11 (by decide) b q w).2)
    · refine fvl_setJ (fun w => ?_)
      have : fsp 11 b = 0 := by
        unfold fsp
        rw [List.getD_eq_getElem?_getD, List.getElem?_eq_none_iff.mpr (Nat.le_trans (by decide +kernel : _ ≤ 40) (Nat.le_of_not_lt q))]
        rfl
      rw [this] at w; cases w
  · unfold cellE
    by_cases q : ro i < 12
    · rw [if_pos q, if_pos q]
      have : flds ad (setJ z v) (ro i) i = flds ad z (ro i) i := by
        unfold flds
        refine List.map_congr_left (fun b hb => fvl_setJ (fun w => ?_))
        have hb := List.mem_range.mp hb
        have := fsp_J (ro i) q b (Nat.lt_trans hb (nfl_40 _ q)) w
        exact hi (ro_11 i (ro_lt rfl (by omega)) this.1)
      rw [this]
    · rw [if_neg q, if_neg q]; rfl
section TJ
variable {p : Program} {l : Launch} {e : Env} {R : Room} {s : State} {m : MethodId} {args : Array Value} {below : List Frame} {meth : Method} {c : Code} {H : Heap} {locs : List Loc} {Q : State → Prop}
variable {cc : ByteArray} {nL pc index : Nat} {ls : Array Slot} {rest : List Value} {D : va_G} {K : Nat → ClassId} {A : Nat → Prop} {own : String} {ad : Nat → Nat} {z : TS}
theorem t_putJ (E : mE p s m meth c cc args nL own D K A) (G : mG D A s H locs (wd K ad z)) (hl : Cond.fieldLink own index (TX11 32).1 (TX11 32).2.1 (TX11 32).2.2.1 ∈ cw) {v : Int64} (hdg : decode cc pc = .ok (.putfield index, 3))
    (kk : ∀ (H1 : Heap) (locs1 : List Loc), mG D A s H1 locs1 (wd K ad (setJ z v)) → W p l e R s m args below meth c H1 locs1 0 0 Q (F0 m (pc + 3) ls rest)) : W p l e R s m args below meth c H locs 0 0 Q (F0 m pc ls (.long v :: .ref (ad 386) :: rest)) :=
  m_put E G 386 (by rw [wd_at (by decide), cell_obj (show ro 386 = 11 from rfl) (by decide)]) 32 (C := RX11) (T := TX11) (N := 37) rfl (by decide) hl rfl (by rfl) (by rfl) (by rw [flds_len]; decide +kernel) hdg (fun H1 l1 G1 => kk H1 l1 (by rw [wd_setJ] at G1; exact G1))
end TJ
set_option maxHeartbeats 4000000 in
set_option maxRecDepth 100000 in
theorem v_in (l : Launch) (D : va_G) (K : Nat → ClassId) (ad : Nat → Nat) (z : TS) (o : Ok z) (w1 : Int64) (w2 : Int64) (w3 : Int64) : cI l yX11_in cX11_in 6 .boolean ({ frames := 0, cells := 0, slots := 0, locals := 0 }) D K ad z [.long w1, .long w2, .long w3] (fun r u => u = z ∧ iv 0 1 r ∧ (¬ r = 0 → w2.toInt ≤ w1.toInt ∧ w1.toInt ≤ w3.toInt)) := by
  refine t_enterI (by decide) (Nat.le_of_ble_eq_true rfl) rfl rfl ?_
  intro p e s m args below meth c A R Q H locs ls E hfr hlo RET G hl
  have E : mE p s m meth c cX11_in args 6 RX11 D K A := E
  have hl : lv_has ls 6 [(0, .long w1), (2, .long w2), (4, .long w3)] := hl
  refine lv_lload_n E.1 E.2.1 dX11_in_0 rfl (lv_at hl 0 rfl) ?_
  refine lv_lload_n E.1 E.2.1 dX11_in_1 rfl (lv_at hl 1 rfl) ?_
  refine W.lcmp E.1 E.2.1 dX11_in_2 ?_
  refine lv_topi (fun v1 e2 => ?_)
  have b3 : iv (-1) 1 v1 := by rw [e2]; exact lgc_iv _ _
  refine lv_if_lt (tgt := 17) E.1 E.2.1 dX11_in_3 (by decide) (fun c4 => ?_) (fun c4 => ?_)
  · skip
    have b5 : iv (-1) (-1) v1 := lt_l c4 b3 (iv_lit (lo := 0) (hi := 0) 0 (by decide) (by decide)) (by decide)
    refine lv_iconst (v := 0) E.1 E.2.1 dX11_in_17 (by decide) ?_
    exact RET G ⟨rfl, (iv_mono (iv_lit (lo := 0) (hi := 0) 0 (by decide) (by decide)) (by decide) (by decide)), (fun h => absurd rfl h)⟩ (by decide) dX11_in_18
  · skip
    have b6 : iv 0 1 v1 := le_r (Int32.not_lt.mp c4) (iv_lit (lo := 0) (hi := 0) 0 (by decide) (by decide)) b3 (by decide)
    refine lv_lload_n E.1 E.2.1 dX11_in_6 rfl (lv_at hl 0 rfl) ?_
    refine lv_lload E.1 E.2.1 dX11_in_7 (lv_at hl 2 rfl) ?_
    refine W.lcmp E.1 E.2.1 dX11_in_9 ?_
    refine lv_topi (fun v7 e8 => ?_)
    have b9 : iv (-1) 1 v7 := by rw [e8]; exact lgc_iv _ _
    refine lv_if_gt (tgt := 17) E.1 E.2.1 dX11_in_10 (by decide) (fun c10 => ?_) (fun c10 => ?_)
    · skip
      have b11 : iv 1 1 v7 := lt_r c10 (iv_lit (lo := 0) (hi := 0) 0 (by decide) (by decide)) b9 (by decide)
      refine lv_iconst (v := 0) E.1 E.2.1 dX11_in_17 (by decide) ?_
      exact RET G ⟨rfl, (iv_mono (iv_lit (lo := 0) (hi := 0) 0 (by decide) (by decide)) (by decide) (by decide)), (fun h => absurd rfl h)⟩ (by decide) dX11_in_18
    · skip
      have b12 : iv (-1) 0 v7 := le_l (Int32.not_lt.mp c10) b9 (iv_lit (lo := 0) (hi := 0) 0 (by decide) (by decide)) (by decide)
      refine lv_iconst (v := 1) E.1 E.2.1 dX11_in_13 (by decide) ?_
      refine lv_goto (tgt := 18) E.1 E.2.1 dX11_in_14 (by decide) ?_
      exact RET G ⟨rfl, (iv_mono (iv_lit (lo := 1) (hi := 1) 1 (by decide) (by decide)) (by decide) (by decide)), (fun _ => ⟨lg_ge e2 c4, lg_le e8 c10⟩)⟩ (by decide) dX11_in_18
set_option maxHeartbeats 4000000 in
set_option maxRecDepth 100000 in
theorem v_isOf (l : Launch) (D : va_G) (K : Nat → ClassId) (ad : Nat → Nat) (z : TS) (o : Ok z) (x1 : Int32) (x2 : Int32) : cI l yX11_isOf cX11_isOf 2 .boolean ({ frames := 0, cells := 0, slots := 0, locals := 0 }) D K ad z [.int x1, .int x2] (fun r u => u = z ∧ iv 0 1 r) := by
  refine t_enterI (by decide) (Nat.le_of_ble_eq_true rfl) rfl rfl ?_
  intro p e s m args below meth c A R Q H locs ls E hfr hlo RET G hl
  have E : mE p s m meth c cX11_isOf args 2 RX11 D K A := E
  have hl : lv_has ls 2 [(0, .int x1), (1, .int x2)] := hl
  refine lv_iload_n E.1 E.2.1 dX11_isOf_0 rfl (lv_at hl 0 rfl) ?_
  refine lv_iload_n E.1 E.2.1 dX11_isOf_1 rfl (lv_at hl 1 rfl) ?_
  refine lv_ishr E.1 E.2.1 dX11_isOf_2 ?_
  refine lv_topi (fun v1 e2 => ?_)
  refine lv_iconst (v := 1) E.1 E.2.1 dX11_isOf_3 (by decide) ?_
  refine lv_iand E.1 E.2.1 dX11_isOf_4 ?_
  refine lv_topi (fun v3 e4 => ?_)
  have b5 : iv 0 1 v3 := by rw [e4]; exact iv_and (iv_lit (lo := 1) (hi := 1) 1 (by decide) (by decide)) (by decide)
  refine lv_iconst (v := 1) E.1 E.2.1 dX11_isOf_5 (by decide) ?_
  refine lv_icmp_ne (tgt := 13) E.1 E.2.1 dX11_isOf_6 (by decide) (fun c6 => ?_) (fun c6 => ?_)
  · skip
    have b7 : iv 0 0 v3 := ne_hi c6 b5 (by decide) (by decide)
    refine lv_iconst (v := 0) E.1 E.2.1 dX11_isOf_13 (by decide) ?_
    exact RET G ⟨rfl, (iv_mono (iv_lit (lo := 0) (hi := 0) 0 (by decide) (by decide)) (by decide) (by decide))⟩ (by decide) dX11_isOf_14
  · skip
    have b8 : iv 1 1 v3 := iv_eq c6 (iv_lit (lo := 1) (hi := 1) 1 (by decide) (by decide))
    refine lv_iconst (v := 1) E.1 E.2.1 dX11_isOf_9 (by decide) ?_
    refine lv_goto (tgt := 14) E.1 E.2.1 dX11_isOf_10 (by decide) ?_
    exact RET G ⟨rfl, (iv_mono (iv_lit (lo := 1) (hi := 1) 1 (by decide) (by decide)) (by decide) (by decide))⟩ (by decide) dX11_isOf_14
set_option maxHeartbeats 4000000 in
set_option maxRecDepth 100000 in
theorem v_bits (l : Launch) (D : va_G) (K : Nat → ClassId) (ad : Nat → Nat) (z : TS) (o : Ok z) (x1 : Int32) : cI l yX11_bits cX11_bits 3 .int ({ frames := 0, cells := 0, slots := 0, locals := 0 }) D K ad z [.int x1] (fun r u => u = z) := by
  refine t_enterI (by decide) (Nat.le_of_ble_eq_true rfl) rfl rfl ?_
  intro p e s m args below meth c A R Q H locs ls E hfr hlo RET G hl
  have E : mE p s m meth c cX11_bits args 3 RX11 D K A := E
  have hl : lv_has ls 3 [(0, .int x1)] := hl
  refine lv_iconst (v := 0) E.1 E.2.1 dX11_bits_0 (by decide) ?_
  refine lv_istore_n (lv' := [(1, .int 0), (0, .int x1)]) E.1 E.2.1 dX11_bits_1 rfl hl (by decide) rfl (fun ls hl => ?_)
  refine lv_iload_n E.1 E.2.1 dX11_bits_2 rfl (lv_at hl 1 rfl) ?_
  refine lv_istore_n (lv' := [(2, .int x1), (1, .int 0), (0, .int x1)]) E.1 E.2.1 dX11_bits_3 rfl hl (by decide) rfl (fun ls hl => ?_)
  have LOOP4 : ∀ n : Nat, ∀ (y1 : Int32) (y2 : Int32) (H : Heap) (locs : List Loc) (ls : Array Slot), mG D A s H locs (wd K ad z) → ((y1.toUInt32.toNat : Nat) : Int) < (n : Int) → lv_has ls 3 [(2, .int y1), (1, .int y2), (0, .int x1)] → W p l e R s m args below meth c H locs 0 0 Q (F0 m 4 ls []) := by
    intro n
    induction n with
    | zero =>
      intro y1 y2 H locs ls G m6 hl
      exact absurd m6 (by omega)
    | succ n ih4 =>
      intro y1 y2 H locs ls G m6 hl
      refine lv_iload_n E.1 E.2.1 dX11_bits_4 rfl (lv_at hl 0 rfl) ?_
      refine lv_if_eq (tgt := 20) E.1 E.2.1 dX11_bits_5 (by decide) (fun c7 => ?_) (fun c7 => ?_)
      · skip
        have b8 : iv 0 0 y1 := iv_eq c7 (iv_lit (lo := 0) (hi := 0) 0 (by decide) (by decide))
        refine lv_iload_n E.1 E.2.1 dX11_bits_20 rfl (lv_at hl 1 rfl) ?_
        exact RET G rfl rfl dX11_bits_21
      · skip
        obtain ⟨v9, e10⟩ : ∃ w : Int32, w = y2 + (1 : Int32) := ⟨_, rfl⟩
        refine lv_iinc (v := v9) (lv' := [(1, .int v9), (2, .int y1), (0, .int x1)]) E.1 E.2.1 dX11_bits_8 hl (k := 1) rfl (by rw [e10]; rfl) (by decide) rfl (fun ls hl => ?_)
        refine lv_iload_n E.1 E.2.1 dX11_bits_11 rfl (lv_at hl 1 rfl) ?_
        refine lv_iload_n E.1 E.2.1 dX11_bits_12 rfl (lv_at hl 1 rfl) ?_
        refine lv_iconst (v := 1) E.1 E.2.1 dX11_bits_13 (by decide) ?_
        refine lv_isub E.1 E.2.1 dX11_bits_14 ?_
        refine lv_topi (fun v11 e12 => ?_)
        refine lv_iand E.1 E.2.1 dX11_bits_15 ?_
        refine lv_topi (fun v13 e14 => ?_)
        refine lv_istore_n (lv' := [(2, .int v13), (1, .int v9), (0, .int x1)]) E.1 E.2.1 dX11_bits_16 rfl hl (by decide) rfl (fun ls hl => ?_)
        refine lv_goto (tgt := 4) E.1 E.2.1 dX11_bits_17 (by decide) ?_
        exact ih4 v13 v9 H locs ls G (by have := bits_lt e12 e14 c7; have := m6; omega) (lv_sub hl [0, 1, 2] rfl)
  exact LOOP4 4294967296 x1 0 H locs ls G (by have := (x1).toUInt32.toNat_lt; omega) (lv_sub hl [0, 1, 2] rfl)
set_option maxHeartbeats 4000000 in
set_option maxRecDepth 100000 in
theorem v_isTown (l : Launch) (D : va_G) (K : Nat → ClassId) (ad : Nat → Nat) (z : TS) (o : Ok z) : cI l yX11_isTown cX11_isTown 1 .boolean ({ frames := 0, cells := 0, slots := 0, locals := 0 }) D K ad z [.ref (ad 386)] (fun r u => u = z ∧ iv 0 1 r) := by
  refine t_enterI (by decide) (Nat.le_of_ble_eq_true rfl) rfl rfl ?_
  intro p e s m args below meth c A R Q H locs ls E hfr hlo RET G hl
  have E : mE p s m meth c cX11_isTown args 1 RX11 D K A := E
  have hl : lv_has ls 1 [(0, .ref (ad 386))] := hl
  refine lv_aload_n E.1 E.2.1 dX11_isTown_0 rfl (lv_at hl 0 rfl) ?_
  refine t_get E G 11 20 (rfl : ro 386 = 11) (C := RX11) (T := TX11) (N := 37) rfl (by decide) (by decide) (by decide) mw_fl_11_39 (v := .ref (ad 396)) (fvl_o (n := 10) rfl) dX11_isTown_1 ?_
  refine lv_iconst (v := 0) E.1 E.2.1 dX11_isTown_4 (by decide) ?_
  refine t_iald E G 54 (rfl : ro 396 = 54) (by decide) (by decide) rfl (n := 127) rfl (by unfold vp_in; decide) dX11_isTown_5 ?_
  refine lv_topi (fun v1 e2 => ?_)
  have b3 : iv 0 1 v1 := by rw [e2]; exact iv_mono (o.a 54 (rfl : ro 396 = 54) _) (by decide +kernel) (by decide +kernel)
  refine lv_iconst (v := 1) E.1 E.2.1 dX11_isTown_6 (by decide) ?_
  refine lv_icmp_ne (tgt := 14) E.1 E.2.1 dX11_isTown_7 (by decide) (fun c4 => ?_) (fun c4 => ?_)
  · skip
    have b5 : iv 0 0 v1 := ne_hi c4 b3 (by decide) (by decide)
    refine lv_iconst (v := 0) E.1 E.2.1 dX11_isTown_14 (by decide) ?_
    exact RET G ⟨rfl, (iv_mono (iv_lit (lo := 0) (hi := 0) 0 (by decide) (by decide)) (by decide) (by decide))⟩ (by decide) dX11_isTown_15
  · skip
    have b6 : iv 1 1 v1 := iv_eq c4 (iv_lit (lo := 1) (hi := 1) 1 (by decide) (by decide))
    refine lv_iconst (v := 1) E.1 E.2.1 dX11_isTown_10 (by decide) ?_
    refine lv_goto (tgt := 15) E.1 E.2.1 dX11_isTown_11 (by decide) ?_
    exact RET G ⟨rfl, (iv_mono (iv_lit (lo := 1) (hi := 1) 1 (by decide) (by decide)) (by decide) (by decide))⟩ (by decide) dX11_isTown_15
set_option maxHeartbeats 4000000 in
set_option maxRecDepth 100000 in
theorem v_isRule (l : Launch) (D : va_G) (K : Nat → ClassId) (ad : Nat → Nat) (z : TS) (o : Ok z) (x1 : Int32) : cI l yX11_isRule cX11_isRule 2 .boolean ({ frames := 0, cells := 0, slots := 0, locals := 0 }) D K ad z [.ref (ad 386), .int x1] (fun r u => u = z ∧ iv 0 1 r ∧ (¬ r = 0 → iv 0 5 x1)) := by
  refine t_enterI (by decide) (Nat.le_of_ble_eq_true rfl) rfl rfl ?_
  intro p e s m args below meth c A R Q H locs ls E hfr hlo RET G hl
  have E : mE p s m meth c cX11_isRule args 2 RX11 D K A := E
  have hl : lv_has ls 2 [(0, .ref (ad 386)), (1, .int x1)] := hl
  refine lv_iload_n E.1 E.2.1 dX11_isRule_0 rfl (lv_at hl 1 rfl) ?_
  refine lv_if_lt (tgt := 16) E.1 E.2.1 dX11_isRule_1 (by decide) (fun c1 => ?_) (fun c1 => ?_)
  · skip
    have b2 : iv (-2147483648) (-1) x1 := lt_l c1 (iv_full x1) (iv_lit (lo := 0) (hi := 0) 0 (by decide) (by decide)) (by decide)
    refine lv_iconst (v := 0) E.1 E.2.1 dX11_isRule_16 (by decide) ?_
    exact RET G ⟨rfl, (iv_mono (iv_lit (lo := 0) (hi := 0) 0 (by decide) (by decide)) (by decide) (by decide)), (fun h => absurd rfl h)⟩ (by decide) dX11_isRule_17
  · skip
    have b3 : iv 0 2147483647 x1 := le_r (Int32.not_lt.mp c1) (iv_lit (lo := 0) (hi := 0) 0 (by decide) (by decide)) (iv_full x1) (by decide)
    refine lv_iload_n E.1 E.2.1 dX11_isRule_4 rfl (lv_at hl 1 rfl) ?_
    refine lv_aload_n E.1 E.2.1 dX11_isRule_5 rfl (lv_at hl 0 rfl) ?_
    refine t_get E G 11 2 (rfl : ro 386 = 11) (C := RX11) (T := TX11) (N := 37) rfl (by decide) (by decide) (by decide) mw_fl_11_258 (fvl_i rfl) dX11_isRule_6 ?_
    refine lv_topi (fun v4 e5 => ?_)
    have b6 : iv 0 6 v4 := by rw [e5]; exact o.i 11 2 (rfl : ro 386 = 11)
    refine lv_icmp_ge (tgt := 16) E.1 E.2.1 dX11_isRule_9 (by decide) (fun c7 => ?_) (fun c7 => ?_)
    · skip
      refine lv_iconst (v := 0) E.1 E.2.1 dX11_isRule_16 (by decide) ?_
      exact RET G ⟨rfl, (iv_mono (iv_lit (lo := 0) (hi := 0) 0 (by decide) (by decide)) (by decide) (by decide)), (fun h => absurd rfl h)⟩ (by decide) dX11_isRule_17
    · skip
      have b8 : iv 0 5 x1 := lt_l (Int32.not_le.mp c7) b3 b6 (by decide)
      have b9 : iv 1 6 v4 := lt_r (Int32.not_le.mp c7) b3 b6 (by decide)
      refine lv_iconst (v := 1) E.1 E.2.1 dX11_isRule_12 (by decide) ?_
      refine lv_goto (tgt := 17) E.1 E.2.1 dX11_isRule_13 (by decide) ?_
      exact RET G ⟨rfl, (iv_mono (iv_lit (lo := 1) (hi := 1) 1 (by decide) (by decide)) (by decide) (by decide)), (fun _ => iv_mono b8 (by decide) (by decide))⟩ (by decide) dX11_isRule_17
set_option maxHeartbeats 4000000 in
set_option maxRecDepth 100000 in
theorem v_isCorner (l : Launch) (D : va_G) (K : Nat → ClassId) (ad : Nat → Nat) (z : TS) (o : Ok z) (x1 : Int32) : cI l yX11_isCorner cX11_isCorner 2 .boolean ({ frames := 0, cells := 0, slots := 0, locals := 0 }) D K ad z [.ref (ad 386), .int x1] (fun r u => u = z ∧ iv 0 1 r ∧ (¬ r = 0 → iv 0 7 x1)) := by
  refine t_enterI (by decide) (Nat.le_of_ble_eq_true rfl) rfl rfl ?_
  intro p e s m args below meth c A R Q H locs ls E hfr hlo RET G hl
  have E : mE p s m meth c cX11_isCorner args 2 RX11 D K A := E
  have hl : lv_has ls 2 [(0, .ref (ad 386)), (1, .int x1)] := hl
  refine lv_iload_n E.1 E.2.1 dX11_isCorner_0 rfl (lv_at hl 1 rfl) ?_
  refine lv_if_lt (tgt := 18) E.1 E.2.1 dX11_isCorner_1 (by decide) (fun c1 => ?_) (fun c1 => ?_)
  · skip
    have b2 : iv (-2147483648) (-1) x1 := lt_l c1 (iv_full x1) (iv_lit (lo := 0) (hi := 0) 0 (by decide) (by decide)) (by decide)
    refine lv_iconst (v := 0) E.1 E.2.1 dX11_isCorner_18 (by decide) ?_
    exact RET G ⟨rfl, (iv_mono (iv_lit (lo := 0) (hi := 0) 0 (by decide) (by decide)) (by decide) (by decide)), (fun h => absurd rfl h)⟩ (by decide) dX11_isCorner_19
  · skip
    have b3 : iv 0 2147483647 x1 := le_r (Int32.not_lt.mp c1) (iv_lit (lo := 0) (hi := 0) 0 (by decide) (by decide)) (iv_full x1) (by decide)
    refine lv_iload_n E.1 E.2.1 dX11_isCorner_4 rfl (lv_at hl 1 rfl) ?_
    refine lv_aload_n E.1 E.2.1 dX11_isCorner_5 rfl (lv_at hl 0 rfl) ?_
    refine t_get E G 11 20 (rfl : ro 386 = 11) (C := RX11) (T := TX11) (N := 37) rfl (by decide) (by decide) (by decide) mw_fl_11_39 (v := .ref (ad 396)) (fvl_o (n := 10) rfl) dX11_isCorner_6 ?_
    refine lv_iconst (v := 1) E.1 E.2.1 dX11_isCorner_9 (by decide) ?_
    refine t_iald E G 54 (rfl : ro 396 = 54) (by decide) (by decide) rfl (n := 127) rfl (by unfold vp_in; decide) dX11_isCorner_10 ?_
    refine lv_topi (fun v4 e5 => ?_)
    have b6 : iv 0 8 v4 := by rw [e5]; exact iv_mono (o.a 54 (rfl : ro 396 = 54) _) (by decide +kernel) (by decide +kernel)
    refine lv_icmp_ge (tgt := 18) E.1 E.2.1 dX11_isCorner_11 (by decide) (fun c7 => ?_) (fun c7 => ?_)
    · skip
      refine lv_iconst (v := 0) E.1 E.2.1 dX11_isCorner_18 (by decide) ?_
      exact RET G ⟨rfl, (iv_mono (iv_lit (lo := 0) (hi := 0) 0 (by decide) (by decide)) (by decide) (by decide)), (fun h => absurd rfl h)⟩ (by decide) dX11_isCorner_19
    · skip
      have b8 : iv 0 7 x1 := lt_l (Int32.not_le.mp c7) b3 b6 (by decide)
      have b9 : iv 1 8 v4 := lt_r (Int32.not_le.mp c7) b3 b6 (by decide)
      refine lv_iconst (v := 1) E.1 E.2.1 dX11_isCorner_14 (by decide) ?_
      refine lv_goto (tgt := 19) E.1 E.2.1 dX11_isCorner_15 (by decide) ?_
      exact RET G ⟨rfl, (iv_mono (iv_lit (lo := 1) (hi := 1) 1 (by decide) (by decide)) (by decide) (by decide)), (fun _ => iv_mono b8 (by decide) (by decide))⟩ (by decide) dX11_isCorner_19
set_option maxHeartbeats 4000000 in
set_option maxRecDepth 100000 in
theorem v_isLure (l : Launch) (D : va_G) (K : Nat → ClassId) (ad : Nat → Nat) (z : TS) (o : Ok z) (x1 : Int32) : cI l yX11_isLure cX11_isLure 2 .boolean ({ frames := 0, cells := 0, slots := 0, locals := 0 }) D K ad z [.ref (ad 386), .int x1] (fun r u => u = z ∧ iv 0 1 r ∧ (¬ r = 0 → iv 0 5 x1)) := by
  refine t_enterI (by decide) (Nat.le_of_ble_eq_true rfl) rfl rfl ?_
  intro p e s m args below meth c A R Q H locs ls E hfr hlo RET G hl
  have E : mE p s m meth c cX11_isLure args 2 RX11 D K A := E
  have hl : lv_has ls 2 [(0, .ref (ad 386)), (1, .int x1)] := hl
  refine lv_iload_n E.1 E.2.1 dX11_isLure_0 rfl (lv_at hl 1 rfl) ?_
  refine lv_if_lt (tgt := 18) E.1 E.2.1 dX11_isLure_1 (by decide) (fun c1 => ?_) (fun c1 => ?_)
  · skip
    have b2 : iv (-2147483648) (-1) x1 := lt_l c1 (iv_full x1) (iv_lit (lo := 0) (hi := 0) 0 (by decide) (by decide)) (by decide)
    refine lv_iconst (v := 0) E.1 E.2.1 dX11_isLure_18 (by decide) ?_
    exact RET G ⟨rfl, (iv_mono (iv_lit (lo := 0) (hi := 0) 0 (by decide) (by decide)) (by decide) (by decide)), (fun h => absurd rfl h)⟩ (by decide) dX11_isLure_19
  · skip
    have b3 : iv 0 2147483647 x1 := le_r (Int32.not_lt.mp c1) (iv_lit (lo := 0) (hi := 0) 0 (by decide) (by decide)) (iv_full x1) (by decide)
    refine lv_iload_n E.1 E.2.1 dX11_isLure_4 rfl (lv_at hl 1 rfl) ?_
    refine lv_aload_n E.1 E.2.1 dX11_isLure_5 rfl (lv_at hl 0 rfl) ?_
    refine t_get E G 11 20 (rfl : ro 386 = 11) (C := RX11) (T := TX11) (N := 37) rfl (by decide) (by decide) (by decide) mw_fl_11_39 (v := .ref (ad 396)) (fvl_o (n := 10) rfl) dX11_isLure_6 ?_
    refine lv_iconst (v := 3) E.1 E.2.1 dX11_isLure_9 (by decide) ?_
    refine t_iald E G 54 (rfl : ro 396 = 54) (by decide) (by decide) rfl (n := 127) rfl (by unfold vp_in; decide) dX11_isLure_10 ?_
    refine lv_topi (fun v4 e5 => ?_)
    have b6 : iv 0 6 v4 := by rw [e5]; exact iv_mono (o.a 54 (rfl : ro 396 = 54) _) (by decide +kernel) (by decide +kernel)
    refine lv_icmp_ge (tgt := 18) E.1 E.2.1 dX11_isLure_11 (by decide) (fun c7 => ?_) (fun c7 => ?_)
    · skip
      refine lv_iconst (v := 0) E.1 E.2.1 dX11_isLure_18 (by decide) ?_
      exact RET G ⟨rfl, (iv_mono (iv_lit (lo := 0) (hi := 0) 0 (by decide) (by decide)) (by decide) (by decide)), (fun h => absurd rfl h)⟩ (by decide) dX11_isLure_19
    · skip
      have b8 : iv 0 5 x1 := lt_l (Int32.not_le.mp c7) b3 b6 (by decide)
      have b9 : iv 1 6 v4 := lt_r (Int32.not_le.mp c7) b3 b6 (by decide)
      refine lv_iconst (v := 1) E.1 E.2.1 dX11_isLure_14 (by decide) ?_
      refine lv_goto (tgt := 19) E.1 E.2.1 dX11_isLure_15 (by decide) ?_
      exact RET G ⟨rfl, (iv_mono (iv_lit (lo := 1) (hi := 1) 1 (by decide) (by decide)) (by decide) (by decide)), (fun _ => iv_mono b8 (by decide) (by decide))⟩ (by decide) dX11_isLure_19
set_option maxHeartbeats 4000000 in
set_option maxRecDepth 100000 in
theorem v_isWalker (l : Launch) (D : va_G) (K : Nat → ClassId) (ad : Nat → Nat) (z : TS) (o : Ok z) (x1 : Int32) : cI l yX11_isWalker cX11_isWalker 2 .boolean ({ frames := 0, cells := 0, slots := 0, locals := 0 }) D K ad z [.ref (ad 386), .int x1] (fun r u => u = z ∧ iv 0 1 r ∧ (¬ r = 0 → iv 0 4 x1)) := by
  refine t_enterI (by decide) (Nat.le_of_ble_eq_true rfl) rfl rfl ?_
  intro p e s m args below meth c A R Q H locs ls E hfr hlo RET G hl
  have E : mE p s m meth c cX11_isWalker args 2 RX11 D K A := E
  have hl : lv_has ls 2 [(0, .ref (ad 386)), (1, .int x1)] := hl
  refine lv_iload_n E.1 E.2.1 dX11_isWalker_0 rfl (lv_at hl 1 rfl) ?_
  refine lv_if_lt (tgt := 18) E.1 E.2.1 dX11_isWalker_1 (by decide) (fun c1 => ?_) (fun c1 => ?_)
  · skip
    have b2 : iv (-2147483648) (-1) x1 := lt_l c1 (iv_full x1) (iv_lit (lo := 0) (hi := 0) 0 (by decide) (by decide)) (by decide)
    refine lv_iconst (v := 0) E.1 E.2.1 dX11_isWalker_18 (by decide) ?_
    exact RET G ⟨rfl, (iv_mono (iv_lit (lo := 0) (hi := 0) 0 (by decide) (by decide)) (by decide) (by decide)), (fun h => absurd rfl h)⟩ (by decide) dX11_isWalker_19
  · skip
    have b3 : iv 0 2147483647 x1 := le_r (Int32.not_lt.mp c1) (iv_lit (lo := 0) (hi := 0) 0 (by decide) (by decide)) (iv_full x1) (by decide)
    refine lv_iload_n E.1 E.2.1 dX11_isWalker_4 rfl (lv_at hl 1 rfl) ?_
    refine lv_aload_n E.1 E.2.1 dX11_isWalker_5 rfl (lv_at hl 0 rfl) ?_
    refine t_get E G 11 20 (rfl : ro 386 = 11) (C := RX11) (T := TX11) (N := 37) rfl (by decide) (by decide) (by decide) mw_fl_11_39 (v := .ref (ad 396)) (fvl_o (n := 10) rfl) dX11_isWalker_6 ?_
    refine lv_iconst (v := 4) E.1 E.2.1 dX11_isWalker_9 (by decide) ?_
    refine t_iald E G 54 (rfl : ro 396 = 54) (by decide) (by decide) rfl (n := 127) rfl (by unfold vp_in; decide) dX11_isWalker_10 ?_
    refine lv_topi (fun v4 e5 => ?_)
    have b6 : iv 0 5 v4 := by rw [e5]; exact iv_mono (o.a 54 (rfl : ro 396 = 54) _) (by decide +kernel) (by decide +kernel)
    refine lv_icmp_ge (tgt := 18) E.1 E.2.1 dX11_isWalker_11 (by decide) (fun c7 => ?_) (fun c7 => ?_)
    · skip
      refine lv_iconst (v := 0) E.1 E.2.1 dX11_isWalker_18 (by decide) ?_
      exact RET G ⟨rfl, (iv_mono (iv_lit (lo := 0) (hi := 0) 0 (by decide) (by decide)) (by decide) (by decide)), (fun h => absurd rfl h)⟩ (by decide) dX11_isWalker_19
    · skip
      have b8 : iv 0 4 x1 := lt_l (Int32.not_le.mp c7) b3 b6 (by decide)
      have b9 : iv 1 5 v4 := lt_r (Int32.not_le.mp c7) b3 b6 (by decide)
      refine lv_iconst (v := 1) E.1 E.2.1 dX11_isWalker_14 (by decide) ?_
      refine lv_goto (tgt := 19) E.1 E.2.1 dX11_isWalker_15 (by decide) ?_
      exact RET G ⟨rfl, (iv_mono (iv_lit (lo := 1) (hi := 1) 1 (by decide) (by decide)) (by decide) (by decide)), (fun _ => iv_mono b8 (by decide) (by decide))⟩ (by decide) dX11_isWalker_19
set_option maxHeartbeats 4000000 in
set_option maxRecDepth 100000 in
theorem v_lureAt (l : Launch) (D : va_G) (K : Nat → ClassId) (ad : Nat → Nat) (z : TS) (o : Ok z) (x1 : Int32) (bx1 : iv 0 5 x1) : cI l yX11_lureAt cX11_lureAt 2 .int ({ frames := 0, cells := 0, slots := 0, locals := 0 }) D K ad z [.ref (ad 386), .int x1] (fun r u => u = z) := by
  refine t_enterI (by decide) (Nat.le_of_ble_eq_true rfl) rfl rfl ?_
  intro p e s m args below meth c A R Q H locs ls E hfr hlo RET G hl
  have E : mE p s m meth c cX11_lureAt args 2 RX11 D K A := E
  have hl : lv_has ls 2 [(0, .ref (ad 386)), (1, .int x1)] := hl
  refine lv_aload_n E.1 E.2.1 dX11_lureAt_0 rfl (lv_at hl 0 rfl) ?_
  refine t_get E G 11 20 (rfl : ro 386 = 11) (C := RX11) (T := TX11) (N := 37) rfl (by decide) (by decide) (by decide) mw_fl_11_39 (v := .ref (ad 396)) (fvl_o (n := 10) rfl) dX11_lureAt_1 ?_
  refine lv_bipush (v := 11) E.1 E.2.1 dX11_lureAt_4 (by decide) ?_
  refine lv_iconst (v := 3) E.1 E.2.1 dX11_lureAt_6 (by decide) ?_
  refine lv_iload_n E.1 E.2.1 dX11_lureAt_7 rfl (lv_at hl 1 rfl) ?_
  refine lv_imul E.1 E.2.1 dX11_lureAt_8 ?_
  refine lv_topi (fun v1 e2 => ?_)
  have b3 : iv 0 15 v1 := by rw [e2]; exact iv_mulc' bx1 3 (by decide) (by decide) (by decide) (by decide) (by decide) (by decide)
  have l4 : v1.toInt = 0 + 3 * x1.toInt := (show v1.toInt = 3 * x1.toInt by rw [e2]; exact ti_cmul 3 (by decide) (by decide) bx1 (by decide) (by decide)).trans (by omega)
  refine lv_iadd E.1 E.2.1 dX11_lureAt_9 ?_
  refine lv_topi (fun v5 e6 => ?_)
  have b7 : iv 11 26 v5 := by rw [e6]; exact iv_add (iv_lit (lo := 11) (hi := 11) 11 (by decide) (by decide)) b3 (by decide) (by decide) (by decide) (by decide)
  have l8 : v5.toInt = 11 + 3 * x1.toInt := (show v5.toInt = 11 + v1.toInt by rw [e6]; exact ti_cadd 11 (by decide) b3 (by decide) (by decide)).trans (by omega)
  refine t_iald E G 54 (rfl : ro 396 = 54) (by decide) (by decide) rfl (n := 127) rfl (iv_vp b7 (by decide) (by decide)) dX11_lureAt_10 ?_
  refine lv_topi (fun v9 e10 => ?_)
  exact RET G rfl rfl dX11_lureAt_11
set_option maxHeartbeats 4000000 in
set_option maxRecDepth 100000 in
theorem v_kindOf (l : Launch) (D : va_G) (K : Nat → ClassId) (ad : Nat → Nat) (z : TS) (o : Ok z) (x1 : Int32) (bx1 : iv 0 5 x1) : cI l yX11_kindOf cX11_kindOf 2 .int ({ frames := 0, cells := 0, slots := 0, locals := 0 }) D K ad z [.ref (ad 386), .int x1] (fun r u => u = z) := by
  refine t_enterI (by decide) (Nat.le_of_ble_eq_true rfl) rfl rfl ?_
  intro p e s m args below meth c A R Q H locs ls E hfr hlo RET G hl
  have E : mE p s m meth c cX11_kindOf args 2 RX11 D K A := E
  have hl : lv_has ls 2 [(0, .ref (ad 386)), (1, .int x1)] := hl
  refine lv_aload_n E.1 E.2.1 dX11_kindOf_0 rfl (lv_at hl 0 rfl) ?_
  refine t_get E G 11 20 (rfl : ro 386 = 11) (C := RX11) (T := TX11) (N := 37) rfl (by decide) (by decide) (by decide) mw_fl_11_39 (v := .ref (ad 396)) (fvl_o (n := 10) rfl) dX11_kindOf_1 ?_
  refine lv_bipush (v := 11) E.1 E.2.1 dX11_kindOf_4 (by decide) ?_
  refine lv_iconst (v := 3) E.1 E.2.1 dX11_kindOf_6 (by decide) ?_
  refine lv_iload_n E.1 E.2.1 dX11_kindOf_7 rfl (lv_at hl 1 rfl) ?_
  refine lv_imul E.1 E.2.1 dX11_kindOf_8 ?_
  refine lv_topi (fun v1 e2 => ?_)
  have b3 : iv 0 15 v1 := by rw [e2]; exact iv_mulc' bx1 3 (by decide) (by decide) (by decide) (by decide) (by decide) (by decide)
  have l4 : v1.toInt = 0 + 3 * x1.toInt := (show v1.toInt = 3 * x1.toInt by rw [e2]; exact ti_cmul 3 (by decide) (by decide) bx1 (by decide) (by decide)).trans (by omega)
  refine lv_iadd E.1 E.2.1 dX11_kindOf_9 ?_
  refine lv_topi (fun v5 e6 => ?_)
  have b7 : iv 11 26 v5 := by rw [e6]; exact iv_add (iv_lit (lo := 11) (hi := 11) 11 (by decide) (by decide)) b3 (by decide) (by decide) (by decide) (by decide)
  have l8 : v5.toInt = 11 + 3 * x1.toInt := (show v5.toInt = 11 + v1.toInt by rw [e6]; exact ti_cadd 11 (by decide) b3 (by decide) (by decide)).trans (by omega)
  refine lv_iconst (v := 1) E.1 E.2.1 dX11_kindOf_10 (by decide) ?_
  refine lv_iadd E.1 E.2.1 dX11_kindOf_11 ?_
  refine lv_topi (fun v9 e10 => ?_)
  have b11 : iv 12 27 v9 := by rw [e10]; exact iv_add b7 (iv_lit (lo := 1) (hi := 1) 1 (by decide) (by decide)) (by decide) (by decide) (by decide) (by decide)
  have l12 : v9.toInt = 12 + 3 * x1.toInt := (show v9.toInt = v5.toInt + 1 by rw [e10]; exact ti_addc 1 (by decide) b7 (by decide) (by decide)).trans (by omega)
  refine t_iald E G 54 (rfl : ro 396 = 54) (by decide) (by decide) rfl (n := 127) rfl (iv_vp b11 (by decide) (by decide)) dX11_kindOf_12 ?_
  refine lv_topi (fun v13 e14 => ?_)
  exact RET G rfl rfl dX11_kindOf_13
set_option maxHeartbeats 4000000 in
set_option maxRecDepth 100000 in
theorem v_cornerOf (l : Launch) (D : va_G) (K : Nat → ClassId) (ad : Nat → Nat) (z : TS) (o : Ok z) (x1 : Int32) (bx1 : iv 0 4 x1) : cI l yX11_cornerOf cX11_cornerOf 2 .int ({ frames := 0, cells := 0, slots := 0, locals := 0 }) D K ad z [.ref (ad 386), .int x1] (fun r u => u = z ∧ iv 0 7 r) := by
  refine t_enterI (by decide) (Nat.le_of_ble_eq_true rfl) rfl rfl ?_
  intro p e s m args below meth c A R Q H locs ls E hfr hlo RET G hl
  have E : mE p s m meth c cX11_cornerOf args 2 RX11 D K A := E
  have hl : lv_has ls 2 [(0, .ref (ad 386)), (1, .int x1)] := hl
  refine lv_aload_n E.1 E.2.1 dX11_cornerOf_0 rfl (lv_at hl 0 rfl) ?_
  refine t_get E G 11 20 (rfl : ro 386 = 11) (C := RX11) (T := TX11) (N := 37) rfl (by decide) (by decide) (by decide) mw_fl_11_39 (v := .ref (ad 396)) (fvl_o (n := 10) rfl) dX11_cornerOf_1 ?_
  refine lv_bipush (v := 29) E.1 E.2.1 dX11_cornerOf_4 (by decide) ?_
  refine lv_iconst (v := 3) E.1 E.2.1 dX11_cornerOf_6 (by decide) ?_
  refine lv_iload_n E.1 E.2.1 dX11_cornerOf_7 rfl (lv_at hl 1 rfl) ?_
  refine lv_imul E.1 E.2.1 dX11_cornerOf_8 ?_
  refine lv_topi (fun v1 e2 => ?_)
  have b3 : iv 0 12 v1 := by rw [e2]; exact iv_mulc' bx1 3 (by decide) (by decide) (by decide) (by decide) (by decide) (by decide)
  have l4 : v1.toInt = 0 + 3 * x1.toInt := (show v1.toInt = 3 * x1.toInt by rw [e2]; exact ti_cmul 3 (by decide) (by decide) bx1 (by decide) (by decide)).trans (by omega)
  refine lv_iadd E.1 E.2.1 dX11_cornerOf_9 ?_
  refine lv_topi (fun v5 e6 => ?_)
  have b7 : iv 29 41 v5 := by rw [e6]; exact iv_add (iv_lit (lo := 29) (hi := 29) 29 (by decide) (by decide)) b3 (by decide) (by decide) (by decide) (by decide)
  have l8 : v5.toInt = 29 + 3 * x1.toInt := (show v5.toInt = 29 + v1.toInt by rw [e6]; exact ti_cadd 29 (by decide) b3 (by decide) (by decide)).trans (by omega)
  refine t_iald E G 54 (rfl : ro 396 = 54) (by decide) (by decide) rfl (n := 127) rfl (iv_vp b7 (by decide) (by decide)) dX11_cornerOf_10 ?_
  refine lv_topi (fun v9 e10 => ?_)
  have b11 : iv 0 7 v9 := by rw [e10]; exact rd1 o 54 (rfl : ro 396 = 54) 29 3 0 4 bx1 (l8.trans (by omega)) (by decide +kernel)
  exact RET G ⟨rfl, (iv_mono b11 (by decide) (by decide))⟩ rfl dX11_cornerOf_11
set_option maxHeartbeats 4000000 in
set_option maxRecDepth 100000 in
theorem v_waryOf (l : Launch) (D : va_G) (K : Nat → ClassId) (ad : Nat → Nat) (z : TS) (o : Ok z) (x1 : Int32) (bx1 : iv 0 4 x1) : cI l yX11_waryOf cX11_waryOf 2 .int ({ frames := 0, cells := 0, slots := 0, locals := 0 }) D K ad z [.ref (ad 386), .int x1] (fun r u => u = z) := by
  refine t_enterI (by decide) (Nat.le_of_ble_eq_true rfl) rfl rfl ?_
  intro p e s m args below meth c A R Q H locs ls E hfr hlo RET G hl
  have E : mE p s m meth c cX11_waryOf args 2 RX11 D K A := E
  have hl : lv_has ls 2 [(0, .ref (ad 386)), (1, .int x1)] := hl
  refine lv_aload_n E.1 E.2.1 dX11_waryOf_0 rfl (lv_at hl 0 rfl) ?_
  refine t_get E G 11 20 (rfl : ro 386 = 11) (C := RX11) (T := TX11) (N := 37) rfl (by decide) (by decide) (by decide) mw_fl_11_39 (v := .ref (ad 396)) (fvl_o (n := 10) rfl) dX11_waryOf_1 ?_
  refine lv_bipush (v := 29) E.1 E.2.1 dX11_waryOf_4 (by decide) ?_
  refine lv_iconst (v := 3) E.1 E.2.1 dX11_waryOf_6 (by decide) ?_
  refine lv_iload_n E.1 E.2.1 dX11_waryOf_7 rfl (lv_at hl 1 rfl) ?_
  refine lv_imul E.1 E.2.1 dX11_waryOf_8 ?_
  refine lv_topi (fun v1 e2 => ?_)
  have b3 : iv 0 12 v1 := by rw [e2]; exact iv_mulc' bx1 3 (by decide) (by decide) (by decide) (by decide) (by decide) (by decide)
  have l4 : v1.toInt = 0 + 3 * x1.toInt := (show v1.toInt = 3 * x1.toInt by rw [e2]; exact ti_cmul 3 (by decide) (by decide) bx1 (by decide) (by decide)).trans (by omega)
  refine lv_iadd E.1 E.2.1 dX11_waryOf_9 ?_
  refine lv_topi (fun v5 e6 => ?_)
  have b7 : iv 29 41 v5 := by rw [e6]; exact iv_add (iv_lit (lo := 29) (hi := 29) 29 (by decide) (by decide)) b3 (by decide) (by decide) (by decide) (by decide)
  have l8 : v5.toInt = 29 + 3 * x1.toInt := (show v5.toInt = 29 + v1.toInt by rw [e6]; exact ti_cadd 29 (by decide) b3 (by decide) (by decide)).trans (by omega)
  refine lv_iconst (v := 1) E.1 E.2.1 dX11_waryOf_10 (by decide) ?_
  refine lv_iadd E.1 E.2.1 dX11_waryOf_11 ?_
  refine lv_topi (fun v9 e10 => ?_)
  have b11 : iv 30 42 v9 := by rw [e10]; exact iv_add b7 (iv_lit (lo := 1) (hi := 1) 1 (by decide) (by decide)) (by decide) (by decide) (by decide) (by decide)
  have l12 : v9.toInt = 30 + 3 * x1.toInt := (show v9.toInt = v5.toInt + 1 by rw [e10]; exact ti_addc 1 (by decide) b7 (by decide) (by decide)).trans (by omega)
  refine t_iald E G 54 (rfl : ro 396 = 54) (by decide) (by decide) rfl (n := 127) rfl (iv_vp b11 (by decide) (by decide)) dX11_waryOf_12 ?_
  refine lv_topi (fun v13 e14 => ?_)
  exact RET G rfl rfl dX11_waryOf_13
set_option maxHeartbeats 4000000 in
set_option maxRecDepth 100000 in
theorem v_chargeOf (l : Launch) (D : va_G) (K : Nat → ClassId) (ad : Nat → Nat) (z : TS) (o : Ok z) (x1 : Int32) (bx1 : iv 0 4 x1) : cI l yX11_chargeOf cX11_chargeOf 2 .int ({ frames := 0, cells := 0, slots := 0, locals := 0 }) D K ad z [.ref (ad 386), .int x1] (fun r u => u = z) := by
  refine t_enterI (by decide) (Nat.le_of_ble_eq_true rfl) rfl rfl ?_
  intro p e s m args below meth c A R Q H locs ls E hfr hlo RET G hl
  have E : mE p s m meth c cX11_chargeOf args 2 RX11 D K A := E
  have hl : lv_has ls 2 [(0, .ref (ad 386)), (1, .int x1)] := hl
  refine lv_aload_n E.1 E.2.1 dX11_chargeOf_0 rfl (lv_at hl 0 rfl) ?_
  refine t_get E G 11 20 (rfl : ro 386 = 11) (C := RX11) (T := TX11) (N := 37) rfl (by decide) (by decide) (by decide) mw_fl_11_39 (v := .ref (ad 396)) (fvl_o (n := 10) rfl) dX11_chargeOf_1 ?_
  refine lv_bipush (v := 29) E.1 E.2.1 dX11_chargeOf_4 (by decide) ?_
  refine lv_iconst (v := 3) E.1 E.2.1 dX11_chargeOf_6 (by decide) ?_
  refine lv_iload_n E.1 E.2.1 dX11_chargeOf_7 rfl (lv_at hl 1 rfl) ?_
  refine lv_imul E.1 E.2.1 dX11_chargeOf_8 ?_
  refine lv_topi (fun v1 e2 => ?_)
  have b3 : iv 0 12 v1 := by rw [e2]; exact iv_mulc' bx1 3 (by decide) (by decide) (by decide) (by decide) (by decide) (by decide)
  have l4 : v1.toInt = 0 + 3 * x1.toInt := (show v1.toInt = 3 * x1.toInt by rw [e2]; exact ti_cmul 3 (by decide) (by decide) bx1 (by decide) (by decide)).trans (by omega)
  refine lv_iadd E.1 E.2.1 dX11_chargeOf_9 ?_
  refine lv_topi (fun v5 e6 => ?_)
  have b7 : iv 29 41 v5 := by rw [e6]; exact iv_add (iv_lit (lo := 29) (hi := 29) 29 (by decide) (by decide)) b3 (by decide) (by decide) (by decide) (by decide)
  have l8 : v5.toInt = 29 + 3 * x1.toInt := (show v5.toInt = 29 + v1.toInt by rw [e6]; exact ti_cadd 29 (by decide) b3 (by decide) (by decide)).trans (by omega)
  refine lv_iconst (v := 2) E.1 E.2.1 dX11_chargeOf_10 (by decide) ?_
  refine lv_iadd E.1 E.2.1 dX11_chargeOf_11 ?_
  refine lv_topi (fun v9 e10 => ?_)
  have b11 : iv 31 43 v9 := by rw [e10]; exact iv_add b7 (iv_lit (lo := 2) (hi := 2) 2 (by decide) (by decide)) (by decide) (by decide) (by decide) (by decide)
  have l12 : v9.toInt = 31 + 3 * x1.toInt := (show v9.toInt = v5.toInt + 2 by rw [e10]; exact ti_addc 2 (by decide) b7 (by decide) (by decide)).trans (by omega)
  refine t_iald E G 54 (rfl : ro 396 = 54) (by decide) (by decide) rfl (n := 127) rfl (iv_vp b11 (by decide) (by decide)) dX11_chargeOf_12 ?_
  refine lv_topi (fun v13 e14 => ?_)
  exact RET G rfl rfl dX11_chargeOf_13
