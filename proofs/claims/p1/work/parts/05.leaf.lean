theorem mw_fl_3_15 : (Cond.fieldLink RX3 15 "LureTown$Notes" "behind" "[I" : Cond) ∈ cw := cw_of (List.mem_append_right _ (List.mem_append_right _ (List.mem_append_left _ (List.mem_of_getElem? (i := 39) (by decide +kernel))))) (by decide +kernel)
theorem mw_fl_3_19 : (Cond.fieldLink RX3 19 "LureTown$Notes" "walkers" "[I" : Cond) ∈ cw := cw_of (List.mem_append_right _ (List.mem_append_right _ (List.mem_append_left _ (List.mem_of_getElem? (i := 40) (by decide +kernel))))) (by decide +kernel)
theorem mw_fl_3_22 : (Cond.fieldLink RX3 22 "LureTown$Notes" "corners" "[I" : Cond) ∈ cw := cw_of (List.mem_append_right _ (List.mem_append_right _ (List.mem_append_left _ (List.mem_of_getElem? (i := 41) (by decide +kernel))))) (by decide +kernel)
theorem mw_fl_3_9 : (Cond.fieldLink RX3 9 "LureTown$Notes" "size" "I" : Cond) ∈ cw := cw_of (List.mem_append_right _ (List.mem_append_right _ (List.mem_append_left _ (List.mem_of_getElem? (i := 37) (by decide +kernel))))) (by decide +kernel)
theorem mw_fl_4_15 : (Cond.fieldLink RX4 15 "LureTown$Rule" "code" "[I" : Cond) ∈ cw := cw_of (List.mem_append_right _ (List.mem_append_left _ (List.mem_of_getElem? (i := 209) (by decide +kernel)))) (by decide +kernel)
theorem mw_fl_4_19 : (Cond.fieldLink RX4 19 "LureTown$Rule" "codeSize" "I" : Cond) ∈ cw := cw_of (List.mem_append_right _ (List.mem_append_left _ (List.mem_of_getElem? (i := 210) (by decide +kernel)))) (by decide +kernel)
theorem mw_fl_4_22 : (Cond.fieldLink RX4 22 "LureTown$Rule" "sumFrom" "[I" : Cond) ∈ cw := cw_of (List.mem_append_right _ (List.mem_append_left _ (List.mem_of_getElem? (i := 211) (by decide +kernel)))) (by decide +kernel)
theorem mw_fl_4_25 : (Cond.fieldLink RX4 25 "LureTown$Rule" "testFrom" "[I" : Cond) ∈ cw := cw_of (List.mem_append_right _ (List.mem_append_left _ (List.mem_of_getElem? (i := 212) (by decide +kernel)))) (by decide +kernel)
theorem mw_fl_4_28 : (Cond.fieldLink RX4 28 "LureTown$Rule" "stack" "[J" : Cond) ∈ cw := cw_of (List.mem_append_right _ (List.mem_append_left _ (List.mem_of_getElem? (i := 213) (by decide +kernel)))) (by decide +kernel)
theorem mw_fl_4_9 : (Cond.fieldLink RX4 9 "LureTown$Rule" "clauseCount" "I" : Cond) ∈ cw := cw_of (List.mem_append_right _ (List.mem_append_left _ (List.mem_of_getElem? (i := 206) (by decide +kernel)))) (by decide +kernel)
theorem mw_fl_6_15 : (Cond.fieldLink RX6 15 "LureTown$State" "walkerHeart" "[I" : Cond) ∈ cw := cw_of (List.mem_append_right _ (List.mem_append_left _ (List.mem_of_getElem? (i := 91) (by decide +kernel)))) (by decide +kernel)
theorem mw_fl_6_18 : (Cond.fieldLink RX6 18 "LureTown$State" "walkerWary" "[I" : Cond) ∈ cw := cw_of (List.mem_append_right _ (List.mem_append_left _ (List.mem_of_getElem? (i := 95) (by decide +kernel)))) (by decide +kernel)
theorem mw_fl_6_21 : (Cond.fieldLink RX6 21 "LureTown$State" "walkerCharge" "[I" : Cond) ∈ cw := cw_of (List.mem_append_right _ (List.mem_append_left _ (List.mem_of_getElem? (i := 99) (by decide +kernel)))) (by decide +kernel)
theorem mw_fl_6_24 : (Cond.fieldLink RX6 24 "LureTown$State" "lureCorner" "[I" : Cond) ∈ cw := cw_of (List.mem_append_right _ (List.mem_append_left _ (List.mem_of_getElem? (i := 102) (by decide +kernel)))) (by decide +kernel)
theorem mw_fl_6_27 : (Cond.fieldLink RX6 27 "LureTown$State" "lureKind" "[I" : Cond) ∈ cw := cw_of (List.mem_append_right _ (List.mem_append_left _ (List.mem_of_getElem? (i := 106) (by decide +kernel)))) (by decide +kernel)
theorem mw_fl_6_30 : (Cond.fieldLink RX6 30 "LureTown$State" "setBits" "I" : Cond) ∈ cw := cw_of (List.mem_append_right _ (List.mem_append_left _ (List.mem_of_getElem? (i := 109) (by decide +kernel)))) (by decide +kernel)
theorem mw_fl_6_34 : (Cond.fieldLink RX6 34 "LureTown$State" "steps" "I" : Cond) ∈ cw := cw_of (List.mem_append_right _ (List.mem_append_left _ (List.mem_of_getElem? (i := 113) (by decide +kernel)))) (by decide +kernel)
theorem mw_fl_6_9 : (Cond.fieldLink RX6 9 "LureTown$State" "walkerCorner" "[I" : Cond) ∈ cw := cw_of (List.mem_append_right _ (List.mem_append_left _ (List.mem_of_getElem? (i := 86) (by decide +kernel)))) (by decide +kernel)
theorem mw_fl_7_15 : (Cond.fieldLink RX7 15 "LureTown$Tape" "size" "I" : Cond) ∈ cw := cw_of (List.mem_append_right _ (List.mem_append_left _ (List.mem_of_getElem? (i := 36) (by decide +kernel)))) (by decide +kernel)
theorem mw_fl_7_19 : (Cond.fieldLink RX7 19 "LureTown$Tape" "fault" "I" : Cond) ∈ cw := cw_of (List.mem_append_right _ (List.mem_append_left _ (List.mem_of_getElem? (i := 38) (by decide +kernel)))) (by decide +kernel)
theorem mw_fl_7_22 : (Cond.fieldLink RX7 22 "LureTown$Tape" "token" "I" : Cond) ∈ cw := cw_of (List.mem_append_right _ (List.mem_append_left _ (List.mem_of_getElem? (i := 42) (by decide +kernel)))) (by decide +kernel)
theorem mw_fl_7_25 : (Cond.fieldLink RX7 25 "LureTown$Tape" "number" "I" : Cond) ∈ cw := cw_of (List.mem_append_right _ (List.mem_append_left _ (List.mem_of_getElem? (i := 45) (by decide +kernel)))) (by decide +kernel)
theorem mw_fl_7_28 : (Cond.fieldLink RX7 28 "LureTown$Tape" "start" "I" : Cond) ∈ cw := cw_of (List.mem_append_right _ (List.mem_append_left _ (List.mem_of_getElem? (i := 48) (by decide +kernel)))) (by decide +kernel)
theorem mw_fl_7_31 : (Cond.fieldLink RX7 31 "LureTown$Tape" "reached" "I" : Cond) ∈ cw := cw_of (List.mem_append_right _ (List.mem_append_left _ (List.mem_of_getElem? (i := 49) (by decide +kernel)))) (by decide +kernel)
theorem mw_fl_7_9 : (Cond.fieldLink RX7 9 "LureTown$Tape" "bytes" "[B" : Cond) ∈ cw := cw_of (List.mem_append_right _ (List.mem_append_left _ (List.mem_of_getElem? (i := 35) (by decide +kernel)))) (by decide +kernel)
theorem mw_ml_3_3 : (Cond.methodLink RX3 3 Lib.objectInit : Cond) ∈ cw := cw_of (List.mem_append_right _ (List.mem_append_right _ (List.mem_append_left _ (List.mem_of_getElem? (i := 36) (by decide +kernel))))) (by decide +kernel)
theorem mw_ml_4_3 : (Cond.methodLink RX4 3 Lib.objectInit : Cond) ∈ cw := cw_of (List.mem_append_right _ (List.mem_append_left _ (List.mem_of_getElem? (i := 205) (by decide +kernel)))) (by decide +kernel)
theorem mw_ml_6_3 : (Cond.methodLink RX6 3 Lib.objectInit : Cond) ∈ cw := cw_of (List.mem_append_right _ (List.mem_append_left _ (List.mem_of_getElem? (i := 85) (by decide +kernel)))) (by decide +kernel)
theorem mw_ml_7_3 : (Cond.methodLink RX7 3 Lib.objectInit : Cond) ∈ cw := cw_of (List.mem_append_right _ (List.mem_append_left _ (List.mem_of_getElem? (i := 34) (by decide +kernel)))) (by decide +kernel)
theorem dX3_init_0 : decode cX3_init 0 = .ok (.aload_n 0, 1) := by decide +kernel
theorem dX3_init_1 : decode cX3_init 1 = .ok (.invokespecial 3, 3) := by decide +kernel
theorem dX3_init_4 : decode cX3_init 4 = .ok (.aload_n 0, 1) := by decide +kernel
theorem dX3_init_5 : decode cX3_init 5 = .ok (.iconst 0, 1) := by decide +kernel
theorem dX3_init_6 : decode cX3_init 6 = .ok (.putfield 9, 3) := by decide +kernel
theorem dX3_init_9 : decode cX3_init 9 = .ok (.aload_n 0, 1) := by decide +kernel
theorem dX3_init_10 : decode cX3_init 10 = .ok (.bipush 10, 2) := by decide +kernel
theorem dX3_init_12 : decode cX3_init 12 = .ok (.newarray .int, 2) := by decide +kernel
theorem dX3_init_14 : decode cX3_init 14 = .ok (.putfield 15, 3) := by decide +kernel
theorem dX3_init_17 : decode cX3_init 17 = .ok (.aload_n 0, 1) := by decide +kernel
theorem dX3_init_18 : decode cX3_init 18 = .ok (.bipush 10, 2) := by decide +kernel
theorem dX3_init_20 : decode cX3_init 20 = .ok (.newarray .int, 2) := by decide +kernel
theorem dX3_init_22 : decode cX3_init 22 = .ok (.putfield 19, 3) := by decide +kernel
theorem dX3_init_25 : decode cX3_init 25 = .ok (.aload_n 0, 1) := by decide +kernel
theorem dX3_init_26 : decode cX3_init 26 = .ok (.bipush 10, 2) := by decide +kernel
theorem dX3_init_28 : decode cX3_init 28 = .ok (.newarray .int, 2) := by decide +kernel
theorem dX3_init_30 : decode cX3_init 30 = .ok (.putfield 22, 3) := by decide +kernel
theorem dX3_init_33 : decode cX3_init 33 = .ok (.return_, 1) := by decide +kernel
theorem dX4_init_0 : decode cX4_init 0 = .ok (.aload_n 0, 1) := by decide +kernel
theorem dX4_init_1 : decode cX4_init 1 = .ok (.invokespecial 3, 3) := by decide +kernel
theorem dX4_init_4 : decode cX4_init 4 = .ok (.aload_n 0, 1) := by decide +kernel
theorem dX4_init_5 : decode cX4_init 5 = .ok (.iconst 0, 1) := by decide +kernel
theorem dX4_init_6 : decode cX4_init 6 = .ok (.putfield 9, 3) := by decide +kernel
theorem dX4_init_9 : decode cX4_init 9 = .ok (.aload_n 0, 1) := by decide +kernel
theorem dX4_init_10 : decode cX4_init 10 = .ok (.sipush 400, 3) := by decide +kernel
theorem dX4_init_13 : decode cX4_init 13 = .ok (.newarray .int, 2) := by decide +kernel
theorem dX4_init_15 : decode cX4_init 15 = .ok (.putfield 15, 3) := by decide +kernel
theorem dX4_init_18 : decode cX4_init 18 = .ok (.aload_n 0, 1) := by decide +kernel
theorem dX4_init_19 : decode cX4_init 19 = .ok (.iconst 0, 1) := by decide +kernel
theorem dX4_init_20 : decode cX4_init 20 = .ok (.putfield 19, 3) := by decide +kernel
theorem dX4_init_23 : decode cX4_init 23 = .ok (.aload_n 0, 1) := by decide +kernel
theorem dX4_init_24 : decode cX4_init 24 = .ok (.bipush 13, 2) := by decide +kernel
theorem dX4_init_26 : decode cX4_init 26 = .ok (.newarray .int, 2) := by decide +kernel
theorem dX4_init_28 : decode cX4_init 28 = .ok (.putfield 22, 3) := by decide +kernel
theorem dX4_init_31 : decode cX4_init 31 = .ok (.aload_n 0, 1) := by decide +kernel
theorem dX4_init_32 : decode cX4_init 32 = .ok (.bipush 13, 2) := by decide +kernel
theorem dX4_init_34 : decode cX4_init 34 = .ok (.newarray .int, 2) := by decide +kernel
theorem dX4_init_36 : decode cX4_init 36 = .ok (.putfield 25, 3) := by decide +kernel
theorem dX4_init_39 : decode cX4_init 39 = .ok (.aload_n 0, 1) := by decide +kernel
theorem dX4_init_40 : decode cX4_init 40 = .ok (.bipush 61, 2) := by decide +kernel
theorem dX4_init_42 : decode cX4_init 42 = .ok (.newarray .long, 2) := by decide +kernel
theorem dX4_init_44 : decode cX4_init 44 = .ok (.putfield 28, 3) := by decide +kernel
theorem dX4_init_47 : decode cX4_init 47 = .ok (.return_, 1) := by decide +kernel
theorem dX6_init_0 : decode cX6_init 0 = .ok (.aload_n 0, 1) := by decide +kernel
theorem dX6_init_1 : decode cX6_init 1 = .ok (.invokespecial 3, 3) := by decide +kernel
theorem dX6_init_4 : decode cX6_init 4 = .ok (.aload_n 0, 1) := by decide +kernel
theorem dX6_init_5 : decode cX6_init 5 = .ok (.iconst 5, 1) := by decide +kernel
theorem dX6_init_6 : decode cX6_init 6 = .ok (.newarray .int, 2) := by decide +kernel
theorem dX6_init_8 : decode cX6_init 8 = .ok (.putfield 9, 3) := by decide +kernel
theorem dX6_init_11 : decode cX6_init 11 = .ok (.aload_n 0, 1) := by decide +kernel
theorem dX6_init_12 : decode cX6_init 12 = .ok (.iconst 5, 1) := by decide +kernel
theorem dX6_init_13 : decode cX6_init 13 = .ok (.newarray .int, 2) := by decide +kernel
theorem dX6_init_15 : decode cX6_init 15 = .ok (.putfield 15, 3) := by decide +kernel
theorem dX6_init_18 : decode cX6_init 18 = .ok (.aload_n 0, 1) := by decide +kernel
theorem dX6_init_19 : decode cX6_init 19 = .ok (.iconst 5, 1) := by decide +kernel
theorem dX6_init_20 : decode cX6_init 20 = .ok (.newarray .int, 2) := by decide +kernel
theorem dX6_init_22 : decode cX6_init 22 = .ok (.putfield 18, 3) := by decide +kernel
theorem dX6_init_25 : decode cX6_init 25 = .ok (.aload_n 0, 1) := by decide +kernel
theorem dX6_init_26 : decode cX6_init 26 = .ok (.iconst 5, 1) := by decide +kernel
theorem dX6_init_27 : decode cX6_init 27 = .ok (.newarray .int, 2) := by decide +kernel
theorem dX6_init_29 : decode cX6_init 29 = .ok (.putfield 21, 3) := by decide +kernel
theorem dX6_init_32 : decode cX6_init 32 = .ok (.aload_n 0, 1) := by decide +kernel
theorem dX6_init_33 : decode cX6_init 33 = .ok (.bipush 6, 2) := by decide +kernel
theorem dX6_init_35 : decode cX6_init 35 = .ok (.newarray .int, 2) := by decide +kernel
theorem dX6_init_37 : decode cX6_init 37 = .ok (.putfield 24, 3) := by decide +kernel
theorem dX6_init_40 : decode cX6_init 40 = .ok (.aload_n 0, 1) := by decide +kernel
theorem dX6_init_41 : decode cX6_init 41 = .ok (.bipush 6, 2) := by decide +kernel
theorem dX6_init_43 : decode cX6_init 43 = .ok (.newarray .int, 2) := by decide +kernel
theorem dX6_init_45 : decode cX6_init 45 = .ok (.putfield 27, 3) := by decide +kernel
theorem dX6_init_48 : decode cX6_init 48 = .ok (.aload_n 0, 1) := by decide +kernel
theorem dX6_init_49 : decode cX6_init 49 = .ok (.iconst 0, 1) := by decide +kernel
theorem dX6_init_50 : decode cX6_init 50 = .ok (.putfield 30, 3) := by decide +kernel
theorem dX6_init_53 : decode cX6_init 53 = .ok (.aload_n 0, 1) := by decide +kernel
theorem dX6_init_54 : decode cX6_init 54 = .ok (.iconst 0, 1) := by decide +kernel
theorem dX6_init_55 : decode cX6_init 55 = .ok (.putfield 34, 3) := by decide +kernel
theorem dX6_init_58 : decode cX6_init 58 = .ok (.return_, 1) := by decide +kernel
theorem dX7_init_0 : decode cX7_init 0 = .ok (.aload_n 0, 1) := by decide +kernel
theorem dX7_init_1 : decode cX7_init 1 = .ok (.invokespecial 3, 3) := by decide +kernel
theorem dX7_init_4 : decode cX7_init 4 = .ok (.aload_n 0, 1) := by decide +kernel
theorem dX7_init_5 : decode cX7_init 5 = .ok (.sipush 400, 3) := by decide +kernel
theorem dX7_init_8 : decode cX7_init 8 = .ok (.newarray .byte, 2) := by decide +kernel
theorem dX7_init_10 : decode cX7_init 10 = .ok (.putfield 9, 3) := by decide +kernel
theorem dX7_init_13 : decode cX7_init 13 = .ok (.aload_n 0, 1) := by decide +kernel
theorem dX7_init_14 : decode cX7_init 14 = .ok (.iconst 0, 1) := by decide +kernel
theorem dX7_init_15 : decode cX7_init 15 = .ok (.putfield 15, 3) := by decide +kernel
theorem dX7_init_18 : decode cX7_init 18 = .ok (.aload_n 0, 1) := by decide +kernel
theorem dX7_init_19 : decode cX7_init 19 = .ok (.iconst 0, 1) := by decide +kernel
theorem dX7_init_20 : decode cX7_init 20 = .ok (.putfield 19, 3) := by decide +kernel
theorem dX7_init_23 : decode cX7_init 23 = .ok (.aload_n 0, 1) := by decide +kernel
theorem dX7_init_24 : decode cX7_init 24 = .ok (.bipush 40, 2) := by decide +kernel
theorem dX7_init_26 : decode cX7_init 26 = .ok (.putfield 22, 3) := by decide +kernel
theorem dX7_init_29 : decode cX7_init 29 = .ok (.aload_n 0, 1) := by decide +kernel
theorem dX7_init_30 : decode cX7_init 30 = .ok (.iconst 0, 1) := by decide +kernel
theorem dX7_init_31 : decode cX7_init 31 = .ok (.putfield 25, 3) := by decide +kernel
theorem dX7_init_34 : decode cX7_init 34 = .ok (.aload_n 0, 1) := by decide +kernel
theorem dX7_init_35 : decode cX7_init 35 = .ok (.iconst 0, 1) := by decide +kernel
theorem dX7_init_36 : decode cX7_init 36 = .ok (.putfield 28, 3) := by decide +kernel
theorem dX7_init_39 : decode cX7_init 39 = .ok (.aload_n 0, 1) := by decide +kernel
theorem dX7_init_40 : decode cX7_init 40 = .ok (.iconst 0, 1) := by decide +kernel
theorem dX7_init_41 : decode cX7_init 41 = .ok (.putfield 31, 3) := by decide +kernel
theorem dX7_init_44 : decode cX7_init 44 = .ok (.return_, 1) := by decide +kernel
set_option maxHeartbeats 4000000 in
set_option maxRecDepth 100000 in
/-- State() -/
theorem c_State_init (l : Launch) (D : va_G) (K : Nat → ClassId) (h0 : Nat) : mV (S := mU) l yX6_init cX6_init 1 ({ frames := 1, cells := 6, slots := 32, locals := 20 }) D K [(h0, .inr (6, [.null, .null, .null, .null, .null, .null, .int 0, .int 0]))] [.ref h0] (fun u => True) (fun u => [(h0, .inr (6, [.ref (u.1 0), .ref (u.1 1), .ref (u.1 2), .ref (u.1 3), .ref (u.1 4), .ref (u.1 5), .int 0, .int 0])), ((u.1 0), .inl (K 0, 5, .inl (fun _ => 0))), ((u.1 1), .inl (K 0, 5, .inl (fun _ => 0))), ((u.1 2), .inl (K 0, 5, .inl (fun _ => 0))), ((u.1 3), .inl (K 0, 5, .inl (fun _ => 0))), ((u.1 4), .inl (K 0, 6, .inl (fun _ => 0))), ((u.1 5), .inl (K 0, 6, .inl (fun _ => 0)))]) := by
  refine m_enterV (by decide) (Nat.le_of_ble_eq_true rfl) ?_
  intro p e s m args below meth c A ls E hr hN G hl
  have E : mE p s m meth c cX6_init args 1 RX6 D K A := E
  have hl : lv_has ls 1 [(0, .ref h0)] := hl
  obtain ⟨H, hH⟩ : ∃ H, H = s.heap := ⟨_, rfl⟩
  obtain ⟨locs, hlo⟩ : ∃ L : List Loc, L = [] := ⟨_, rfl⟩
  rw [← hH, ← hlo] at G
  rw [← hH, ← hlo]
  have G : mG D A s H locs [(h0, .inr (6, [.null, .null, .null, .null, .null, .null, .int 0, .int 0]))] := G
  clear hH hlo
  refine lv_aload_n E.1 E.2.1 dX6_init_0 rfl (lv_at hl 0 rfl) ?_
  refine m_objInit E hl mw_ml_6_3 dX6_init_1 (by decide) (Nat.le_of_ble_eq_true rfl) (by decide) ?_
  refine lv_aload_n E.1 E.2.1 dX6_init_4 rfl (lv_at hl 0 rfl) ?_
  refine lv_iconst (v := 5) E.1 E.2.1 dX6_init_5 (by decide) ?_
  refine m_newi E G (N' := 5) (by decide) (by decide) (by decide) (by decide) (by decide) dX6_init_6 (fun q_1 H G => ?_)
  have G : mG D A s H locs [(h0, .inr (6, [.null, .null, .null, .null, .null, .null, .int 0, .int 0])), (q_1, .inl (K 0, 5, .inl (fun _ => 0)))] := G
  refine m_putF E G hN 0 (ci := 6) rfl 0 (C := RX6) (T := TX6) (N := 8) rfl (by decide) mw_fl_6_9 rfl rfl rfl rfl (Nat.le_of_ble_eq_true rfl) dX6_init_8 (fun H locs G => ?_)
  have G : mG D A s H locs [(h0, .inr (6, [.ref q_1, .null, .null, .null, .null, .null, .int 0, .int 0])), (q_1, .inl (K 0, 5, .inl (fun _ => 0)))] := G
  refine lv_aload_n E.1 E.2.1 dX6_init_11 rfl (lv_at hl 0 rfl) ?_
  refine lv_iconst (v := 5) E.1 E.2.1 dX6_init_12 (by decide) ?_
  refine m_newi E G (N' := 5) (by decide) (by decide) (by decide) (by decide) (by decide) dX6_init_13 (fun q_2 H G => ?_)
  have G : mG D A s H locs [(h0, .inr (6, [.ref q_1, .null, .null, .null, .null, .null, .int 0, .int 0])), (q_1, .inl (K 0, 5, .inl (fun _ => 0))), (q_2, .inl (K 0, 5, .inl (fun _ => 0)))] := G
  refine m_putF E G hN 0 (ci := 6) rfl 1 (C := RX6) (T := TX6) (N := 8) rfl (by decide) mw_fl_6_15 rfl rfl rfl rfl (Nat.le_of_ble_eq_true rfl) dX6_init_15 (fun H locs G => ?_)
  have G : mG D A s H locs [(h0, .inr (6, [.ref q_1, .ref q_2, .null, .null, .null, .null, .int 0, .int 0])), (q_1, .inl (K 0, 5, .inl (fun _ => 0))), (q_2, .inl (K 0, 5, .inl (fun _ => 0)))] := G
  refine lv_aload_n E.1 E.2.1 dX6_init_18 rfl (lv_at hl 0 rfl) ?_
  refine lv_iconst (v := 5) E.1 E.2.1 dX6_init_19 (by decide) ?_
  refine m_newi E G (N' := 5) (by decide) (by decide) (by decide) (by decide) (by decide) dX6_init_20 (fun q_3 H G => ?_)
  have G : mG D A s H locs [(h0, .inr (6, [.ref q_1, .ref q_2, .null, .null, .null, .null, .int 0, .int 0])), (q_1, .inl (K 0, 5, .inl (fun _ => 0))), (q_2, .inl (K 0, 5, .inl (fun _ => 0))), (q_3, .inl (K 0, 5, .inl (fun _ => 0)))] := G
  refine m_putF E G hN 0 (ci := 6) rfl 2 (C := RX6) (T := TX6) (N := 8) rfl (by decide) mw_fl_6_18 rfl rfl rfl rfl (Nat.le_of_ble_eq_true rfl) dX6_init_22 (fun H locs G => ?_)
  have G : mG D A s H locs [(h0, .inr (6, [.ref q_1, .ref q_2, .ref q_3, .null, .null, .null, .int 0, .int 0])), (q_1, .inl (K 0, 5, .inl (fun _ => 0))), (q_2, .inl (K 0, 5, .inl (fun _ => 0))), (q_3, .inl (K 0, 5, .inl (fun _ => 0)))] := G
  refine lv_aload_n E.1 E.2.1 dX6_init_25 rfl (lv_at hl 0 rfl) ?_
  refine lv_iconst (v := 5) E.1 E.2.1 dX6_init_26 (by decide) ?_
  refine m_newi E G (N' := 5) (by decide) (by decide) (by decide) (by decide) (by decide) dX6_init_27 (fun q_4 H G => ?_)
  have G : mG D A s H locs [(h0, .inr (6, [.ref q_1, .ref q_2, .ref q_3, .null, .null, .null, .int 0, .int 0])), (q_1, .inl (K 0, 5, .inl (fun _ => 0))), (q_2, .inl (K 0, 5, .inl (fun _ => 0))), (q_3, .inl (K 0, 5, .inl (fun _ => 0))), (q_4, .inl (K 0, 5, .inl (fun _ => 0)))] := G
  refine m_putF E G hN 0 (ci := 6) rfl 3 (C := RX6) (T := TX6) (N := 8) rfl (by decide) mw_fl_6_21 rfl rfl rfl rfl (Nat.le_of_ble_eq_true rfl) dX6_init_29 (fun H locs G => ?_)
  have G : mG D A s H locs [(h0, .inr (6, [.ref q_1, .ref q_2, .ref q_3, .ref q_4, .null, .null, .int 0, .int 0])), (q_1, .inl (K 0, 5, .inl (fun _ => 0))), (q_2, .inl (K 0, 5, .inl (fun _ => 0))), (q_3, .inl (K 0, 5, .inl (fun _ => 0))), (q_4, .inl (K 0, 5, .inl (fun _ => 0)))] := G
  refine lv_aload_n E.1 E.2.1 dX6_init_32 rfl (lv_at hl 0 rfl) ?_
  refine lv_bipush (v := 6) E.1 E.2.1 dX6_init_33 (by decide) ?_
  refine m_newi E G (N' := 6) (by decide) (by decide) (by decide) (by decide) (by decide) dX6_init_35 (fun q_5 H G => ?_)
  have G : mG D A s H locs [(h0, .inr (6, [.ref q_1, .ref q_2, .ref q_3, .ref q_4, .null, .null, .int 0, .int 0])), (q_1, .inl (K 0, 5, .inl (fun _ => 0))), (q_2, .inl (K 0, 5, .inl (fun _ => 0))), (q_3, .inl (K 0, 5, .inl (fun _ => 0))), (q_4, .inl (K 0, 5, .inl (fun _ => 0))), (q_5, .inl (K 0, 6, .inl (fun _ => 0)))] := G
  refine m_putF E G hN 0 (ci := 6) rfl 4 (C := RX6) (T := TX6) (N := 8) rfl (by decide) mw_fl_6_24 rfl rfl rfl rfl (Nat.le_of_ble_eq_true rfl) dX6_init_37 (fun H locs G => ?_)
  have G : mG D A s H locs [(h0, .inr (6, [.ref q_1, .ref q_2, .ref q_3, .ref q_4, .ref q_5, .null, .int 0, .int 0])), (q_1, .inl (K 0, 5, .inl (fun _ => 0))), (q_2, .inl (K 0, 5, .inl (fun _ => 0))), (q_3, .inl (K 0, 5, .inl (fun _ => 0))), (q_4, .inl (K 0, 5, .inl (fun _ => 0))), (q_5, .inl (K 0, 6, .inl (fun _ => 0)))] := G
  refine lv_aload_n E.1 E.2.1 dX6_init_40 rfl (lv_at hl 0 rfl) ?_
  refine lv_bipush (v := 6) E.1 E.2.1 dX6_init_41 (by decide) ?_
  refine m_newi E G (N' := 6) (by decide) (by decide) (by decide) (by decide) (by decide) dX6_init_43 (fun q_6 H G => ?_)
  have G : mG D A s H locs [(h0, .inr (6, [.ref q_1, .ref q_2, .ref q_3, .ref q_4, .ref q_5, .null, .int 0, .int 0])), (q_1, .inl (K 0, 5, .inl (fun _ => 0))), (q_2, .inl (K 0, 5, .inl (fun _ => 0))), (q_3, .inl (K 0, 5, .inl (fun _ => 0))), (q_4, .inl (K 0, 5, .inl (fun _ => 0))), (q_5, .inl (K 0, 6, .inl (fun _ => 0))), (q_6, .inl (K 0, 6, .inl (fun _ => 0)))] := G
  refine m_putF E G hN 0 (ci := 6) rfl 5 (C := RX6) (T := TX6) (N := 8) rfl (by decide) mw_fl_6_27 rfl rfl rfl rfl (Nat.le_of_ble_eq_true rfl) dX6_init_45 (fun H locs G => ?_)
  have G : mG D A s H locs [(h0, .inr (6, [.ref q_1, .ref q_2, .ref q_3, .ref q_4, .ref q_5, .ref q_6, .int 0, .int 0])), (q_1, .inl (K 0, 5, .inl (fun _ => 0))), (q_2, .inl (K 0, 5, .inl (fun _ => 0))), (q_3, .inl (K 0, 5, .inl (fun _ => 0))), (q_4, .inl (K 0, 5, .inl (fun _ => 0))), (q_5, .inl (K 0, 6, .inl (fun _ => 0))), (q_6, .inl (K 0, 6, .inl (fun _ => 0)))] := G
  refine lv_aload_n E.1 E.2.1 dX6_init_48 rfl (lv_at hl 0 rfl) ?_
  refine lv_iconst (v := 0) E.1 E.2.1 dX6_init_49 (by decide) ?_
  refine m_put E G 0 (ci := 6) rfl 6 (C := RX6) (T := TX6) (N := 8) rfl (by decide) mw_fl_6_30 rfl rfl rfl (Nat.le_of_ble_eq_true rfl) dX6_init_50 (fun H locs G => ?_)
  have G : mG D A s H locs [(h0, .inr (6, [.ref q_1, .ref q_2, .ref q_3, .ref q_4, .ref q_5, .ref q_6, .int 0, .int 0])), (q_1, .inl (K 0, 5, .inl (fun _ => 0))), (q_2, .inl (K 0, 5, .inl (fun _ => 0))), (q_3, .inl (K 0, 5, .inl (fun _ => 0))), (q_4, .inl (K 0, 5, .inl (fun _ => 0))), (q_5, .inl (K 0, 6, .inl (fun _ => 0))), (q_6, .inl (K 0, 6, .inl (fun _ => 0)))] := G
  refine lv_aload_n E.1 E.2.1 dX6_init_53 rfl (lv_at hl 0 rfl) ?_
  refine lv_iconst (v := 0) E.1 E.2.1 dX6_init_54 (by decide) ?_
  refine m_put E G 0 (ci := 6) rfl 7 (C := RX6) (T := TX6) (N := 8) rfl (by decide) mw_fl_6_34 rfl rfl rfl (Nat.le_of_ble_eq_true rfl) dX6_init_55 (fun H locs G => ?_)
  have G : mG D A s H locs [(h0, .inr (6, [.ref q_1, .ref q_2, .ref q_3, .ref q_4, .ref q_5, .ref q_6, .int 0, .int 0])), (q_1, .inl (K 0, 5, .inl (fun _ => 0))), (q_2, .inl (K 0, 5, .inl (fun _ => 0))), (q_3, .inl (K 0, 5, .inl (fun _ => 0))), (q_4, .inl (K 0, 5, .inl (fun _ => 0))), (q_5, .inl (K 0, 6, .inl (fun _ => 0))), (q_6, .inl (K 0, 6, .inl (fun _ => 0)))] := G
  exact m_retv E G hr (fun k => [q_1, q_2, q_3, q_4, q_5, q_6].getD k 0, fun _ _ => 0, fun _ _ => none) trivial [0, 1, 2, 3, 4, 5, 6] (by decide) rfl (by decide) (by decide) dX6_init_58
set_option maxHeartbeats 4000000 in
set_option maxRecDepth 100000 in
/-- Tape() -/
theorem c_Tape_init (l : Launch) (D : va_G) (K : Nat → ClassId) (h0 : Nat) : mV (S := mU) l yX7_init cX7_init 1 ({ frames := 1, cells := 1, slots := 400, locals := 20 }) D K [(h0, .inr (7, [.null, .int 0, .int 0, .int 0, .int 0, .int 0, .int 0]))] [.ref h0] (fun u => True) (fun u => [(h0, .inr (7, [.ref (u.1 0), .int 0, .int 0, .int 40, .int 0, .int 0, .int 0])), ((u.1 0), .inl (K 1, 400, .inl (fun _ => 0)))]) := by
  refine m_enterV (by decide) (Nat.le_of_ble_eq_true rfl) ?_
  intro p e s m args below meth c A ls E hr hN G hl
  have E : mE p s m meth c cX7_init args 1 RX7 D K A := E
  have hl : lv_has ls 1 [(0, .ref h0)] := hl
  obtain ⟨H, hH⟩ : ∃ H, H = s.heap := ⟨_, rfl⟩
  obtain ⟨locs, hlo⟩ : ∃ L : List Loc, L = [] := ⟨_, rfl⟩
  rw [← hH, ← hlo] at G
  rw [← hH, ← hlo]
  have G : mG D A s H locs [(h0, .inr (7, [.null, .int 0, .int 0, .int 0, .int 0, .int 0, .int 0]))] := G
  clear hH hlo
  refine lv_aload_n E.1 E.2.1 dX7_init_0 rfl (lv_at hl 0 rfl) ?_
  refine m_objInit E hl mw_ml_7_3 dX7_init_1 (by decide) (Nat.le_of_ble_eq_true rfl) (by decide) ?_
  refine lv_aload_n E.1 E.2.1 dX7_init_4 rfl (lv_at hl 0 rfl) ?_
  refine lv_sipush (v := 400) E.1 E.2.1 dX7_init_5 (by decide) ?_
  refine m_newb E G (N' := 400) (by decide) (by decide) (by decide) (by decide) (by decide) dX7_init_8 (fun q_1 H G => ?_)
  have G : mG D A s H locs [(h0, .inr (7, [.null, .int 0, .int 0, .int 0, .int 0, .int 0, .int 0])), (q_1, .inl (K 1, 400, .inl (fun _ => 0)))] := G
  refine m_putF E G hN 0 (ci := 7) rfl 0 (C := RX7) (T := TX7) (N := 7) rfl (by decide) mw_fl_7_9 rfl rfl rfl rfl (Nat.le_of_ble_eq_true rfl) dX7_init_10 (fun H locs G => ?_)
  have G : mG D A s H locs [(h0, .inr (7, [.ref q_1, .int 0, .int 0, .int 0, .int 0, .int 0, .int 0])), (q_1, .inl (K 1, 400, .inl (fun _ => 0)))] := G
  refine lv_aload_n E.1 E.2.1 dX7_init_13 rfl (lv_at hl 0 rfl) ?_
  refine lv_iconst (v := 0) E.1 E.2.1 dX7_init_14 (by decide) ?_
  refine m_put E G 0 (ci := 7) rfl 1 (C := RX7) (T := TX7) (N := 7) rfl (by decide) mw_fl_7_15 rfl rfl rfl (Nat.le_of_ble_eq_true rfl) dX7_init_15 (fun H locs G => ?_)
  have G : mG D A s H locs [(h0, .inr (7, [.ref q_1, .int 0, .int 0, .int 0, .int 0, .int 0, .int 0])), (q_1, .inl (K 1, 400, .inl (fun _ => 0)))] := G
  refine lv_aload_n E.1 E.2.1 dX7_init_18 rfl (lv_at hl 0 rfl) ?_
  refine lv_iconst (v := 0) E.1 E.2.1 dX7_init_19 (by decide) ?_
  refine m_put E G 0 (ci := 7) rfl 2 (C := RX7) (T := TX7) (N := 7) rfl (by decide) mw_fl_7_19 rfl rfl rfl (Nat.le_of_ble_eq_true rfl) dX7_init_20 (fun H locs G => ?_)
  have G : mG D A s H locs [(h0, .inr (7, [.ref q_1, .int 0, .int 0, .int 0, .int 0, .int 0, .int 0])), (q_1, .inl (K 1, 400, .inl (fun _ => 0)))] := G
  refine lv_aload_n E.1 E.2.1 dX7_init_23 rfl (lv_at hl 0 rfl) ?_
  refine lv_bipush (v := 40) E.1 E.2.1 dX7_init_24 (by decide) ?_
  refine m_put E G 0 (ci := 7) rfl 3 (C := RX7) (T := TX7) (N := 7) rfl (by decide) mw_fl_7_22 rfl rfl rfl (Nat.le_of_ble_eq_true rfl) dX7_init_26 (fun H locs G => ?_)
  have G : mG D A s H locs [(h0, .inr (7, [.ref q_1, .int 0, .int 0, .int 40, .int 0, .int 0, .int 0])), (q_1, .inl (K 1, 400, .inl (fun _ => 0)))] := G
  refine lv_aload_n E.1 E.2.1 dX7_init_29 rfl (lv_at hl 0 rfl) ?_
  refine lv_iconst (v := 0) E.1 E.2.1 dX7_init_30 (by decide) ?_
  refine m_put E G 0 (ci := 7) rfl 4 (C := RX7) (T := TX7) (N := 7) rfl (by decide) mw_fl_7_25 rfl rfl rfl (Nat.le_of_ble_eq_true rfl) dX7_init_31 (fun H locs G => ?_)
  have G : mG D A s H locs [(h0, .inr (7, [.ref q_1, .int 0, .int 0, .int 40, .int 0, .int 0, .int 0])), (q_1, .inl (K 1, 400, .inl (fun _ => 0)))] := G
  refine lv_aload_n E.1 E.2.1 dX7_init_34 rfl (lv_at hl 0 rfl) ?_
  refine lv_iconst (v := 0) E.1 E.2.1 dX7_init_35 (by decide) ?_
  refine m_put E G 0 (ci := 7) rfl 5 (C := RX7) (T := TX7) (N := 7) rfl (by decide) mw_fl_7_28 rfl rfl rfl (Nat.le_of_ble_eq_true rfl) dX7_init_36 (fun H locs G => ?_)
  have G : mG D A s H locs [(h0, .inr (7, [.ref q_1, .int 0, .int 0, .int 40, .int 0, .int 0, .int 0])), (q_1, .inl (K 1, 400, .inl (fun _ => 0)))] := G
  refine lv_aload_n E.1 E.2.1 dX7_init_39 rfl (lv_at hl 0 rfl) ?_
  refine lv_iconst (v := 0) E.1 E.2.1 dX7_init_40 (by decide) ?_
  refine m_put E G 0 (ci := 7) rfl 6 (C := RX7) (T := TX7) (N := 7) rfl (by decide) mw_fl_7_31 rfl rfl rfl (Nat.le_of_ble_eq_true rfl) dX7_init_41 (fun H locs G => ?_)
  have G : mG D A s H locs [(h0, .inr (7, [.ref q_1, .int 0, .int 0, .int 40, .int 0, .int 0, .int 0])), (q_1, .inl (K 1, 400, .inl (fun _ => 0)))] := G
  exact m_retv E G hr (fun k => [q_1].getD k 0, fun _ _ => 0, fun _ _ => none) trivial [0, 1] (by decide) rfl (by decide) (by decide) dX7_init_44
set_option maxHeartbeats 4000000 in
set_option maxRecDepth 100000 in
/-- Notes() -/
theorem c_Notes_init (l : Launch) (D : va_G) (K : Nat → ClassId) (h0 : Nat) : mV (S := mU) l yX3_init cX3_init 1 ({ frames := 1, cells := 3, slots := 30, locals := 20 }) D K [(h0, .inr (3, [.int 0, .null, .null, .null]))] [.ref h0] (fun u => True) (fun u => [(h0, .inr (3, [.int 0, .ref (u.1 0), .ref (u.1 1), .ref (u.1 2)])), ((u.1 0), .inl (K 0, 10, .inl (fun _ => 0))), ((u.1 1), .inl (K 0, 10, .inl (fun _ => 0))), ((u.1 2), .inl (K 0, 10, .inl (fun _ => 0)))]) := by
  refine m_enterV (by decide) (Nat.le_of_ble_eq_true rfl) ?_
  intro p e s m args below meth c A ls E hr hN G hl
  have E : mE p s m meth c cX3_init args 1 RX3 D K A := E
  have hl : lv_has ls 1 [(0, .ref h0)] := hl
  obtain ⟨H, hH⟩ : ∃ H, H = s.heap := ⟨_, rfl⟩
  obtain ⟨locs, hlo⟩ : ∃ L : List Loc, L = [] := ⟨_, rfl⟩
  rw [← hH, ← hlo] at G
  rw [← hH, ← hlo]
  have G : mG D A s H locs [(h0, .inr (3, [.int 0, .null, .null, .null]))] := G
  clear hH hlo
  refine lv_aload_n E.1 E.2.1 dX3_init_0 rfl (lv_at hl 0 rfl) ?_
  refine m_objInit E hl mw_ml_3_3 dX3_init_1 (by decide) (Nat.le_of_ble_eq_true rfl) (by decide) ?_
  refine lv_aload_n E.1 E.2.1 dX3_init_4 rfl (lv_at hl 0 rfl) ?_
  refine lv_iconst (v := 0) E.1 E.2.1 dX3_init_5 (by decide) ?_
  refine m_put E G 0 (ci := 3) rfl 0 (C := RX3) (T := TX3) (N := 4) rfl (by decide) mw_fl_3_9 rfl rfl rfl (Nat.le_of_ble_eq_true rfl) dX3_init_6 (fun H locs G => ?_)
  have G : mG D A s H locs [(h0, .inr (3, [.int 0, .null, .null, .null]))] := G
  refine lv_aload_n E.1 E.2.1 dX3_init_9 rfl (lv_at hl 0 rfl) ?_
  refine lv_bipush (v := 10) E.1 E.2.1 dX3_init_10 (by decide) ?_
  refine m_newi E G (N' := 10) (by decide) (by decide) (by decide) (by decide) (by decide) dX3_init_12 (fun q_1 H G => ?_)
  have G : mG D A s H locs [(h0, .inr (3, [.int 0, .null, .null, .null])), (q_1, .inl (K 0, 10, .inl (fun _ => 0)))] := G
  refine m_putF E G hN 0 (ci := 3) rfl 1 (C := RX3) (T := TX3) (N := 4) rfl (by decide) mw_fl_3_15 rfl rfl rfl rfl (Nat.le_of_ble_eq_true rfl) dX3_init_14 (fun H locs G => ?_)
  have G : mG D A s H locs [(h0, .inr (3, [.int 0, .ref q_1, .null, .null])), (q_1, .inl (K 0, 10, .inl (fun _ => 0)))] := G
  refine lv_aload_n E.1 E.2.1 dX3_init_17 rfl (lv_at hl 0 rfl) ?_
  refine lv_bipush (v := 10) E.1 E.2.1 dX3_init_18 (by decide) ?_
  refine m_newi E G (N' := 10) (by decide) (by decide) (by decide) (by decide) (by decide) dX3_init_20 (fun q_2 H G => ?_)
  have G : mG D A s H locs [(h0, .inr (3, [.int 0, .ref q_1, .null, .null])), (q_1, .inl (K 0, 10, .inl (fun _ => 0))), (q_2, .inl (K 0, 10, .inl (fun _ => 0)))] := G
  refine m_putF E G hN 0 (ci := 3) rfl 2 (C := RX3) (T := TX3) (N := 4) rfl (by decide) mw_fl_3_19 rfl rfl rfl rfl (Nat.le_of_ble_eq_true rfl) dX3_init_22 (fun H locs G => ?_)
  have G : mG D A s H locs [(h0, .inr (3, [.int 0, .ref q_1, .ref q_2, .null])), (q_1, .inl (K 0, 10, .inl (fun _ => 0))), (q_2, .inl (K 0, 10, .inl (fun _ => 0)))] := G
  refine lv_aload_n E.1 E.2.1 dX3_init_25 rfl (lv_at hl 0 rfl) ?_
  refine lv_bipush (v := 10) E.1 E.2.1 dX3_init_26 (by decide) ?_
  refine m_newi E G (N' := 10) (by decide) (by decide) (by decide) (by decide) (by decide) dX3_init_28 (fun q_3 H G => ?_)
  have G : mG D A s H locs [(h0, .inr (3, [.int 0, .ref q_1, .ref q_2, .null])), (q_1, .inl (K 0, 10, .inl (fun _ => 0))), (q_2, .inl (K 0, 10, .inl (fun _ => 0))), (q_3, .inl (K 0, 10, .inl (fun _ => 0)))] := G
  refine m_putF E G hN 0 (ci := 3) rfl 3 (C := RX3) (T := TX3) (N := 4) rfl (by decide) mw_fl_3_22 rfl rfl rfl rfl (Nat.le_of_ble_eq_true rfl) dX3_init_30 (fun H locs G => ?_)
  have G : mG D A s H locs [(h0, .inr (3, [.int 0, .ref q_1, .ref q_2, .ref q_3])), (q_1, .inl (K 0, 10, .inl (fun _ => 0))), (q_2, .inl (K 0, 10, .inl (fun _ => 0))), (q_3, .inl (K 0, 10, .inl (fun _ => 0)))] := G
  exact m_retv E G hr (fun k => [q_1, q_2, q_3].getD k 0, fun _ _ => 0, fun _ _ => none) trivial [0, 1, 2, 3] (by decide) rfl (by decide) (by decide) dX3_init_33
set_option maxHeartbeats 4000000 in
set_option maxRecDepth 100000 in
/-- Rule() -/
theorem c_Rule_init (l : Launch) (D : va_G) (K : Nat → ClassId) (h0 : Nat) : mV (S := mU) l yX4_init cX4_init 1 ({ frames := 1, cells := 4, slots := 487, locals := 20 }) D K [(h0, .inr (4, [.int 0, .null, .int 0, .null, .null, .null]))] [.ref h0] (fun u => True) (fun u => [(h0, .inr (4, [.int 0, .ref (u.1 0), .int 0, .ref (u.1 1), .ref (u.1 2), .ref (u.1 3)])), ((u.1 2), .inl (K 0, 13, .inl (fun _ => 0)))]) := by
  refine m_enterV (by decide) (Nat.le_of_ble_eq_true rfl) ?_
  intro p e s m args below meth c A ls E hr hN G hl
  have E : mE p s m meth c cX4_init args 1 RX4 D K A := E
  have hl : lv_has ls 1 [(0, .ref h0)] := hl
  obtain ⟨H, hH⟩ : ∃ H, H = s.heap := ⟨_, rfl⟩
  obtain ⟨locs, hlo⟩ : ∃ L : List Loc, L = [] := ⟨_, rfl⟩
  rw [← hH, ← hlo] at G
  rw [← hH, ← hlo]
  have G : mG D A s H locs [(h0, .inr (4, [.int 0, .null, .int 0, .null, .null, .null]))] := G
  clear hH hlo
  refine lv_aload_n E.1 E.2.1 dX4_init_0 rfl (lv_at hl 0 rfl) ?_
  refine m_objInit E hl mw_ml_4_3 dX4_init_1 (by decide) (Nat.le_of_ble_eq_true rfl) (by decide) ?_
  refine lv_aload_n E.1 E.2.1 dX4_init_4 rfl (lv_at hl 0 rfl) ?_
  refine lv_iconst (v := 0) E.1 E.2.1 dX4_init_5 (by decide) ?_
  refine m_put E G 0 (ci := 4) rfl 0 (C := RX4) (T := TX4) (N := 6) rfl (by decide) mw_fl_4_9 rfl rfl rfl (Nat.le_of_ble_eq_true rfl) dX4_init_6 (fun H locs G => ?_)
  have G : mG D A s H locs [(h0, .inr (4, [.int 0, .null, .int 0, .null, .null, .null]))] := G
  refine lv_aload_n E.1 E.2.1 dX4_init_9 rfl (lv_at hl 0 rfl) ?_
  refine lv_sipush (v := 400) E.1 E.2.1 dX4_init_10 (by decide) ?_
  refine m_newi E G (N' := 400) (by decide) (by decide) (by decide) (by decide) (by decide) dX4_init_13 (fun q_1 H G => ?_)
  have G : mG D A s H locs [(h0, .inr (4, [.int 0, .null, .int 0, .null, .null, .null])), (q_1, .inl (K 0, 400, .inl (fun _ => 0)))] := G
  refine m_putF E G hN 0 (ci := 4) rfl 1 (C := RX4) (T := TX4) (N := 6) rfl (by decide) mw_fl_4_15 rfl rfl rfl rfl (Nat.le_of_ble_eq_true rfl) dX4_init_15 (fun H locs G => ?_)
  have G : mG D A s H locs [(h0, .inr (4, [.int 0, .ref q_1, .int 0, .null, .null, .null])), (q_1, .inl (K 0, 400, .inl (fun _ => 0)))] := G
  refine lv_aload_n E.1 E.2.1 dX4_init_18 rfl (lv_at hl 0 rfl) ?_
  refine lv_iconst (v := 0) E.1 E.2.1 dX4_init_19 (by decide) ?_
  refine m_put E G 0 (ci := 4) rfl 2 (C := RX4) (T := TX4) (N := 6) rfl (by decide) mw_fl_4_19 rfl rfl rfl (Nat.le_of_ble_eq_true rfl) dX4_init_20 (fun H locs G => ?_)
  have G : mG D A s H locs [(h0, .inr (4, [.int 0, .ref q_1, .int 0, .null, .null, .null])), (q_1, .inl (K 0, 400, .inl (fun _ => 0)))] := G
  refine lv_aload_n E.1 E.2.1 dX4_init_23 rfl (lv_at hl 0 rfl) ?_
  refine lv_bipush (v := 13) E.1 E.2.1 dX4_init_24 (by decide) ?_
  refine m_newi E G (N' := 13) (by decide) (by decide) (by decide) (by decide) (by decide) dX4_init_26 (fun q_2 H G => ?_)
  have G : mG D A s H locs [(h0, .inr (4, [.int 0, .ref q_1, .int 0, .null, .null, .null])), (q_1, .inl (K 0, 400, .inl (fun _ => 0))), (q_2, .inl (K 0, 13, .inl (fun _ => 0)))] := G
  refine m_putF E G hN 0 (ci := 4) rfl 3 (C := RX4) (T := TX4) (N := 6) rfl (by decide) mw_fl_4_22 rfl rfl rfl rfl (Nat.le_of_ble_eq_true rfl) dX4_init_28 (fun H locs G => ?_)
  have G : mG D A s H locs [(h0, .inr (4, [.int 0, .ref q_1, .int 0, .ref q_2, .null, .null])), (q_1, .inl (K 0, 400, .inl (fun _ => 0))), (q_2, .inl (K 0, 13, .inl (fun _ => 0)))] := G
  refine lv_aload_n E.1 E.2.1 dX4_init_31 rfl (lv_at hl 0 rfl) ?_
  refine lv_bipush (v := 13) E.1 E.2.1 dX4_init_32 (by decide) ?_
  refine m_newi E G (N' := 13) (by decide) (by decide) (by decide) (by decide) (by decide) dX4_init_34 (fun q_3 H G => ?_)
  have G : mG D A s H locs [(h0, .inr (4, [.int 0, .ref q_1, .int 0, .ref q_2, .null, .null])), (q_1, .inl (K 0, 400, .inl (fun _ => 0))), (q_2, .inl (K 0, 13, .inl (fun _ => 0))), (q_3, .inl (K 0, 13, .inl (fun _ => 0)))] := G
  refine m_putF E G hN 0 (ci := 4) rfl 4 (C := RX4) (T := TX4) (N := 6) rfl (by decide) mw_fl_4_25 rfl rfl rfl rfl (Nat.le_of_ble_eq_true rfl) dX4_init_36 (fun H locs G => ?_)
  have G : mG D A s H locs [(h0, .inr (4, [.int 0, .ref q_1, .int 0, .ref q_2, .ref q_3, .null])), (q_1, .inl (K 0, 400, .inl (fun _ => 0))), (q_2, .inl (K 0, 13, .inl (fun _ => 0))), (q_3, .inl (K 0, 13, .inl (fun _ => 0)))] := G
  refine lv_aload_n E.1 E.2.1 dX4_init_39 rfl (lv_at hl 0 rfl) ?_
  refine lv_bipush (v := 61) E.1 E.2.1 dX4_init_40 (by decide) ?_
  refine m_newl E G (N' := 61) (by decide) (by decide) (by decide) (by decide) (by decide) dX4_init_42 (fun q_4 H G => ?_)
  have G : mG D A s H locs [(h0, .inr (4, [.int 0, .ref q_1, .int 0, .ref q_2, .ref q_3, .null])), (q_1, .inl (K 0, 400, .inl (fun _ => 0))), (q_2, .inl (K 0, 13, .inl (fun _ => 0))), (q_3, .inl (K 0, 13, .inl (fun _ => 0))), (q_4, .inl (K 2, 61, .inr (.inl (fun _ => 0))))] := G
  refine m_putF E G hN 0 (ci := 4) rfl 5 (C := RX4) (T := TX4) (N := 6) rfl (by decide) mw_fl_4_28 rfl rfl rfl rfl (Nat.le_of_ble_eq_true rfl) dX4_init_44 (fun H locs G => ?_)
  have G : mG D A s H locs [(h0, .inr (4, [.int 0, .ref q_1, .int 0, .ref q_2, .ref q_3, .ref q_4])), (q_1, .inl (K 0, 400, .inl (fun _ => 0))), (q_2, .inl (K 0, 13, .inl (fun _ => 0))), (q_3, .inl (K 0, 13, .inl (fun _ => 0))), (q_4, .inl (K 2, 61, .inr (.inl (fun _ => 0))))] := G
  exact m_retv E G hr (fun k => [q_1, q_2, q_3, q_4].getD k 0, fun _ _ => 0, fun _ _ => none) trivial [0, 3] (by decide) rfl (by decide) (by decide) dX4_init_47
