theorem mw_code_X10_walkersAtHome : (Cond.code yX10_walkersAtHome cX10_walkersAtHome 3 (some .int) : Cond) ∈ cw := cw_of (List.mem_append_right _ (List.mem_append_right _ (List.mem_append_right _ (List.mem_append_right _ (List.mem_append_left _ (List.mem_of_getElem? (i := 46) rfl)))))) (by decide +kernel)
theorem mw_code_X6_allCharges : (Cond.code yX6_allCharges cX6_allCharges 4 (some .int) : Cond) ∈ cw := cw_of (List.mem_append_right _ (List.mem_append_right _ (List.mem_append_right _ (List.mem_append_right _ (List.mem_append_left _ (List.mem_of_getElem? (i := 50) rfl)))))) (by decide +kernel)
theorem mw_fl_10_121 : (Cond.fieldLink RX10 121 "LureTown$Moment" "state" "LLureTown$State;" : Cond) ∈ cw := cw_of (List.mem_append_right _ (List.mem_append_right _ (List.mem_append_left _ (List.mem_of_getElem? (i := 54) (by decide +kernel))))) (by decide +kernel)
theorem mw_fl_10_195 : (Cond.fieldLink RX10 195 "LureTown$Town" "wayCount" "I" : Cond) ∈ cw := cw_of (List.mem_append_right _ (List.mem_append_left _ (List.mem_of_getElem? (i := 139) (by decide +kernel)))) (by decide +kernel)
theorem mw_fl_10_201 : (Cond.fieldLink RX10 201 "LureTown$State" "steps" "I" : Cond) ∈ cw := cw_of (List.mem_append_right _ (List.mem_append_left _ (List.mem_of_getElem? (i := 115) (by decide +kernel)))) (by decide +kernel)
theorem mw_fl_10_204 : (Cond.fieldLink RX10 204 "LureTown$State" "setBits" "I" : Cond) ∈ cw := cw_of (List.mem_append_right _ (List.mem_append_left _ (List.mem_of_getElem? (i := 112) (by decide +kernel)))) (by decide +kernel)
theorem mw_inst_X10_walkersAtHome : (Cond.instanceMethod yX10_walkersAtHome : Cond) ∈ cw := cw_of (List.mem_append_right _ (List.mem_append_right _ (List.mem_append_right _ (List.mem_append_right _ (List.mem_append_left _ (List.mem_of_getElem? (i := 45) (by decide +kernel))))))) (by decide +kernel)
theorem mw_inst_X6_allCharges : (Cond.instanceMethod yX6_allCharges : Cond) ∈ cw := cw_of (List.mem_append_right _ (List.mem_append_right _ (List.mem_append_right _ (List.mem_append_right _ (List.mem_append_left _ (List.mem_of_getElem? (i := 48) (by decide +kernel))))))) (by decide +kernel)
theorem mw_ml_10_207 : (Cond.methodLink RX10 207 yX10_walkersAtHome : Cond) ∈ cw := cw_of (List.mem_append_right _ (List.mem_append_right _ (List.mem_append_right _ (List.mem_append_right _ (List.mem_append_left _ (List.mem_of_getElem? (i := 43) (by decide +kernel))))))) (by decide +kernel)
theorem mw_ml_10_211 : (Cond.methodLink RX10 211 yX6_allCharges : Cond) ∈ cw := cw_of (List.mem_append_right _ (List.mem_append_right _ (List.mem_append_right _ (List.mem_append_right _ (List.mem_append_left _ (List.mem_of_getElem? (i := 47) (by decide +kernel))))))) (by decide +kernel)
theorem mw_sel_X10_walkersAtHome : (Cond.selects RX10 yX10_walkersAtHome yX10_walkersAtHome : Cond) ∈ cw := cw_of (List.mem_append_left _ (List.mem_of_getElem? (i := 25) (by decide +kernel))) (by decide +kernel)
theorem mw_sel_X6_allCharges : (Cond.selects RX6 yX6_allCharges yX6_allCharges : Cond) ∈ cw := cw_of (List.mem_append_right _ (List.mem_append_right _ (List.mem_append_right _ (List.mem_append_right _ (List.mem_append_left _ (List.mem_of_getElem? (i := 49) (by decide +kernel))))))) (by decide +kernel)
theorem dX10_count_0 : decode cX10_count 0 = .ok (.iload_n 1, 1) := by decide +kernel
theorem dX10_count_1 : decode cX10_count 1 = .ok (.tableswitch 211 0 13 #[71, 82, 93, 104, 115, 120, 128, 139, 150, 155, 176, 187, 195, 203], 71) := by decide +kernel
theorem dX10_count_72 : decode cX10_count 72 = .ok (.aload_n 0, 1) := by decide +kernel
theorem dX10_count_73 : decode cX10_count 73 = .ok (.getfield 55, 3) := by decide +kernel
theorem dX10_count_76 : decode cX10_count 76 = .ok (.getfield 114, 3) := by decide +kernel
theorem dX10_count_79 : decode cX10_count 79 = .ok (.getfield 192, 3) := by decide +kernel
theorem dX10_count_82 : decode cX10_count 82 = .ok (.ireturn, 1) := by decide +kernel
theorem dX10_count_83 : decode cX10_count 83 = .ok (.aload_n 0, 1) := by decide +kernel
theorem dX10_count_84 : decode cX10_count 84 = .ok (.getfield 55, 3) := by decide +kernel
theorem dX10_count_87 : decode cX10_count 87 = .ok (.getfield 114, 3) := by decide +kernel
theorem dX10_count_90 : decode cX10_count 90 = .ok (.getfield 195, 3) := by decide +kernel
theorem dX10_count_93 : decode cX10_count 93 = .ok (.ireturn, 1) := by decide +kernel
theorem dX10_count_94 : decode cX10_count 94 = .ok (.aload_n 0, 1) := by decide +kernel
theorem dX10_count_95 : decode cX10_count 95 = .ok (.getfield 55, 3) := by decide +kernel
theorem dX10_count_98 : decode cX10_count 98 = .ok (.getfield 114, 3) := by decide +kernel
theorem dX10_count_101 : decode cX10_count 101 = .ok (.getfield 198, 3) := by decide +kernel
theorem dX10_count_104 : decode cX10_count 104 = .ok (.ireturn, 1) := by decide +kernel
theorem dX10_count_105 : decode cX10_count 105 = .ok (.aload_n 0, 1) := by decide +kernel
theorem dX10_count_106 : decode cX10_count 106 = .ok (.getfield 55, 3) := by decide +kernel
theorem dX10_count_109 : decode cX10_count 109 = .ok (.getfield 114, 3) := by decide +kernel
theorem dX10_count_112 : decode cX10_count 112 = .ok (.getfield 140, 3) := by decide +kernel
theorem dX10_count_115 : decode cX10_count 115 = .ok (.ireturn, 1) := by decide +kernel
theorem dX10_count_116 : decode cX10_count 116 = .ok (.aload_n 0, 1) := by decide +kernel
theorem dX10_count_117 : decode cX10_count 117 = .ok (.getfield 43, 3) := by decide +kernel
theorem dX10_count_120 : decode cX10_count 120 = .ok (.ireturn, 1) := by decide +kernel
theorem dX10_count_121 : decode cX10_count 121 = .ok (.aload_n 0, 1) := by decide +kernel
theorem dX10_count_122 : decode cX10_count 122 = .ok (.getfield 55, 3) := by decide +kernel
theorem dX10_count_125 : decode cX10_count 125 = .ok (.getfield 146, 3) := by decide +kernel
theorem dX10_count_128 : decode cX10_count 128 = .ok (.ireturn, 1) := by decide +kernel
theorem dX10_count_129 : decode cX10_count 129 = .ok (.aload_n 0, 1) := by decide +kernel
theorem dX10_count_130 : decode cX10_count 130 = .ok (.getfield 55, 3) := by decide +kernel
theorem dX10_count_133 : decode cX10_count 133 = .ok (.getfield 121, 3) := by decide +kernel
theorem dX10_count_136 : decode cX10_count 136 = .ok (.getfield 201, 3) := by decide +kernel
theorem dX10_count_139 : decode cX10_count 139 = .ok (.ireturn, 1) := by decide +kernel
theorem dX10_count_140 : decode cX10_count 140 = .ok (.aload_n 0, 1) := by decide +kernel
theorem dX10_count_141 : decode cX10_count 141 = .ok (.getfield 55, 3) := by decide +kernel
theorem dX10_count_144 : decode cX10_count 144 = .ok (.getfield 121, 3) := by decide +kernel
theorem dX10_count_147 : decode cX10_count 147 = .ok (.getfield 204, 3) := by decide +kernel
theorem dX10_count_150 : decode cX10_count 150 = .ok (.ireturn, 1) := by decide +kernel
theorem dX10_count_151 : decode cX10_count 151 = .ok (.aload_n 0, 1) := by decide +kernel
theorem dX10_count_152 : decode cX10_count 152 = .ok (.invokevirtual 207, 3) := by decide +kernel
theorem dX10_count_155 : decode cX10_count 155 = .ok (.ireturn, 1) := by decide +kernel
theorem dX10_count_156 : decode cX10_count 156 = .ok (.aload_n 0, 1) := by decide +kernel
theorem dX10_count_157 : decode cX10_count 157 = .ok (.getfield 55, 3) := by decide +kernel
theorem dX10_count_160 : decode cX10_count 160 = .ok (.getfield 121, 3) := by decide +kernel
theorem dX10_count_163 : decode cX10_count 163 = .ok (.aload_n 0, 1) := by decide +kernel
theorem dX10_count_164 : decode cX10_count 164 = .ok (.getfield 55, 3) := by decide +kernel
theorem dX10_count_167 : decode cX10_count 167 = .ok (.getfield 114, 3) := by decide +kernel
theorem dX10_count_170 : decode cX10_count 170 = .ok (.getfield 140, 3) := by decide +kernel
theorem dX10_count_173 : decode cX10_count 173 = .ok (.invokevirtual 211, 3) := by decide +kernel
theorem dX10_count_176 : decode cX10_count 176 = .ok (.ireturn, 1) := by decide +kernel
theorem dX10_count_177 : decode cX10_count 177 = .ok (.aload_n 0, 1) := by decide +kernel
theorem dX10_count_178 : decode cX10_count 178 = .ok (.getfield 55, 3) := by decide +kernel
theorem dX10_count_181 : decode cX10_count 181 = .ok (.getfield 130, 3) := by decide +kernel
theorem dX10_count_184 : decode cX10_count 184 = .ok (.getfield 134, 3) := by decide +kernel
theorem dX10_count_187 : decode cX10_count 187 = .ok (.ireturn, 1) := by decide +kernel
theorem dX10_count_188 : decode cX10_count 188 = .ok (.aload_n 0, 1) := by decide +kernel
theorem dX10_count_189 : decode cX10_count 189 = .ok (.getfield 69, 3) := by decide +kernel
theorem dX10_count_192 : decode cX10_count 192 = .ok (.getfield 215, 3) := by decide +kernel
theorem dX10_count_195 : decode cX10_count 195 = .ok (.ireturn, 1) := by decide +kernel
theorem dX10_count_196 : decode cX10_count 196 = .ok (.aload_n 0, 1) := by decide +kernel
theorem dX10_count_197 : decode cX10_count 197 = .ok (.getfield 55, 3) := by decide +kernel
theorem dX10_count_200 : decode cX10_count 200 = .ok (.getfield 216, 3) := by decide +kernel
theorem dX10_count_203 : decode cX10_count 203 = .ok (.ireturn, 1) := by decide +kernel
theorem dX10_count_204 : decode cX10_count 204 = .ok (.aload_n 0, 1) := by decide +kernel
theorem dX10_count_205 : decode cX10_count 205 = .ok (.getfield 10, 3) := by decide +kernel
theorem dX10_count_208 : decode cX10_count 208 = .ok (.getfield 100, 3) := by decide +kernel
theorem dX10_count_211 : decode cX10_count 211 = .ok (.ireturn, 1) := by decide +kernel
theorem dX10_count_212 : decode cX10_count 212 = .ok (.iconst (-1), 1) := by decide +kernel
theorem dX10_count_213 : decode cX10_count 213 = .ok (.ireturn, 1) := by decide +kernel
theorem hd_X10_walkersAtHome : yX10_walkersAtHome.cls ≠ "java/lang/invoke/MethodHandle" ∧ yX10_walkersAtHome.cls ≠ "java/lang/invoke/VarHandle" ∧ (parseMethodDescriptor yX10_walkersAtHome.desc).map (fun d => d.parameters.length) = some 0 := ⟨by decide +kernel, by decide +kernel, by decide +kernel⟩
theorem hd_X6_allCharges : yX6_allCharges.cls ≠ "java/lang/invoke/MethodHandle" ∧ yX6_allCharges.cls ≠ "java/lang/invoke/VarHandle" ∧ (parseMethodDescriptor yX6_allCharges.desc).map (fun d => d.parameters.length) = some 1 := ⟨by decide +kernel, by decide +kernel, by decide +kernel⟩
theorem sw_13 (x : Int32) (h1 : ¬ x.toInt < 0) (h2 : ¬ 13 < x.toInt) : x = 0 ∨ x = 1 ∨ x = 2 ∨ x = 3 ∨ x = 4 ∨ x = 5 ∨ x = 6 ∨ x = 7 ∨ x = 8 ∨ x = 9 ∨ x = 10 ∨ x = 11 ∨ x = 12 ∨ x = 13 := by
  have h := (Int32.ofInt_toInt x).symm
  have h3 : ∃ n : Int, n = x.toInt := ⟨_, rfl⟩
  obtain ⟨n, hn⟩ := h3
  rw [← hn] at h h1 h2
  have h4 : n = 0 ∨ n = 1 ∨ n = 2 ∨ n = 3 ∨ n = 4 ∨ n = 5 ∨ n = 6 ∨ n = 7 ∨ n = 8 ∨ n = 9 ∨ n = 10 ∨ n = 11 ∨ n = 12 ∨ n = 13 := by omega
  subst h
  clear hn
  rcases h4 with rfl | rfl | rfl | rfl | rfl | rfl | rfl | rfl | rfl | rfl | rfl | rfl | rfl | rfl <;> simp
set_option maxHeartbeats 4000000 in
set_option maxRecDepth 100000 in
theorem k_count (l : Launch) (D : va_G) (K : Nat → ClassId) (h0 : Nat) (tp : Nat) (tr : Nat) (rr : Nat) (dr : Nat) (rs : Nat) (nr : Nat) (nw : Nat) (im : Nat) (ac : Nat) (co : Nat) (al : Nat) (ta : Nat) (ma : Nat) (ga : Nat) (og : Nat) (pl : Nat) (sa : Nat) (no : Nat) (j0 : Nat) (j1 : Nat) (j2 : Nat) (j3 : Nat) (j4 : Nat) (j5 : Nat) (s0 : Nat) (s1 : Nat) (s2 : Nat) (s3 : Nat) (s4 : Nat) (s5 : Nat) (n0 : Nat) (n1 : Nat) (n2 : Nat) (b0 : Nat) (bt : Nat) (p1 : Int32) : mI (S := mU) l yX10_count cX10_count 2 .int ({ frames := 1, cells := 0, slots := 0, locals := 23 }) D K [(h0, .inr (10, [.ref tp, .ref tr, .ref rr, .ref dr, .ref rs, .int 0, .ref nr, .ref nw, .ref im, .int 0, .ref ac, .ref co, .ref al, .ref ta, .ref ma, .ref ga, .ref og])), (nw, .inr (2, [.ref pl, .ref sa, .ref no, .int (-1), .int 0])), (pl, .inr (8, [.int 0, .int 0, .int 0, .int 0, .ref j0, .ref j1, .ref j2, .ref j3, .ref j4, .ref j5])), (sa, .inr (6, [.ref s0, .ref s1, .ref s2, .ref s3, .ref s4, .ref s5, .int 0, .int 0])), (no, .inr (3, [.int 0, .ref n0, .ref n1, .ref n2])), (ac, .inr (0, [.int 0, .int 0, .ref b0])), (tp, .inr (7, [.ref bt, .int 0, .int 0, .int 40, .int 0, .int 0, .int 0]))] [.ref h0, .int p1] (fun r u => r = ans_count p1) (fun u => []) := by
  refine m_enterI (by decide) (Nat.le_of_ble_eq_true rfl) ?_
  intro p e s m args below meth c A ls E hr G hl
  have E : mE p s m meth c cX10_count args 2 RX10 D K A := E
  have hl : lv_has ls 2 [(0, .ref h0), (1, .int p1)] := hl
  obtain ⟨H, hH⟩ : ∃ H, H = s.heap := ⟨_, rfl⟩
  obtain ⟨locs, hlo⟩ : ∃ L : List Loc, L = [] := ⟨_, rfl⟩
  rw [← hH, ← hlo] at G
  rw [← hH, ← hlo]
  have G : mG D A s H locs [(h0, .inr (10, [.ref tp, .ref tr, .ref rr, .ref dr, .ref rs, .int 0, .ref nr, .ref nw, .ref im, .int 0, .ref ac, .ref co, .ref al, .ref ta, .ref ma, .ref ga, .ref og])), (nw, .inr (2, [.ref pl, .ref sa, .ref no, .int (-1), .int 0])), (pl, .inr (8, [.int 0, .int 0, .int 0, .int 0, .ref j0, .ref j1, .ref j2, .ref j3, .ref j4, .ref j5])), (sa, .inr (6, [.ref s0, .ref s1, .ref s2, .ref s3, .ref s4, .ref s5, .int 0, .int 0])), (no, .inr (3, [.int 0, .ref n0, .ref n1, .ref n2])), (ac, .inr (0, [.int 0, .int 0, .ref b0])), (tp, .inr (7, [.ref bt, .int 0, .int 0, .int 40, .int 0, .int 0, .int 0]))] := G
  clear hH hlo
  refine lv_iload_n E.1 E.2.1 dX10_count_0 rfl (lv_at hl 1 rfl) ?_
  rcases Decidable.em (p1.toInt < 0 ∨ 13 < p1.toInt) with c_1 | c_1
  · refine lv_tableOut (tgt := 212) E.1 E.2.1 dX10_count_1 c_1 (by decide) ?_
    refine lv_iconst (v := (-1)) E.1 E.2.1 dX10_count_212 (by decide) ?_
    exact m_reti E G hr rfl (fun _ => 0, fun _ _ => 0, fun _ _ => none) (by first | exact ans_count_1 ‹_› | rfl | decide) [] (by decide) rfl (by decide) (by decide) dX10_count_213
  · rcases sw_13 p1 (fun h => c_1 (Or.inl h)) (fun h => c_1 (Or.inr h)) with rfl | rfl | rfl | rfl | rfl | rfl | rfl | rfl | rfl | rfl | rfl | rfl | rfl | rfl
    · refine lv_tableIn (off := 71) (tgt := 72) E.1 E.2.1 dX10_count_1 (by decide) (by decide) (by decide) (by decide) ?_
      refine lv_aload_n E.1 E.2.1 dX10_count_72 rfl (lv_at hl 0 rfl) ?_
      refine m_get E G 0 (ci := 10) rfl 7 (C := RX10) (T := TX10) (N := 17) rfl (by decide) mw_fl_10_55 (v := .ref nw) rfl dX10_count_73 ?_
      refine m_get E G 1 (ci := 2) rfl 0 (C := RX2) (T := TX2) (N := 5) rfl (by decide) mw_fl_10_114 (v := .ref pl) rfl dX10_count_76 ?_
      refine m_get E G 2 (ci := 8) rfl 0 (C := RX8) (T := TX8) (N := 10) rfl (by decide) mw_fl_10_192 (v := .int 0) rfl dX10_count_79 ?_
      exact m_reti E G hr rfl (fun _ => 0, fun _ _ => 0, fun _ _ => none) (by first | exact ans_count_1 ‹_› | rfl | decide) [] (by decide) rfl (by decide) (by decide) dX10_count_82
    · refine lv_tableIn (off := 82) (tgt := 83) E.1 E.2.1 dX10_count_1 (by decide) (by decide) (by decide) (by decide) ?_
      refine lv_aload_n E.1 E.2.1 dX10_count_83 rfl (lv_at hl 0 rfl) ?_
      refine m_get E G 0 (ci := 10) rfl 7 (C := RX10) (T := TX10) (N := 17) rfl (by decide) mw_fl_10_55 (v := .ref nw) rfl dX10_count_84 ?_
      refine m_get E G 1 (ci := 2) rfl 0 (C := RX2) (T := TX2) (N := 5) rfl (by decide) mw_fl_10_114 (v := .ref pl) rfl dX10_count_87 ?_
      refine m_get E G 2 (ci := 8) rfl 1 (C := RX8) (T := TX8) (N := 10) rfl (by decide) mw_fl_10_195 (v := .int 0) rfl dX10_count_90 ?_
      exact m_reti E G hr rfl (fun _ => 0, fun _ _ => 0, fun _ _ => none) (by first | exact ans_count_1 ‹_› | rfl | decide) [] (by decide) rfl (by decide) (by decide) dX10_count_93
    · refine lv_tableIn (off := 93) (tgt := 94) E.1 E.2.1 dX10_count_1 (by decide) (by decide) (by decide) (by decide) ?_
      refine lv_aload_n E.1 E.2.1 dX10_count_94 rfl (lv_at hl 0 rfl) ?_
      refine m_get E G 0 (ci := 10) rfl 7 (C := RX10) (T := TX10) (N := 17) rfl (by decide) mw_fl_10_55 (v := .ref nw) rfl dX10_count_95 ?_
      refine m_get E G 1 (ci := 2) rfl 0 (C := RX2) (T := TX2) (N := 5) rfl (by decide) mw_fl_10_114 (v := .ref pl) rfl dX10_count_98 ?_
      refine m_get E G 2 (ci := 8) rfl 2 (C := RX8) (T := TX8) (N := 10) rfl (by decide) mw_fl_10_198 (v := .int 0) rfl dX10_count_101 ?_
      exact m_reti E G hr rfl (fun _ => 0, fun _ _ => 0, fun _ _ => none) (by first | exact ans_count_1 ‹_› | rfl | decide) [] (by decide) rfl (by decide) (by decide) dX10_count_104
    · refine lv_tableIn (off := 104) (tgt := 105) E.1 E.2.1 dX10_count_1 (by decide) (by decide) (by decide) (by decide) ?_
      refine lv_aload_n E.1 E.2.1 dX10_count_105 rfl (lv_at hl 0 rfl) ?_
      refine m_get E G 0 (ci := 10) rfl 7 (C := RX10) (T := TX10) (N := 17) rfl (by decide) mw_fl_10_55 (v := .ref nw) rfl dX10_count_106 ?_
      refine m_get E G 1 (ci := 2) rfl 0 (C := RX2) (T := TX2) (N := 5) rfl (by decide) mw_fl_10_114 (v := .ref pl) rfl dX10_count_109 ?_
      refine m_get E G 2 (ci := 8) rfl 3 (C := RX8) (T := TX8) (N := 10) rfl (by decide) mw_fl_10_140 (v := .int 0) rfl dX10_count_112 ?_
      exact m_reti E G hr rfl (fun _ => 0, fun _ _ => 0, fun _ _ => none) (by first | exact ans_count_1 ‹_› | rfl | decide) [] (by decide) rfl (by decide) (by decide) dX10_count_115
    · refine lv_tableIn (off := 115) (tgt := 116) E.1 E.2.1 dX10_count_1 (by decide) (by decide) (by decide) (by decide) ?_
      refine lv_aload_n E.1 E.2.1 dX10_count_116 rfl (lv_at hl 0 rfl) ?_
      refine m_get E G 0 (ci := 10) rfl 5 (C := RX10) (T := TX10) (N := 17) rfl (by decide) mw_fl_10_43 (v := .int 0) rfl dX10_count_117 ?_
      exact m_reti E G hr rfl (fun _ => 0, fun _ _ => 0, fun _ _ => none) (by first | exact ans_count_1 ‹_› | rfl | decide) [] (by decide) rfl (by decide) (by decide) dX10_count_120
    · refine lv_tableIn (off := 120) (tgt := 121) E.1 E.2.1 dX10_count_1 (by decide) (by decide) (by decide) (by decide) ?_
      refine lv_aload_n E.1 E.2.1 dX10_count_121 rfl (lv_at hl 0 rfl) ?_
      refine m_get E G 0 (ci := 10) rfl 7 (C := RX10) (T := TX10) (N := 17) rfl (by decide) mw_fl_10_55 (v := .ref nw) rfl dX10_count_122 ?_
      refine m_get E G 1 (ci := 2) rfl 3 (C := RX2) (T := TX2) (N := 5) rfl (by decide) mw_fl_10_146 (v := .int (-1)) rfl dX10_count_125 ?_
      exact m_reti E G hr rfl (fun _ => 0, fun _ _ => 0, fun _ _ => none) (by first | exact ans_count_1 ‹_› | rfl | decide) [] (by decide) rfl (by decide) (by decide) dX10_count_128
    · refine lv_tableIn (off := 128) (tgt := 129) E.1 E.2.1 dX10_count_1 (by decide) (by decide) (by decide) (by decide) ?_
      refine lv_aload_n E.1 E.2.1 dX10_count_129 rfl (lv_at hl 0 rfl) ?_
      refine m_get E G 0 (ci := 10) rfl 7 (C := RX10) (T := TX10) (N := 17) rfl (by decide) mw_fl_10_55 (v := .ref nw) rfl dX10_count_130 ?_
      refine m_get E G 1 (ci := 2) rfl 1 (C := RX2) (T := TX2) (N := 5) rfl (by decide) mw_fl_10_121 (v := .ref sa) rfl dX10_count_133 ?_
      refine m_get E G 3 (ci := 6) rfl 7 (C := RX6) (T := TX6) (N := 8) rfl (by decide) mw_fl_10_201 (v := .int 0) rfl dX10_count_136 ?_
      exact m_reti E G hr rfl (fun _ => 0, fun _ _ => 0, fun _ _ => none) (by first | exact ans_count_1 ‹_› | rfl | decide) [] (by decide) rfl (by decide) (by decide) dX10_count_139
    · refine lv_tableIn (off := 139) (tgt := 140) E.1 E.2.1 dX10_count_1 (by decide) (by decide) (by decide) (by decide) ?_
      refine lv_aload_n E.1 E.2.1 dX10_count_140 rfl (lv_at hl 0 rfl) ?_
      refine m_get E G 0 (ci := 10) rfl 7 (C := RX10) (T := TX10) (N := 17) rfl (by decide) mw_fl_10_55 (v := .ref nw) rfl dX10_count_141 ?_
      refine m_get E G 1 (ci := 2) rfl 1 (C := RX2) (T := TX2) (N := 5) rfl (by decide) mw_fl_10_121 (v := .ref sa) rfl dX10_count_144 ?_
      refine m_get E G 3 (ci := 6) rfl 6 (C := RX6) (T := TX6) (N := 8) rfl (by decide) mw_fl_10_204 (v := .int 0) rfl dX10_count_147 ?_
      exact m_reti E G hr rfl (fun _ => 0, fun _ _ => 0, fun _ _ => none) (by first | exact ans_count_1 ‹_› | rfl | decide) [] (by decide) rfl (by decide) (by decide) dX10_count_150
    · refine lv_tableIn (off := 150) (tgt := 151) E.1 E.2.1 dX10_count_1 (by decide) (by decide) (by decide) (by decide) ?_
      refine lv_aload_n E.1 E.2.1 dX10_count_151 rfl (lv_at hl 0 rfl) ?_
      refine m_vi E G hl (k_walkersAtHome l D K h0 tp tr rr dr rs nr nw im ac co al ta ma ga og pl sa no j0 j1 j2 j3 j4 j5) (wr := [(sa, .inr (6, [.ref s0, .ref s1, .ref s2, .ref s3, .ref s4, .ref s5, .int 0, .int 0])), (no, .inr (3, [.int 0, .ref n0, .ref n1, .ref n2])), (ac, .inr (0, [.int 0, .int 0, .ref b0])), (tp, .inr (7, [.ref bt, .int 0, .int 0, .int 40, .int 0, .int 0, .int 0]))]) [0, 1, 2] [3, 4, 5, 6] rfl rfl (by decide) (by decide) (by decide) 0 (ci := 10) rfl rfl rfl 0 rfl mw_code_X10_walkersAtHome mw_ini_10 mw_ml_10_207 mw_inst_X10_walkersAtHome mw_sel_X10_walkersAtHome hd_X10_walkersAtHome ⟨by decide, by decide⟩ rfl (Nat.le_of_ble_eq_true rfl) ⟨by decide, by decide⟩ dX10_count_152 (fun r_3 u_2 H locs hp G => ?_)
      have G : mG D A s H locs [(sa, .inr (6, [.ref s0, .ref s1, .ref s2, .ref s3, .ref s4, .ref s5, .int 0, .int 0])), (no, .inr (3, [.int 0, .ref n0, .ref n1, .ref n2])), (ac, .inr (0, [.int 0, .int 0, .ref b0])), (tp, .inr (7, [.ref bt, .int 0, .int 0, .int 40, .int 0, .int 0, .int 0]))] := G
      subst hp
      exact m_reti E G hr rfl (fun _ => 0, fun _ _ => 0, fun _ _ => none) (by first | exact ans_count_1 ‹_› | rfl | decide) [] (by decide) rfl (by decide) (by decide) dX10_count_155
    · refine lv_tableIn (off := 155) (tgt := 156) E.1 E.2.1 dX10_count_1 (by decide) (by decide) (by decide) (by decide) ?_
      refine lv_aload_n E.1 E.2.1 dX10_count_156 rfl (lv_at hl 0 rfl) ?_
      refine m_get E G 0 (ci := 10) rfl 7 (C := RX10) (T := TX10) (N := 17) rfl (by decide) mw_fl_10_55 (v := .ref nw) rfl dX10_count_157 ?_
      refine m_get E G 1 (ci := 2) rfl 1 (C := RX2) (T := TX2) (N := 5) rfl (by decide) mw_fl_10_121 (v := .ref sa) rfl dX10_count_160 ?_
      refine lv_aload_n E.1 E.2.1 dX10_count_163 rfl (lv_at hl 0 rfl) ?_
      refine m_get E G 0 (ci := 10) rfl 7 (C := RX10) (T := TX10) (N := 17) rfl (by decide) mw_fl_10_55 (v := .ref nw) rfl dX10_count_164 ?_
      refine m_get E G 1 (ci := 2) rfl 0 (C := RX2) (T := TX2) (N := 5) rfl (by decide) mw_fl_10_114 (v := .ref pl) rfl dX10_count_167 ?_
      refine m_get E G 2 (ci := 8) rfl 3 (C := RX8) (T := TX8) (N := 10) rfl (by decide) mw_fl_10_140 (v := .int 0) rfl dX10_count_170 ?_
      refine m_vi E G hl (k_allCharges l D K sa s0 s1 s2 s3 s4 s5) (wr := [(h0, .inr (10, [.ref tp, .ref tr, .ref rr, .ref dr, .ref rs, .int 0, .ref nr, .ref nw, .ref im, .int 0, .ref ac, .ref co, .ref al, .ref ta, .ref ma, .ref ga, .ref og])), (nw, .inr (2, [.ref pl, .ref sa, .ref no, .int (-1), .int 0])), (pl, .inr (8, [.int 0, .int 0, .int 0, .int 0, .ref j0, .ref j1, .ref j2, .ref j3, .ref j4, .ref j5])), (no, .inr (3, [.int 0, .ref n0, .ref n1, .ref n2])), (ac, .inr (0, [.int 0, .int 0, .ref b0])), (tp, .inr (7, [.ref bt, .int 0, .int 0, .int 40, .int 0, .int 0, .int 0]))]) [3] [0, 1, 2, 4, 5, 6] rfl rfl (by decide) (by decide) (by decide) 0 (ci := 6) rfl rfl rfl 1 rfl mw_code_X6_allCharges mw_ini_6 mw_ml_10_211 mw_inst_X6_allCharges mw_sel_X6_allCharges hd_X6_allCharges ⟨by decide, by decide⟩ rfl (Nat.le_of_ble_eq_true rfl) ⟨by decide, by decide⟩ dX10_count_173 (fun r_5 u_4 H locs hp G => ?_)
      have G : mG D A s H locs [(h0, .inr (10, [.ref tp, .ref tr, .ref rr, .ref dr, .ref rs, .int 0, .ref nr, .ref nw, .ref im, .int 0, .ref ac, .ref co, .ref al, .ref ta, .ref ma, .ref ga, .ref og])), (nw, .inr (2, [.ref pl, .ref sa, .ref no, .int (-1), .int 0])), (pl, .inr (8, [.int 0, .int 0, .int 0, .int 0, .ref j0, .ref j1, .ref j2, .ref j3, .ref j4, .ref j5])), (no, .inr (3, [.int 0, .ref n0, .ref n1, .ref n2])), (ac, .inr (0, [.int 0, .int 0, .ref b0])), (tp, .inr (7, [.ref bt, .int 0, .int 0, .int 40, .int 0, .int 0, .int 0]))] := G
      subst hp
      exact m_reti E G hr rfl (fun _ => 0, fun _ _ => 0, fun _ _ => none) (by first | exact ans_count_1 ‹_› | rfl | decide) [] (by decide) rfl (by decide) (by decide) dX10_count_176
    · refine lv_tableIn (off := 176) (tgt := 177) E.1 E.2.1 dX10_count_1 (by decide) (by decide) (by decide) (by decide) ?_
      refine lv_aload_n E.1 E.2.1 dX10_count_177 rfl (lv_at hl 0 rfl) ?_
      refine m_get E G 0 (ci := 10) rfl 7 (C := RX10) (T := TX10) (N := 17) rfl (by decide) mw_fl_10_55 (v := .ref nw) rfl dX10_count_178 ?_
      refine m_get E G 1 (ci := 2) rfl 2 (C := RX2) (T := TX2) (N := 5) rfl (by decide) mw_fl_10_130 (v := .ref no) rfl dX10_count_181 ?_
      refine m_get E G 4 (ci := 3) rfl 0 (C := RX3) (T := TX3) (N := 4) rfl (by decide) mw_fl_10_134 (v := .int 0) rfl dX10_count_184 ?_
      exact m_reti E G hr rfl (fun _ => 0, fun _ _ => 0, fun _ _ => none) (by first | exact ans_count_1 ‹_› | rfl | decide) [] (by decide) rfl (by decide) (by decide) dX10_count_187
    · refine lv_tableIn (off := 187) (tgt := 188) E.1 E.2.1 dX10_count_1 (by decide) (by decide) (by decide) (by decide) ?_
      refine lv_aload_n E.1 E.2.1 dX10_count_188 rfl (lv_at hl 0 rfl) ?_
      refine m_get E G 0 (ci := 10) rfl 10 (C := RX10) (T := TX10) (N := 17) rfl (by decide) mw_fl_10_69 (v := .ref ac) rfl dX10_count_189 ?_
      refine m_get E G 5 (ci := 0) rfl 0 (C := RX0) (T := TX0) (N := 3) rfl (by decide) mw_fl_10_215 (v := .int 0) rfl dX10_count_192 ?_
      exact m_reti E G hr rfl (fun _ => 0, fun _ _ => 0, fun _ _ => none) (by first | exact ans_count_1 ‹_› | rfl | decide) [] (by decide) rfl (by decide) (by decide) dX10_count_195
    · refine lv_tableIn (off := 195) (tgt := 196) E.1 E.2.1 dX10_count_1 (by decide) (by decide) (by decide) (by decide) ?_
      refine lv_aload_n E.1 E.2.1 dX10_count_196 rfl (lv_at hl 0 rfl) ?_
      refine m_get E G 0 (ci := 10) rfl 7 (C := RX10) (T := TX10) (N := 17) rfl (by decide) mw_fl_10_55 (v := .ref nw) rfl dX10_count_197 ?_
      refine m_get E G 1 (ci := 2) rfl 4 (C := RX2) (T := TX2) (N := 5) rfl (by decide) mw_fl_10_216 (v := .int 0) rfl dX10_count_200 ?_
      exact m_reti E G hr rfl (fun _ => 0, fun _ _ => 0, fun _ _ => none) (by first | exact ans_count_1 ‹_› | rfl | decide) [] (by decide) rfl (by decide) (by decide) dX10_count_203
    · refine lv_tableIn (off := 203) (tgt := 204) E.1 E.2.1 dX10_count_1 (by decide) (by decide) (by decide) (by decide) ?_
      refine lv_aload_n E.1 E.2.1 dX10_count_204 rfl (lv_at hl 0 rfl) ?_
      refine m_get E G 0 (ci := 10) rfl 0 (C := RX10) (T := TX10) (N := 17) rfl (by decide) mw_fl_10_10 (v := .ref tp) rfl dX10_count_205 ?_
      refine m_get E G 6 (ci := 7) rfl 1 (C := RX7) (T := TX7) (N := 7) rfl (by decide) mw_fl_10_100 (v := .int 0) rfl dX10_count_208 ?_
      exact m_reti E G hr rfl (fun _ => 0, fun _ _ => 0, fun _ _ => none) (by first | exact ans_count_1 ‹_› | rfl | decide) [] (by decide) rfl (by decide) (by decide) dX10_count_211
