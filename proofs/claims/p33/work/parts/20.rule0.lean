theorem mw_fl_4_15 : (Cond.fieldLink RX4 15 "LureTown$Rule" "code" "[I" : Cond) ∈ cw := cw_of (List.mem_append_right _ (List.mem_append_left _ (List.mem_of_getElem? (i := 209) (by decide +kernel)))) (by decide +kernel)
theorem mw_fl_4_19 : (Cond.fieldLink RX4 19 "LureTown$Rule" "codeSize" "I" : Cond) ∈ cw := cw_of (List.mem_append_right _ (List.mem_append_left _ (List.mem_of_getElem? (i := 210) (by decide +kernel)))) (by decide +kernel)
theorem mw_fl_4_22 : (Cond.fieldLink RX4 22 "LureTown$Rule" "sumFrom" "[I" : Cond) ∈ cw := cw_of (List.mem_append_right _ (List.mem_append_left _ (List.mem_of_getElem? (i := 211) (by decide +kernel)))) (by decide +kernel)
theorem mw_fl_4_25 : (Cond.fieldLink RX4 25 "LureTown$Rule" "testFrom" "[I" : Cond) ∈ cw := cw_of (List.mem_append_right _ (List.mem_append_left _ (List.mem_of_getElem? (i := 212) (by decide +kernel)))) (by decide +kernel)
theorem mw_fl_4_9 : (Cond.fieldLink RX4 9 "LureTown$Rule" "clauseCount" "I" : Cond) ∈ cw := cw_of (List.mem_append_right _ (List.mem_append_left _ (List.mem_of_getElem? (i := 206) (by decide +kernel)))) (by decide +kernel)
theorem dX4_beginTest_0 : decode cX4_beginTest 0 = .ok (.aload_n 0, 1) := by decide +kernel
theorem dX4_beginTest_1 : decode cX4_beginTest 1 = .ok (.getfield 9, 3) := by decide +kernel
theorem dX4_beginTest_4 : decode cX4_beginTest 4 = .ok (.bipush 12, 2) := by decide +kernel
theorem dX4_beginTest_6 : decode cX4_beginTest 6 = .ok (.if_icmp .ge 16, 3) := by decide +kernel
theorem dX4_beginTest_9 : decode cX4_beginTest 9 = .ok (.aload_n 0, 1) := by decide +kernel
theorem dX4_beginTest_10 : decode cX4_beginTest 10 = .ok (.getfield 25, 3) := by decide +kernel
theorem dX4_beginTest_13 : decode cX4_beginTest 13 = .ok (.aload_n 0, 1) := by decide +kernel
theorem dX4_beginTest_14 : decode cX4_beginTest 14 = .ok (.getfield 9, 3) := by decide +kernel
theorem dX4_beginTest_17 : decode cX4_beginTest 17 = .ok (.aload_n 0, 1) := by decide +kernel
theorem dX4_beginTest_18 : decode cX4_beginTest 18 = .ok (.getfield 19, 3) := by decide +kernel
theorem dX4_beginTest_21 : decode cX4_beginTest 21 = .ok (.iastore, 1) := by decide +kernel
theorem dX4_beginTest_22 : decode cX4_beginTest 22 = .ok (.return_, 1) := by decide +kernel
theorem dX4_clear_0 : decode cX4_clear 0 = .ok (.aload_n 0, 1) := by decide +kernel
theorem dX4_clear_1 : decode cX4_clear 1 = .ok (.iconst 0, 1) := by decide +kernel
theorem dX4_clear_2 : decode cX4_clear 2 = .ok (.putfield 9, 3) := by decide +kernel
theorem dX4_clear_5 : decode cX4_clear 5 = .ok (.aload_n 0, 1) := by decide +kernel
theorem dX4_clear_6 : decode cX4_clear 6 = .ok (.iconst 0, 1) := by decide +kernel
theorem dX4_clear_7 : decode cX4_clear 7 = .ok (.putfield 19, 3) := by decide +kernel
theorem dX4_clear_10 : decode cX4_clear 10 = .ok (.aload_n 0, 1) := by decide +kernel
theorem dX4_clear_11 : decode cX4_clear 11 = .ok (.getfield 25, 3) := by decide +kernel
theorem dX4_clear_14 : decode cX4_clear 14 = .ok (.iconst 0, 1) := by decide +kernel
theorem dX4_clear_15 : decode cX4_clear 15 = .ok (.iconst (-1), 1) := by decide +kernel
theorem dX4_clear_16 : decode cX4_clear 16 = .ok (.iastore, 1) := by decide +kernel
theorem dX4_clear_17 : decode cX4_clear 17 = .ok (.return_, 1) := by decide +kernel
theorem dX4_closeClause_0 : decode cX4_closeClause 0 = .ok (.aload_n 0, 1) := by decide +kernel
theorem dX4_closeClause_1 : decode cX4_closeClause 1 = .ok (.getfield 9, 3) := by decide +kernel
theorem dX4_closeClause_4 : decode cX4_closeClause 4 = .ok (.bipush 12, 2) := by decide +kernel
theorem dX4_closeClause_6 : decode cX4_closeClause 6 = .ok (.if_icmp .ge 62, 3) := by decide +kernel
theorem dX4_closeClause_9 : decode cX4_closeClause 9 = .ok (.aload_n 0, 1) := by decide +kernel
theorem dX4_closeClause_10 : decode cX4_closeClause 10 = .ok (.getfield 25, 3) := by decide +kernel
theorem dX4_closeClause_13 : decode cX4_closeClause 13 = .ok (.aload_n 0, 1) := by decide +kernel
theorem dX4_closeClause_14 : decode cX4_closeClause 14 = .ok (.getfield 9, 3) := by decide +kernel
theorem dX4_closeClause_17 : decode cX4_closeClause 17 = .ok (.iaload, 1) := by decide +kernel
theorem dX4_closeClause_18 : decode cX4_closeClause 18 = .ok (.iconst (-1), 1) := by decide +kernel
theorem dX4_closeClause_19 : decode cX4_closeClause 19 = .ok (.if_icmp .ne 16, 3) := by decide +kernel
theorem dX4_closeClause_22 : decode cX4_closeClause 22 = .ok (.aload_n 0, 1) := by decide +kernel
theorem dX4_closeClause_23 : decode cX4_closeClause 23 = .ok (.getfield 25, 3) := by decide +kernel
theorem dX4_closeClause_26 : decode cX4_closeClause 26 = .ok (.aload_n 0, 1) := by decide +kernel
theorem dX4_closeClause_27 : decode cX4_closeClause 27 = .ok (.getfield 9, 3) := by decide +kernel
theorem dX4_closeClause_30 : decode cX4_closeClause 30 = .ok (.aload_n 0, 1) := by decide +kernel
theorem dX4_closeClause_31 : decode cX4_closeClause 31 = .ok (.getfield 19, 3) := by decide +kernel
theorem dX4_closeClause_34 : decode cX4_closeClause 34 = .ok (.iastore, 1) := by decide +kernel
theorem dX4_closeClause_35 : decode cX4_closeClause 35 = .ok (.aload_n 0, 1) := by decide +kernel
theorem dX4_closeClause_36 : decode cX4_closeClause 36 = .ok (.dup, 1) := by decide +kernel
theorem dX4_closeClause_37 : decode cX4_closeClause 37 = .ok (.getfield 9, 3) := by decide +kernel
theorem dX4_closeClause_40 : decode cX4_closeClause 40 = .ok (.iconst 1, 1) := by decide +kernel
theorem dX4_closeClause_41 : decode cX4_closeClause 41 = .ok (.iadd, 1) := by decide +kernel
theorem dX4_closeClause_42 : decode cX4_closeClause 42 = .ok (.putfield 9, 3) := by decide +kernel
theorem dX4_closeClause_45 : decode cX4_closeClause 45 = .ok (.aload_n 0, 1) := by decide +kernel
theorem dX4_closeClause_46 : decode cX4_closeClause 46 = .ok (.getfield 22, 3) := by decide +kernel
theorem dX4_closeClause_49 : decode cX4_closeClause 49 = .ok (.aload_n 0, 1) := by decide +kernel
theorem dX4_closeClause_50 : decode cX4_closeClause 50 = .ok (.getfield 9, 3) := by decide +kernel
theorem dX4_closeClause_53 : decode cX4_closeClause 53 = .ok (.aload_n 0, 1) := by decide +kernel
theorem dX4_closeClause_54 : decode cX4_closeClause 54 = .ok (.getfield 19, 3) := by decide +kernel
theorem dX4_closeClause_57 : decode cX4_closeClause 57 = .ok (.iastore, 1) := by decide +kernel
theorem dX4_closeClause_58 : decode cX4_closeClause 58 = .ok (.aload_n 0, 1) := by decide +kernel
theorem dX4_closeClause_59 : decode cX4_closeClause 59 = .ok (.getfield 25, 3) := by decide +kernel
theorem dX4_closeClause_62 : decode cX4_closeClause 62 = .ok (.aload_n 0, 1) := by decide +kernel
theorem dX4_closeClause_63 : decode cX4_closeClause 63 = .ok (.getfield 9, 3) := by decide +kernel
theorem dX4_closeClause_66 : decode cX4_closeClause 66 = .ok (.iconst (-1), 1) := by decide +kernel
theorem dX4_closeClause_67 : decode cX4_closeClause 67 = .ok (.iastore, 1) := by decide +kernel
theorem dX4_closeClause_68 : decode cX4_closeClause 68 = .ok (.return_, 1) := by decide +kernel
theorem dX4_joined_0 : decode cX4_joined 0 = .ok (.iload_n 0, 1) := by decide +kernel
theorem dX4_joined_1 : decode cX4_joined 1 = .ok (.tableswitch 195 14 32 #[191, 195, 195, 195, 195, 195, 195, 195, 195, 91, 95, 99, 103, 117, 131, 155, 179, 143, 167], 91) := by decide +kernel
theorem dX4_joined_92 : decode cX4_joined 92 = .ok (.lload_n 1, 1) := by decide +kernel
theorem dX4_joined_93 : decode cX4_joined 93 = .ok (.lload_n 3, 1) := by decide +kernel
theorem dX4_joined_94 : decode cX4_joined 94 = .ok (.ladd, 1) := by decide +kernel
theorem dX4_joined_95 : decode cX4_joined 95 = .ok (.lreturn, 1) := by decide +kernel
theorem dX4_joined_96 : decode cX4_joined 96 = .ok (.lload_n 1, 1) := by decide +kernel
theorem dX4_joined_97 : decode cX4_joined 97 = .ok (.lload_n 3, 1) := by decide +kernel
theorem dX4_joined_98 : decode cX4_joined 98 = .ok (.lsub, 1) := by decide +kernel
theorem dX4_joined_99 : decode cX4_joined 99 = .ok (.lreturn, 1) := by decide +kernel
theorem dX4_joined_100 : decode cX4_joined 100 = .ok (.lload_n 1, 1) := by decide +kernel
theorem dX4_joined_101 : decode cX4_joined 101 = .ok (.lload_n 3, 1) := by decide +kernel
theorem dX4_joined_102 : decode cX4_joined 102 = .ok (.lmul, 1) := by decide +kernel
theorem dX4_joined_103 : decode cX4_joined 103 = .ok (.lreturn, 1) := by decide +kernel
theorem dX4_joined_104 : decode cX4_joined 104 = .ok (.lload_n 3, 1) := by decide +kernel
theorem dX4_joined_105 : decode cX4_joined 105 = .ok (.lconst 0, 1) := by decide +kernel
theorem dX4_joined_106 : decode cX4_joined 106 = .ok (.lcmp, 1) := by decide +kernel
theorem dX4_joined_107 : decode cX4_joined 107 = .ok (.ifCond .ne 7, 3) := by decide +kernel
theorem dX4_joined_110 : decode cX4_joined 110 = .ok (.lconst 0, 1) := by decide +kernel
theorem dX4_joined_111 : decode cX4_joined 111 = .ok (.goto 6, 3) := by decide +kernel
theorem dX4_joined_114 : decode cX4_joined 114 = .ok (.lload_n 1, 1) := by decide +kernel
theorem dX4_joined_115 : decode cX4_joined 115 = .ok (.lload_n 3, 1) := by decide +kernel
theorem dX4_joined_116 : decode cX4_joined 116 = .ok (.ldiv, 1) := by decide +kernel
theorem dX4_joined_117 : decode cX4_joined 117 = .ok (.lreturn, 1) := by decide +kernel
theorem dX4_joined_118 : decode cX4_joined 118 = .ok (.lload_n 3, 1) := by decide +kernel
theorem dX4_joined_119 : decode cX4_joined 119 = .ok (.lconst 0, 1) := by decide +kernel
theorem dX4_joined_120 : decode cX4_joined 120 = .ok (.lcmp, 1) := by decide +kernel
theorem dX4_joined_121 : decode cX4_joined 121 = .ok (.ifCond .ne 7, 3) := by decide +kernel
theorem dX4_joined_124 : decode cX4_joined 124 = .ok (.lconst 0, 1) := by decide +kernel
theorem dX4_joined_125 : decode cX4_joined 125 = .ok (.goto 6, 3) := by decide +kernel
theorem dX4_joined_128 : decode cX4_joined 128 = .ok (.lload_n 1, 1) := by decide +kernel
theorem dX4_joined_129 : decode cX4_joined 129 = .ok (.lload_n 3, 1) := by decide +kernel
theorem dX4_joined_130 : decode cX4_joined 130 = .ok (.lrem, 1) := by decide +kernel
theorem dX4_joined_131 : decode cX4_joined 131 = .ok (.lreturn, 1) := by decide +kernel
theorem dX4_joined_132 : decode cX4_joined 132 = .ok (.lload_n 1, 1) := by decide +kernel
theorem dX4_joined_133 : decode cX4_joined 133 = .ok (.lload_n 3, 1) := by decide +kernel
theorem dX4_joined_134 : decode cX4_joined 134 = .ok (.lcmp, 1) := by decide +kernel
theorem dX4_joined_135 : decode cX4_joined 135 = .ok (.ifCond .ge 7, 3) := by decide +kernel
theorem dX4_joined_138 : decode cX4_joined 138 = .ok (.lconst 1, 1) := by decide +kernel
theorem dX4_joined_139 : decode cX4_joined 139 = .ok (.goto 4, 3) := by decide +kernel
theorem dX4_joined_142 : decode cX4_joined 142 = .ok (.lconst 0, 1) := by decide +kernel
theorem dX4_joined_143 : decode cX4_joined 143 = .ok (.lreturn, 1) := by decide +kernel
theorem dX4_joined_144 : decode cX4_joined 144 = .ok (.lload_n 1, 1) := by decide +kernel
theorem dX4_joined_145 : decode cX4_joined 145 = .ok (.lload_n 3, 1) := by decide +kernel
theorem dX4_joined_146 : decode cX4_joined 146 = .ok (.lcmp, 1) := by decide +kernel
theorem dX4_joined_147 : decode cX4_joined 147 = .ok (.ifCond .gt 7, 3) := by decide +kernel
theorem dX4_joined_150 : decode cX4_joined 150 = .ok (.lconst 1, 1) := by decide +kernel
theorem dX4_joined_151 : decode cX4_joined 151 = .ok (.goto 4, 3) := by decide +kernel
theorem dX4_joined_154 : decode cX4_joined 154 = .ok (.lconst 0, 1) := by decide +kernel
theorem dX4_joined_155 : decode cX4_joined 155 = .ok (.lreturn, 1) := by decide +kernel
theorem dX4_joined_156 : decode cX4_joined 156 = .ok (.lload_n 1, 1) := by decide +kernel
theorem dX4_joined_157 : decode cX4_joined 157 = .ok (.lload_n 3, 1) := by decide +kernel
theorem dX4_joined_158 : decode cX4_joined 158 = .ok (.lcmp, 1) := by decide +kernel
theorem dX4_joined_159 : decode cX4_joined 159 = .ok (.ifCond .ne 7, 3) := by decide +kernel
theorem dX4_joined_162 : decode cX4_joined 162 = .ok (.lconst 1, 1) := by decide +kernel
theorem dX4_joined_163 : decode cX4_joined 163 = .ok (.goto 4, 3) := by decide +kernel
theorem dX4_joined_166 : decode cX4_joined 166 = .ok (.lconst 0, 1) := by decide +kernel
theorem dX4_joined_167 : decode cX4_joined 167 = .ok (.lreturn, 1) := by decide +kernel
theorem dX4_joined_168 : decode cX4_joined 168 = .ok (.lload_n 1, 1) := by decide +kernel
theorem dX4_joined_169 : decode cX4_joined 169 = .ok (.lload_n 3, 1) := by decide +kernel
theorem dX4_joined_170 : decode cX4_joined 170 = .ok (.lcmp, 1) := by decide +kernel
theorem dX4_joined_171 : decode cX4_joined 171 = .ok (.ifCond .lt 7, 3) := by decide +kernel
theorem dX4_joined_174 : decode cX4_joined 174 = .ok (.lconst 1, 1) := by decide +kernel
theorem dX4_joined_175 : decode cX4_joined 175 = .ok (.goto 4, 3) := by decide +kernel
theorem dX4_joined_178 : decode cX4_joined 178 = .ok (.lconst 0, 1) := by decide +kernel
theorem dX4_joined_179 : decode cX4_joined 179 = .ok (.lreturn, 1) := by decide +kernel
theorem dX4_joined_180 : decode cX4_joined 180 = .ok (.lload_n 1, 1) := by decide +kernel
theorem dX4_joined_181 : decode cX4_joined 181 = .ok (.lload_n 3, 1) := by decide +kernel
theorem dX4_joined_182 : decode cX4_joined 182 = .ok (.lcmp, 1) := by decide +kernel
theorem dX4_joined_183 : decode cX4_joined 183 = .ok (.ifCond .le 7, 3) := by decide +kernel
theorem dX4_joined_186 : decode cX4_joined 186 = .ok (.lconst 1, 1) := by decide +kernel
theorem dX4_joined_187 : decode cX4_joined 187 = .ok (.goto 4, 3) := by decide +kernel
theorem dX4_joined_190 : decode cX4_joined 190 = .ok (.lconst 0, 1) := by decide +kernel
theorem dX4_joined_191 : decode cX4_joined 191 = .ok (.lreturn, 1) := by decide +kernel
theorem dX4_joined_192 : decode cX4_joined 192 = .ok (.lload_n 1, 1) := by decide +kernel
theorem dX4_joined_193 : decode cX4_joined 193 = .ok (.lload_n 3, 1) := by decide +kernel
theorem dX4_joined_194 : decode cX4_joined 194 = .ok (.land, 1) := by decide +kernel
theorem dX4_joined_195 : decode cX4_joined 195 = .ok (.lreturn, 1) := by decide +kernel
theorem dX4_joined_196 : decode cX4_joined 196 = .ok (.lload_n 1, 1) := by decide +kernel
theorem dX4_joined_197 : decode cX4_joined 197 = .ok (.lload_n 3, 1) := by decide +kernel
theorem dX4_joined_198 : decode cX4_joined 198 = .ok (.lor, 1) := by decide +kernel
theorem dX4_joined_199 : decode cX4_joined 199 = .ok (.lreturn, 1) := by decide +kernel
theorem dX4_write_0 : decode cX4_write 0 = .ok (.aload_n 0, 1) := by decide +kernel
theorem dX4_write_1 : decode cX4_write 1 = .ok (.getfield 19, 3) := by decide +kernel
theorem dX4_write_4 : decode cX4_write 4 = .ok (.aload_n 0, 1) := by decide +kernel
theorem dX4_write_5 : decode cX4_write 5 = .ok (.getfield 15, 3) := by decide +kernel
theorem dX4_write_8 : decode cX4_write 8 = .ok (.arraylength, 1) := by decide +kernel
theorem dX4_write_9 : decode cX4_write 9 = .ok (.if_icmp .ge 23, 3) := by decide +kernel
theorem dX4_write_12 : decode cX4_write 12 = .ok (.aload_n 0, 1) := by decide +kernel
theorem dX4_write_13 : decode cX4_write 13 = .ok (.getfield 15, 3) := by decide +kernel
theorem dX4_write_16 : decode cX4_write 16 = .ok (.aload_n 0, 1) := by decide +kernel
theorem dX4_write_17 : decode cX4_write 17 = .ok (.getfield 19, 3) := by decide +kernel
theorem dX4_write_20 : decode cX4_write 20 = .ok (.iload_n 1, 1) := by decide +kernel
theorem dX4_write_21 : decode cX4_write 21 = .ok (.iastore, 1) := by decide +kernel
theorem dX4_write_22 : decode cX4_write 22 = .ok (.aload_n 0, 1) := by decide +kernel
theorem dX4_write_23 : decode cX4_write 23 = .ok (.dup, 1) := by decide +kernel
theorem dX4_write_24 : decode cX4_write 24 = .ok (.getfield 19, 3) := by decide +kernel
theorem dX4_write_27 : decode cX4_write 27 = .ok (.iconst 1, 1) := by decide +kernel
theorem dX4_write_28 : decode cX4_write 28 = .ok (.iadd, 1) := by decide +kernel
theorem dX4_write_29 : decode cX4_write 29 = .ok (.putfield 19, 3) := by decide +kernel
theorem dX4_write_32 : decode cX4_write 32 = .ok (.return_, 1) := by decide +kernel
theorem sw_14_32 (x : Int32) (h1 : ¬ x.toInt < 14) (h2 : ¬ 32 < x.toInt) : x = 14 ∨ x = 15 ∨ x = 16 ∨ x = 17 ∨ x = 18 ∨ x = 19 ∨ x = 20 ∨ x = 21 ∨ x = 22 ∨ x = 23 ∨ x = 24 ∨ x = 25 ∨ x = 26 ∨ x = 27 ∨ x = 28 ∨ x = 29 ∨ x = 30 ∨ x = 31 ∨ x = 32 := by
  have h := (Int32.ofInt_toInt x).symm
  have h3 : ∃ n : Int, n = x.toInt := ⟨_, rfl⟩
  obtain ⟨n, hn⟩ := h3
  rw [← hn] at h h1 h2
  have h4 : n = 14 ∨ n = 15 ∨ n = 16 ∨ n = 17 ∨ n = 18 ∨ n = 19 ∨ n = 20 ∨ n = 21 ∨ n = 22 ∨ n = 23 ∨ n = 24 ∨ n = 25 ∨ n = 26 ∨ n = 27 ∨ n = 28 ∨ n = 29 ∨ n = 30 ∨ n = 31 ∨ n = 32 := by omega
  subst h
  clear hn
  rcases h4 with rfl | rfl | rfl | rfl | rfl | rfl | rfl | rfl | rfl | rfl | rfl | rfl | rfl | rfl | rfl | rfl | rfl | rfl | rfl <;> simp
/-- only a rule's numbers and its code -/
abbrev KW : TS → TS → Prop := KF (fun r _ => !(r == 4)) (fun r => !(r == 30))
theorem KW.c {z u : TS} (h : KW z u) : KC z u := KF.c h (fun _ => ⟨rfl, rfl, rfl⟩) (fun r hr => by
  show (!(r == 30)) = true
  rw [Bool.not_eq_true', beq_eq_false_iff_ne]; omega)
theorem ti_subc {a b : Int} {x y : Int32} (n : Int) (hy : y.toInt = n) (hx : iv a b x) (h1 : -2147483648 ≤ a - n) (h2 : b - n ≤ 2147483647) : (x - y).toInt = x.toInt - n := by
  obtain ⟨p1, p2⟩ := hx
  rw [← hy]
  exact ti_sub (by omega) (by omega)
set_option maxHeartbeats 4000000 in
set_option maxRecDepth 100000 in
theorem r_write (l : Launch) (D : va_G) (K : Nat → ClassId) (ad : Nat → Nat) (z : TS) (o : Ok z) (p0 : Nat) (ap0 : at_ 4 p0 = true) (x1 : Int32) (bx1 : iv 0 2147483647 x1) : cV l yX4_write cX4_write 2 ({ frames := 0, cells := 0, slots := 0, locals := 0 }) D K ad z [.ref (ad p0), .int x1] (fun u => Ok u ∧ KW z u) := by
  refine t_enterV (by decide) (Nat.le_of_ble_eq_true rfl) rfl rfl ?_
  intro p e s m args below meth c A R Q H locs ls E hfr hlo RET G hl
  have E : mE p s m meth c cX4_write args 2 RX4 D K A := E
  have hl : lv_has ls 2 [(0, .ref (ad p0)), (1, .int x1)] := hl
  refine lv_aload_n E.1 E.2.1 dX4_write_0 rfl (lv_at hl 0 rfl) ?_
  refine t_get E G 4 2 (at_ro (i := 0) ap0 (by decide) : ro p0 = 4) (C := RX4) (T := TX4) (N := 6) rfl (by decide) (by decide) (by decide) mw_fl_4_19 (fvl_i rfl) dX4_write_1 ?_
  refine lv_topi (fun v1 e2 => ?_)
  have b3 : iv 0 400 v1 := by rw [e2]; exact o.i 4 2 (at_ro (i := 0) ap0 (by decide) : ro p0 = 4)
  refine lv_aload_n E.1 E.2.1 dX4_write_4 rfl (lv_at hl 0 rfl) ?_
  refine t_get E G 4 1 (at_ro (i := 0) ap0 (by decide) : ro p0 = 4) (C := RX4) (T := TX4) (N := 6) rfl (by decide) (by decide) (by decide) mw_fl_4_15 (v := .ref (ad (p0 + 1))) (fvl_o (n := 1) rfl) dX4_write_5 ?_
  refine t_alen E G 30 0 (at_ro (i := 1) ap0 (by decide) : ro (p0 + 1) = 30) (by decide) (by decide) rfl rfl (v := 400) (by decide) dX4_write_8 ?_
  refine lv_icmp_ge (tgt := 32) E.1 E.2.1 dX4_write_9 (by decide) (fun c4 => ?_) (fun c4 => ?_)
  · skip
    have b5 : iv 400 400 v1 := le_r c4 (iv_lit (lo := 400) (hi := 400) 400 (by decide) (by decide)) b3 (by decide)
    exact RET G ⟨o, KF.rf⟩ dX4_write_32
  · skip
    have b6 : iv 0 399 v1 := lt_l (Int32.not_le.mp c4) b3 (iv_lit (lo := 400) (hi := 400) 400 (by decide) (by decide)) (by decide)
    refine lv_aload_n E.1 E.2.1 dX4_write_12 rfl (lv_at hl 0 rfl) ?_
    refine t_get E G 4 1 (at_ro (i := 0) ap0 (by decide) : ro p0 = 4) (C := RX4) (T := TX4) (N := 6) rfl (by decide) (by decide) (by decide) mw_fl_4_15 (v := .ref (ad (p0 + 1))) (fvl_o (n := 1) rfl) dX4_write_13 ?_
    refine lv_aload_n E.1 E.2.1 dX4_write_16 rfl (lv_at hl 0 rfl) ?_
    refine t_get E G 4 2 (at_ro (i := 0) ap0 (by decide) : ro p0 = 4) (C := RX4) (T := TX4) (N := 6) rfl (by decide) (by decide) (by decide) mw_fl_4_19 (fvl_i rfl) dX4_write_17 ?_
    refine m_ci v1 e2.symm ?_
    refine lv_iload_n E.1 E.2.1 dX4_write_20 rfl (lv_at hl 1 rfl) ?_
    refine t_iast E G 30 (at_ro (i := 1) ap0 (by decide) : ro (p0 + 1) = 30) (by decide) (by decide) rfl (n := 400) rfl (iv_vp b6 (by decide) (by decide)) dX4_write_21 (fun H locs G => ?_)
    obtain ⟨zz7, G, oo8, kk9, h10⟩ : ∃ u : TS, mG D A s H locs (wd K ad u) ∧ Ok u ∧ KW z u ∧ tI u p0 2 = v1 := ⟨_, G, ok_uc o 30 (at_ro (i := 1) ap0 (by decide) : ro (p0 + 1) = 30) (by decide) (iv_mono bx1 (by decide) (by decide)) (by decide), KF.tr KF.rf (KF_r 30 (at_ro (i := 1) ap0 (by decide) : ro (p0 + 1) = 30) (by decide)), e2.symm⟩
    refine lv_aload_n E.1 E.2.1 dX4_write_22 rfl (lv_at hl 0 rfl) ?_
    refine lv_dup E.1 E.2.1 dX4_write_23 rfl ?_
    refine t_get E G 4 2 (at_ro (i := 0) ap0 (by decide) : ro p0 = 4) (C := RX4) (T := TX4) (N := 6) rfl (by decide) (by decide) (by decide) mw_fl_4_19 (fvl_i rfl) dX4_write_24 ?_
    refine m_ci v1 h10 ?_
    refine lv_iconst (v := 1) E.1 E.2.1 dX4_write_27 (by decide) ?_
    refine lv_iadd E.1 E.2.1 dX4_write_28 ?_
    refine lv_topi (fun v11 e12 => ?_)
    have b13 : iv 1 400 v11 := by rw [e12]; exact iv_add b6 (iv_lit (lo := 1) (hi := 1) 1 (by decide) (by decide)) (by decide) (by decide) (by decide) (by decide)
    refine t_puti E G 4 2 (at_ro (i := 0) ap0 (by decide) : ro p0 = 4) (C := RX4) (T := TX4) (N := 6) rfl (by decide) (by decide) (by decide) rfl rfl mw_fl_4_19 rfl dX4_write_29 (fun H locs G => ?_)
    obtain ⟨zz14, G, oo15, kk16, h17⟩ : ∃ u : TS, mG D A s H locs (wd K ad u) ∧ Ok u ∧ KW z u ∧ tI u p0 2 = v11 := ⟨_, G, ok_i oo8 4 (at_ro (i := 0) ap0 (by decide) : ro p0 = 4) (iv_mono b13 (by decide) (by decide)) (by decide), KF.tr kk9 (KF_i 4 (at_ro (i := 0) ap0 (by decide) : ro p0 = 4) (by decide)), sI_self⟩
    exact RET G ⟨oo15, kk16⟩ dX4_write_32
set_option maxHeartbeats 4000000 in
set_option maxRecDepth 100000 in
theorem r_clear (l : Launch) (D : va_G) (K : Nat → ClassId) (ad : Nat → Nat) (z : TS) (o : Ok z) (p0 : Nat) (ap0 : at_ 4 p0 = true) : cV l yX4_clear cX4_clear 1 ({ frames := 0, cells := 0, slots := 0, locals := 0 }) D K ad z [.ref (ad p0)] (fun u => Ok u ∧ KC z u ∧ tI u 0 5 = tI z 0 5) := by
  refine t_enterV (by decide) (Nat.le_of_ble_eq_true rfl) rfl rfl ?_
  intro p e s m args below meth c A R Q H locs ls E hfr hlo RET G hl
  have E : mE p s m meth c cX4_clear args 1 RX4 D K A := E
  have hl : lv_has ls 1 [(0, .ref (ad p0))] := hl
  refine lv_aload_n E.1 E.2.1 dX4_clear_0 rfl (lv_at hl 0 rfl) ?_
  refine lv_iconst (v := 0) E.1 E.2.1 dX4_clear_1 (by decide) ?_
  refine t_puti E G 4 0 (at_ro (i := 0) ap0 (by decide) : ro p0 = 4) (C := RX4) (T := TX4) (N := 6) rfl (by decide) (by decide) (by decide) rfl rfl mw_fl_4_9 rfl dX4_clear_2 (fun H locs G => ?_)
  obtain ⟨zz1, G, oo2, kk3, h4, h5⟩ : ∃ u : TS, mG D A s H locs (wd K ad u) ∧ Ok u ∧ KC z u ∧ tI u 0 5 = (tI z 0 5) ∧ tI u p0 0 = 0 := ⟨_, G, ok_n o (at_ro (i := 0) ap0 (by decide) : ro p0 = 4) (iv_mono (iv_lit (lo := 0) (hi := 0) 0 (by decide) (by decide)) (by decide) (by decide)) zr_no, KC.tr KC.rf (KC_i 4 (at_ro (i := 0) ap0 (by decide) : ro p0 = 4) (by decide)), (sI_k rfl (by decide)), sI_self⟩
  refine lv_aload_n E.1 E.2.1 dX4_clear_5 rfl (lv_at hl 0 rfl) ?_
  refine lv_iconst (v := 0) E.1 E.2.1 dX4_clear_6 (by decide) ?_
  refine t_puti E G 4 2 (at_ro (i := 0) ap0 (by decide) : ro p0 = 4) (C := RX4) (T := TX4) (N := 6) rfl (by decide) (by decide) (by decide) rfl rfl mw_fl_4_19 rfl dX4_clear_7 (fun H locs G => ?_)
  obtain ⟨zz6, G, oo7, kk8, h9, h10, h11⟩ : ∃ u : TS, mG D A s H locs (wd K ad u) ∧ Ok u ∧ KC z u ∧ tI u 0 5 = (tI z 0 5) ∧ tI u p0 0 = 0 ∧ tI u p0 2 = 0 := ⟨_, G, ok_i oo2 4 (at_ro (i := 0) ap0 (by decide) : ro p0 = 4) (iv_mono (iv_lit (lo := 0) (hi := 0) 0 (by decide) (by decide)) (by decide) (by decide)) (by decide), KC.tr kk3 (KC_i 4 (at_ro (i := 0) ap0 (by decide) : ro p0 = 4) (by decide)), (sI_k h4 (by decide)), (sI_k h5 (by decide)), sI_self⟩
  refine lv_aload_n E.1 E.2.1 dX4_clear_10 rfl (lv_at hl 0 rfl) ?_
  refine t_get E G 4 4 (at_ro (i := 0) ap0 (by decide) : ro p0 = 4) (C := RX4) (T := TX4) (N := 6) rfl (by decide) (by decide) (by decide) mw_fl_4_25 (v := .ref (ad (p0 + 3))) (fvl_o (n := 3) rfl) dX4_clear_11 ?_
  refine lv_iconst (v := 0) E.1 E.2.1 dX4_clear_14 (by decide) ?_
  refine lv_iconst (v := (-1)) E.1 E.2.1 dX4_clear_15 (by decide) ?_
  refine t_iast E G 32 (at_ro (i := 3) ap0 (by decide) : ro (p0 + 3) = 32) (by decide) (by decide) rfl (n := 13) rfl (by unfold vp_in; decide) dX4_clear_16 (fun H locs G => ?_)
  obtain ⟨zz12, G, oo13, kk14, h15, h16, h17⟩ : ∃ u : TS, mG D A s H locs (wd K ad u) ∧ Ok u ∧ KC z u ∧ tI u 0 5 = (tI z 0 5) ∧ tI u p0 0 = 0 ∧ tI u p0 2 = 0 := ⟨_, G, ok_t (j := p0) oo7 (at_ro (i := 0) ap0 (by decide) : ro p0 = 4) (iv_mono (iv_lit (lo := (-1)) (hi := (-1)) (-1) (by decide) (by decide)) (by decide) (by decide)) (Or.inr (by rw [h10]; decide)), KC.tr kk8 (KC_r 32 (at_ro (i := 3) ap0 (by decide) : ro (p0 + 3) = 32) (by decide)), h9, h10, h11⟩
  exact RET G ⟨oo13, kk14, h15⟩ dX4_clear_17
set_option maxHeartbeats 4000000 in
set_option maxRecDepth 100000 in
theorem r_beginTest (l : Launch) (D : va_G) (K : Nat → ClassId) (ad : Nat → Nat) (z : TS) (o : Ok z) (p0 : Nat) (ap0 : at_ 4 p0 = true) : cV l yX4_beginTest cX4_beginTest 1 ({ frames := 0, cells := 0, slots := 0, locals := 0 }) D K ad z [.ref (ad p0)] (fun u => Ok u ∧ KC z u ∧ tI u 0 5 = tI z 0 5) := by
  refine t_enterV (by decide) (Nat.le_of_ble_eq_true rfl) rfl rfl ?_
  intro p e s m args below meth c A R Q H locs ls E hfr hlo RET G hl
  have E : mE p s m meth c cX4_beginTest args 1 RX4 D K A := E
  have hl : lv_has ls 1 [(0, .ref (ad p0))] := hl
  refine lv_aload_n E.1 E.2.1 dX4_beginTest_0 rfl (lv_at hl 0 rfl) ?_
  refine t_get E G 4 0 (at_ro (i := 0) ap0 (by decide) : ro p0 = 4) (C := RX4) (T := TX4) (N := 6) rfl (by decide) (by decide) (by decide) mw_fl_4_9 (fvl_i rfl) dX4_beginTest_1 ?_
  refine lv_topi (fun v1 e2 => ?_)
  have b3 : iv 0 12 v1 := by rw [e2]; exact o.i 4 0 (at_ro (i := 0) ap0 (by decide) : ro p0 = 4)
  refine lv_bipush (v := 12) E.1 E.2.1 dX4_beginTest_4 (by decide) ?_
  refine lv_icmp_ge (tgt := 22) E.1 E.2.1 dX4_beginTest_6 (by decide) (fun c4 => ?_) (fun c4 => ?_)
  · skip
    have b5 : iv 12 12 v1 := le_r c4 (iv_lit (lo := 12) (hi := 12) 12 (by decide) (by decide)) b3 (by decide)
    exact RET G ⟨o, KC.rf, rfl⟩ dX4_beginTest_22
  · skip
    have b6 : iv 0 11 v1 := lt_l (Int32.not_le.mp c4) b3 (iv_lit (lo := 12) (hi := 12) 12 (by decide) (by decide)) (by decide)
    refine lv_aload_n E.1 E.2.1 dX4_beginTest_9 rfl (lv_at hl 0 rfl) ?_
    refine t_get E G 4 4 (at_ro (i := 0) ap0 (by decide) : ro p0 = 4) (C := RX4) (T := TX4) (N := 6) rfl (by decide) (by decide) (by decide) mw_fl_4_25 (v := .ref (ad (p0 + 3))) (fvl_o (n := 3) rfl) dX4_beginTest_10 ?_
    refine lv_aload_n E.1 E.2.1 dX4_beginTest_13 rfl (lv_at hl 0 rfl) ?_
    refine t_get E G 4 0 (at_ro (i := 0) ap0 (by decide) : ro p0 = 4) (C := RX4) (T := TX4) (N := 6) rfl (by decide) (by decide) (by decide) mw_fl_4_9 (fvl_i rfl) dX4_beginTest_14 ?_
    refine m_ci v1 e2.symm ?_
    refine lv_aload_n E.1 E.2.1 dX4_beginTest_17 rfl (lv_at hl 0 rfl) ?_
    refine t_get E G 4 2 (at_ro (i := 0) ap0 (by decide) : ro p0 = 4) (C := RX4) (T := TX4) (N := 6) rfl (by decide) (by decide) (by decide) mw_fl_4_19 (fvl_i rfl) dX4_beginTest_18 ?_
    refine lv_topi (fun v7 e8 => ?_)
    have b9 : iv 0 400 v7 := by rw [e8]; exact o.i 4 2 (at_ro (i := 0) ap0 (by decide) : ro p0 = 4)
    refine t_iast E G 32 (at_ro (i := 3) ap0 (by decide) : ro (p0 + 3) = 32) (by decide) (by decide) rfl (n := 13) rfl (iv_vp b6 (by decide) (by decide)) dX4_beginTest_21 (fun H locs G => ?_)
    obtain ⟨zz10, G, oo11, kk12, h13, h14, h15, hT⟩ : ∃ u : TS, mG D A s H locs (wd K ad u) ∧ Ok u ∧ KC z u ∧ tI u 0 5 = (tI z 0 5) ∧ tI u p0 0 = v1 ∧ tI u p0 2 = v7 ∧ (0 ≤ (tA u (p0 + 3) (v1 : Int32).toNatClampNeg).toInt) := ⟨_, G, ok_t (j := p0) o (at_ro (i := 0) ap0 (by decide) : ro p0 = 4) (iv_mono b9 (by decide) (by decide)) (Or.inl (iv_mono b9 (show (0 : Int) ≤ 0 by decide) (Int.le_refl _)).1), KC.tr KC.rf (KC_r 32 (at_ro (i := 3) ap0 (by decide) : ro (p0 + 3) = 32) (by decide)), rfl, e2.symm, e8.symm, (by rw [sR_self]; exact (iv_mono b9 (show (0 : Int) ≤ 0 by decide) (Int.le_refl _)).1)⟩
    exact RET G ⟨oo11, kk12, h13⟩ dX4_beginTest_22
set_option maxHeartbeats 4000000 in
set_option maxRecDepth 100000 in
theorem r_closeClause (l : Launch) (D : va_G) (K : Nat → ClassId) (ad : Nat → Nat) (z : TS) (o : Ok z) (p0 : Nat) (ap0 : at_ 4 p0 = true) : cV l yX4_closeClause cX4_closeClause 1 ({ frames := 0, cells := 0, slots := 0, locals := 0 }) D K ad z [.ref (ad p0)] (fun u => Ok u ∧ KC z u ∧ tI u 0 5 = tI z 0 5) := by
  refine t_enterV (by decide) (Nat.le_of_ble_eq_true rfl) rfl rfl ?_
  intro p e s m args below meth c A R Q H locs ls E hfr hlo RET G hl
  have E : mE p s m meth c cX4_closeClause args 1 RX4 D K A := E
  have hl : lv_has ls 1 [(0, .ref (ad p0))] := hl
  refine lv_aload_n E.1 E.2.1 dX4_closeClause_0 rfl (lv_at hl 0 rfl) ?_
  refine t_get E G 4 0 (at_ro (i := 0) ap0 (by decide) : ro p0 = 4) (C := RX4) (T := TX4) (N := 6) rfl (by decide) (by decide) (by decide) mw_fl_4_9 (fvl_i rfl) dX4_closeClause_1 ?_
  refine lv_topi (fun v1 e2 => ?_)
  have b3 : iv 0 12 v1 := by rw [e2]; exact o.i 4 0 (at_ro (i := 0) ap0 (by decide) : ro p0 = 4)
  refine lv_bipush (v := 12) E.1 E.2.1 dX4_closeClause_4 (by decide) ?_
  refine lv_icmp_ge (tgt := 68) E.1 E.2.1 dX4_closeClause_6 (by decide) (fun c4 => ?_) (fun c4 => ?_)
  · skip
    have b5 : iv 12 12 v1 := le_r c4 (iv_lit (lo := 12) (hi := 12) 12 (by decide) (by decide)) b3 (by decide)
    exact RET G ⟨o, KC.rf, rfl⟩ dX4_closeClause_68
  · skip
    have b6 : iv 0 11 v1 := lt_l (Int32.not_le.mp c4) b3 (iv_lit (lo := 12) (hi := 12) 12 (by decide) (by decide)) (by decide)
    refine lv_aload_n E.1 E.2.1 dX4_closeClause_9 rfl (lv_at hl 0 rfl) ?_
    refine t_get E G 4 4 (at_ro (i := 0) ap0 (by decide) : ro p0 = 4) (C := RX4) (T := TX4) (N := 6) rfl (by decide) (by decide) (by decide) mw_fl_4_25 (v := .ref (ad (p0 + 3))) (fvl_o (n := 3) rfl) dX4_closeClause_10 ?_
    refine lv_aload_n E.1 E.2.1 dX4_closeClause_13 rfl (lv_at hl 0 rfl) ?_
    refine t_get E G 4 0 (at_ro (i := 0) ap0 (by decide) : ro p0 = 4) (C := RX4) (T := TX4) (N := 6) rfl (by decide) (by decide) (by decide) mw_fl_4_9 (fvl_i rfl) dX4_closeClause_14 ?_
    refine m_ci v1 e2.symm ?_
    refine t_iald E G 32 (at_ro (i := 3) ap0 (by decide) : ro (p0 + 3) = 32) (by decide) (by decide) rfl (n := 13) rfl (iv_vp b6 (by decide) (by decide)) dX4_closeClause_17 ?_
    refine lv_topi (fun v7 e8 => ?_)
    have b9 : iv (-1) 400 v7 := by rw [e8]; exact o.ac 32 (at_ro (i := 3) ap0 (by decide) : ro (p0 + 3) = 32) (by decide) _
    refine lv_iconst (v := (-1)) E.1 E.2.1 dX4_closeClause_18 (by decide) ?_
    refine lv_icmp_ne (tgt := 35) E.1 E.2.1 dX4_closeClause_19 (by decide) (fun c10 => ?_) (fun c10 => ?_)
    · skip
      have b11 : iv 0 400 v7 := ne_lo c10 b9 (by decide) (by decide)
      refine lv_aload_n E.1 E.2.1 dX4_closeClause_35 rfl (lv_at hl 0 rfl) ?_
      refine lv_dup E.1 E.2.1 dX4_closeClause_36 rfl ?_
      refine t_get E G 4 0 (at_ro (i := 0) ap0 (by decide) : ro p0 = 4) (C := RX4) (T := TX4) (N := 6) rfl (by decide) (by decide) (by decide) mw_fl_4_9 (fvl_i rfl) dX4_closeClause_37 ?_
      refine m_ci v1 e2.symm ?_
      refine lv_iconst (v := 1) E.1 E.2.1 dX4_closeClause_40 (by decide) ?_
      refine lv_iadd E.1 E.2.1 dX4_closeClause_41 ?_
      refine lv_topi (fun v12 e13 => ?_)
      have b14 : iv 1 12 v12 := by rw [e13]; exact iv_add b6 (iv_lit (lo := 1) (hi := 1) 1 (by decide) (by decide)) (by decide) (by decide) (by decide) (by decide)
      refine t_puti E G 4 0 (at_ro (i := 0) ap0 (by decide) : ro p0 = 4) (C := RX4) (T := TX4) (N := 6) rfl (by decide) (by decide) (by decide) rfl rfl mw_fl_4_9 rfl dX4_closeClause_42 (fun H locs G => ?_)
      obtain ⟨zz15, G, oo16, kk17, h18, h19⟩ : ∃ u : TS, mG D A s H locs (wd K ad u) ∧ Ok u ∧ KC z u ∧ tI u 0 5 = (tI z 0 5) ∧ tI u p0 0 = v12 := ⟨_, G, ok_n o (at_ro (i := 0) ap0 (by decide) : ro p0 = 4) (iv_mono b14 (by decide) (by decide)) (okR_up o (at_ro (i := 0) ap0 (by decide) : ro p0 = 4) e2.symm (iv_mono b6 (by decide) (by decide)) e13 (by rw [e8.symm]; exact b11.1)), KC.tr KC.rf (KC_i 4 (at_ro (i := 0) ap0 (by decide) : ro p0 = 4) (by decide)), (sI_k rfl (by decide)), sI_self⟩
      refine lv_aload_n E.1 E.2.1 dX4_closeClause_45 rfl (lv_at hl 0 rfl) ?_
      refine t_get E G 4 3 (at_ro (i := 0) ap0 (by decide) : ro p0 = 4) (C := RX4) (T := TX4) (N := 6) rfl (by decide) (by decide) (by decide) mw_fl_4_22 (v := .ref (ad (p0 + 2))) (fvl_o (n := 2) rfl) dX4_closeClause_46 ?_
      refine lv_aload_n E.1 E.2.1 dX4_closeClause_49 rfl (lv_at hl 0 rfl) ?_
      refine t_get E G 4 0 (at_ro (i := 0) ap0 (by decide) : ro p0 = 4) (C := RX4) (T := TX4) (N := 6) rfl (by decide) (by decide) (by decide) mw_fl_4_9 (fvl_i rfl) dX4_closeClause_50 ?_
      refine m_ci v12 h19 ?_
      refine lv_aload_n E.1 E.2.1 dX4_closeClause_53 rfl (lv_at hl 0 rfl) ?_
      refine t_get E G 4 2 (at_ro (i := 0) ap0 (by decide) : ro p0 = 4) (C := RX4) (T := TX4) (N := 6) rfl (by decide) (by decide) (by decide) mw_fl_4_19 (fvl_i rfl) dX4_closeClause_54 ?_
      refine lv_topi (fun v20 e21 => ?_)
      have b22 : iv 0 400 v20 := by rw [e21]; exact oo16.i 4 2 (at_ro (i := 0) ap0 (by decide) : ro p0 = 4)
      refine t_iast E G 31 (at_ro (i := 2) ap0 (by decide) : ro (p0 + 2) = 31) (by decide) (by decide) rfl (n := 13) rfl (iv_vp b14 (by decide) (by decide)) dX4_closeClause_57 (fun H locs G => ?_)
      obtain ⟨zz23, G, oo24, kk25, h26, h27, h28⟩ : ∃ u : TS, mG D A s H locs (wd K ad u) ∧ Ok u ∧ KC z u ∧ tI u 0 5 = (tI z 0 5) ∧ tI u p0 0 = v12 ∧ tI u p0 2 = v20 := ⟨_, G, ok_uc oo16 31 (at_ro (i := 2) ap0 (by decide) : ro (p0 + 2) = 31) (by decide) (iv_mono b22 (by decide) (by decide)) (by decide), KC.tr kk17 (KC_r 31 (at_ro (i := 2) ap0 (by decide) : ro (p0 + 2) = 31) (by decide)), h18, h19, e21.symm⟩
      refine lv_aload_n E.1 E.2.1 dX4_closeClause_58 rfl (lv_at hl 0 rfl) ?_
      refine t_get E G 4 4 (at_ro (i := 0) ap0 (by decide) : ro p0 = 4) (C := RX4) (T := TX4) (N := 6) rfl (by decide) (by decide) (by decide) mw_fl_4_25 (v := .ref (ad (p0 + 3))) (fvl_o (n := 3) rfl) dX4_closeClause_59 ?_
      refine lv_aload_n E.1 E.2.1 dX4_closeClause_62 rfl (lv_at hl 0 rfl) ?_
      refine t_get E G 4 0 (at_ro (i := 0) ap0 (by decide) : ro p0 = 4) (C := RX4) (T := TX4) (N := 6) rfl (by decide) (by decide) (by decide) mw_fl_4_9 (fvl_i rfl) dX4_closeClause_63 ?_
      refine m_ci v12 h27 ?_
      refine lv_iconst (v := (-1)) E.1 E.2.1 dX4_closeClause_66 (by decide) ?_
      refine t_iast E G 32 (at_ro (i := 3) ap0 (by decide) : ro (p0 + 3) = 32) (by decide) (by decide) rfl (n := 13) rfl (iv_vp b14 (by decide) (by decide)) dX4_closeClause_67 (fun H locs G => ?_)
      obtain ⟨zz29, G, oo30, kk31, h32, h33, h34⟩ : ∃ u : TS, mG D A s H locs (wd K ad u) ∧ Ok u ∧ KC z u ∧ tI u 0 5 = (tI z 0 5) ∧ tI u p0 0 = v12 ∧ tI u p0 2 = v20 := ⟨_, G, ok_t (j := p0) oo24 (at_ro (i := 0) ap0 (by decide) : ro p0 = 4) (iv_mono (iv_lit (lo := (-1)) (hi := (-1)) (-1) (by decide) (by decide)) (by decide) (by decide)) (Or.inr (by rw [h27]; have := iv_nat b14 (by decide); omega)), KC.tr kk25 (KC_r 32 (at_ro (i := 3) ap0 (by decide) : ro (p0 + 3) = 32) (by decide)), h26, h27, h28⟩
      exact RET G ⟨oo30, kk31, h32⟩ dX4_closeClause_68
    · skip
      have b35 : iv (-1) (-1) v7 := iv_eq c10 (iv_lit (lo := (-1)) (hi := (-1)) (-1) (by decide) (by decide))
      refine lv_aload_n E.1 E.2.1 dX4_closeClause_22 rfl (lv_at hl 0 rfl) ?_
      refine t_get E G 4 4 (at_ro (i := 0) ap0 (by decide) : ro p0 = 4) (C := RX4) (T := TX4) (N := 6) rfl (by decide) (by decide) (by decide) mw_fl_4_25 (v := .ref (ad (p0 + 3))) (fvl_o (n := 3) rfl) dX4_closeClause_23 ?_
      refine lv_aload_n E.1 E.2.1 dX4_closeClause_26 rfl (lv_at hl 0 rfl) ?_
      refine t_get E G 4 0 (at_ro (i := 0) ap0 (by decide) : ro p0 = 4) (C := RX4) (T := TX4) (N := 6) rfl (by decide) (by decide) (by decide) mw_fl_4_9 (fvl_i rfl) dX4_closeClause_27 ?_
      refine m_ci v1 e2.symm ?_
      refine lv_aload_n E.1 E.2.1 dX4_closeClause_30 rfl (lv_at hl 0 rfl) ?_
      refine t_get E G 4 2 (at_ro (i := 0) ap0 (by decide) : ro p0 = 4) (C := RX4) (T := TX4) (N := 6) rfl (by decide) (by decide) (by decide) mw_fl_4_19 (fvl_i rfl) dX4_closeClause_31 ?_
      refine lv_topi (fun v36 e37 => ?_)
      have b38 : iv 0 400 v36 := by rw [e37]; exact o.i 4 2 (at_ro (i := 0) ap0 (by decide) : ro p0 = 4)
      refine t_iast E G 32 (at_ro (i := 3) ap0 (by decide) : ro (p0 + 3) = 32) (by decide) (by decide) rfl (n := 13) rfl (iv_vp b6 (by decide) (by decide)) dX4_closeClause_34 (fun H locs G => ?_)
      obtain ⟨zz39, G, oo40, kk41, h42, h43, h44, hT⟩ : ∃ u : TS, mG D A s H locs (wd K ad u) ∧ Ok u ∧ KC z u ∧ tI u 0 5 = (tI z 0 5) ∧ tI u p0 0 = v1 ∧ tI u p0 2 = v36 ∧ (0 ≤ (tA u (p0 + 3) (v1 : Int32).toNatClampNeg).toInt) := ⟨_, G, ok_t (j := p0) o (at_ro (i := 0) ap0 (by decide) : ro p0 = 4) (iv_mono b38 (by decide) (by decide)) (Or.inl (iv_mono b38 (show (0 : Int) ≤ 0 by decide) (Int.le_refl _)).1), KC.tr KC.rf (KC_r 32 (at_ro (i := 3) ap0 (by decide) : ro (p0 + 3) = 32) (by decide)), rfl, e2.symm, e37.symm, (by rw [sR_self]; exact (iv_mono b38 (show (0 : Int) ≤ 0 by decide) (Int.le_refl _)).1)⟩
      refine lv_aload_n E.1 E.2.1 dX4_closeClause_35 rfl (lv_at hl 0 rfl) ?_
      refine lv_dup E.1 E.2.1 dX4_closeClause_36 rfl ?_
      refine t_get E G 4 0 (at_ro (i := 0) ap0 (by decide) : ro p0 = 4) (C := RX4) (T := TX4) (N := 6) rfl (by decide) (by decide) (by decide) mw_fl_4_9 (fvl_i rfl) dX4_closeClause_37 ?_
      refine m_ci v1 h43 ?_
      refine lv_iconst (v := 1) E.1 E.2.1 dX4_closeClause_40 (by decide) ?_
      refine lv_iadd E.1 E.2.1 dX4_closeClause_41 ?_
      refine lv_topi (fun v45 e46 => ?_)
      have b47 : iv 1 12 v45 := by rw [e46]; exact iv_add b6 (iv_lit (lo := 1) (hi := 1) 1 (by decide) (by decide)) (by decide) (by decide) (by decide) (by decide)
      refine t_puti E G 4 0 (at_ro (i := 0) ap0 (by decide) : ro p0 = 4) (C := RX4) (T := TX4) (N := 6) rfl (by decide) (by decide) (by decide) rfl rfl mw_fl_4_9 rfl dX4_closeClause_42 (fun H locs G => ?_)
      obtain ⟨zz48, G, oo49, kk50, h51, h52, h53⟩ : ∃ u : TS, mG D A s H locs (wd K ad u) ∧ Ok u ∧ KC z u ∧ tI u 0 5 = (tI z 0 5) ∧ tI u p0 2 = v36 ∧ tI u p0 0 = v45 := ⟨_, G, ok_n oo40 (at_ro (i := 0) ap0 (by decide) : ro p0 = 4) (iv_mono b47 (by decide) (by decide)) (okR_up oo40 (at_ro (i := 0) ap0 (by decide) : ro p0 = 4) h43 (iv_mono b6 (by decide) (by decide)) e46 hT), KC.tr kk41 (KC_i 4 (at_ro (i := 0) ap0 (by decide) : ro p0 = 4) (by decide)), (sI_k h42 (by decide)), (sI_k h44 (by decide)), sI_self⟩
      refine lv_aload_n E.1 E.2.1 dX4_closeClause_45 rfl (lv_at hl 0 rfl) ?_
      refine t_get E G 4 3 (at_ro (i := 0) ap0 (by decide) : ro p0 = 4) (C := RX4) (T := TX4) (N := 6) rfl (by decide) (by decide) (by decide) mw_fl_4_22 (v := .ref (ad (p0 + 2))) (fvl_o (n := 2) rfl) dX4_closeClause_46 ?_
      refine lv_aload_n E.1 E.2.1 dX4_closeClause_49 rfl (lv_at hl 0 rfl) ?_
      refine t_get E G 4 0 (at_ro (i := 0) ap0 (by decide) : ro p0 = 4) (C := RX4) (T := TX4) (N := 6) rfl (by decide) (by decide) (by decide) mw_fl_4_9 (fvl_i rfl) dX4_closeClause_50 ?_
      refine m_ci v45 h53 ?_
      refine lv_aload_n E.1 E.2.1 dX4_closeClause_53 rfl (lv_at hl 0 rfl) ?_
      refine t_get E G 4 2 (at_ro (i := 0) ap0 (by decide) : ro p0 = 4) (C := RX4) (T := TX4) (N := 6) rfl (by decide) (by decide) (by decide) mw_fl_4_19 (fvl_i rfl) dX4_closeClause_54 ?_
      refine m_ci v36 h52 ?_
      refine t_iast E G 31 (at_ro (i := 2) ap0 (by decide) : ro (p0 + 2) = 31) (by decide) (by decide) rfl (n := 13) rfl (iv_vp b47 (by decide) (by decide)) dX4_closeClause_57 (fun H locs G => ?_)
      obtain ⟨zz54, G, oo55, kk56, h57, h58, h59⟩ : ∃ u : TS, mG D A s H locs (wd K ad u) ∧ Ok u ∧ KC z u ∧ tI u 0 5 = (tI z 0 5) ∧ tI u p0 2 = v36 ∧ tI u p0 0 = v45 := ⟨_, G, ok_uc oo49 31 (at_ro (i := 2) ap0 (by decide) : ro (p0 + 2) = 31) (by decide) (iv_mono b38 (by decide) (by decide)) (by decide), KC.tr kk50 (KC_r 31 (at_ro (i := 2) ap0 (by decide) : ro (p0 + 2) = 31) (by decide)), h51, h52, h53⟩
      refine lv_aload_n E.1 E.2.1 dX4_closeClause_58 rfl (lv_at hl 0 rfl) ?_
      refine t_get E G 4 4 (at_ro (i := 0) ap0 (by decide) : ro p0 = 4) (C := RX4) (T := TX4) (N := 6) rfl (by decide) (by decide) (by decide) mw_fl_4_25 (v := .ref (ad (p0 + 3))) (fvl_o (n := 3) rfl) dX4_closeClause_59 ?_
      refine lv_aload_n E.1 E.2.1 dX4_closeClause_62 rfl (lv_at hl 0 rfl) ?_
      refine t_get E G 4 0 (at_ro (i := 0) ap0 (by decide) : ro p0 = 4) (C := RX4) (T := TX4) (N := 6) rfl (by decide) (by decide) (by decide) mw_fl_4_9 (fvl_i rfl) dX4_closeClause_63 ?_
      refine m_ci v45 h59 ?_
      refine lv_iconst (v := (-1)) E.1 E.2.1 dX4_closeClause_66 (by decide) ?_
      refine t_iast E G 32 (at_ro (i := 3) ap0 (by decide) : ro (p0 + 3) = 32) (by decide) (by decide) rfl (n := 13) rfl (iv_vp b47 (by decide) (by decide)) dX4_closeClause_67 (fun H locs G => ?_)
      obtain ⟨zz60, G, oo61, kk62, h63, h64, h65⟩ : ∃ u : TS, mG D A s H locs (wd K ad u) ∧ Ok u ∧ KC z u ∧ tI u 0 5 = (tI z 0 5) ∧ tI u p0 2 = v36 ∧ tI u p0 0 = v45 := ⟨_, G, ok_t (j := p0) oo55 (at_ro (i := 0) ap0 (by decide) : ro p0 = 4) (iv_mono (iv_lit (lo := (-1)) (hi := (-1)) (-1) (by decide) (by decide)) (by decide) (by decide)) (Or.inr (by rw [h59]; have := iv_nat b47 (by decide); omega)), KC.tr kk56 (KC_r 32 (at_ro (i := 3) ap0 (by decide) : ro (p0 + 3) = 32) (by decide)), h57, h58, h59⟩
      exact RET G ⟨oo61, kk62, h63⟩ dX4_closeClause_68
set_option maxHeartbeats 4000000 in
set_option maxRecDepth 100000 in
theorem r_joined (l : Launch) (D : va_G) (K : Nat → ClassId) (ad : Nat → Nat) (z : TS) (o : Ok z) (x1 : Int32) (w1 : Int64) (w2 : Int64) : cL l yX4_joined cX4_joined 5 ({ frames := 0, cells := 0, slots := 0, locals := 0 }) D K ad z [.int x1, .long w1, .long w2] (fun r u => u = z) := by
  refine t_enterL (by decide) (Nat.le_of_ble_eq_true rfl) rfl rfl ?_
  intro p e s m args below meth c A R Q H locs ls E hfr hlo RET G hl
  have E : mE p s m meth c cX4_joined args 5 RX4 D K A := E
  have hl : lv_has ls 5 [(0, .int x1), (1, .long w1), (3, .long w2)] := hl
  refine lv_iload_n E.1 E.2.1 dX4_joined_0 rfl (lv_at hl 0 rfl) ?_
  rcases Decidable.em (x1.toInt < 14 ∨ 32 < x1.toInt) with c1 | c1
  · refine lv_tableOut (tgt := 196) E.1 E.2.1 dX4_joined_1 c1 (by decide) ?_
    refine lv_lload_n E.1 E.2.1 dX4_joined_196 rfl (lv_at hl 1 rfl) ?_
    refine lv_lload_n E.1 E.2.1 dX4_joined_197 rfl (lv_at hl 2 rfl) ?_
    refine lv_lor E.1 E.2.1 dX4_joined_198 ?_
    refine lv_topl (fun v2 _ => ?_)
    exact RET G rfl dX4_joined_199
  · rcases sw_14_32 x1 (fun h => c1 (Or.inl h)) (fun h => c1 (Or.inr h)) with ee0 | ee1 | ee2 | ee3 | ee4 | ee5 | ee6 | ee7 | ee8 | ee9 | ee10 | ee11 | ee12 | ee13 | ee14 | ee15 | ee16 | ee17 | ee18
    · refine lv_tableIn (off := 191) (tgt := 192) E.1 E.2.1 dX4_joined_1 (by rw [ee0]; decide) (by rw [ee0]; decide) (by rw [ee0]; decide) (by decide) ?_
      refine lv_lload_n E.1 E.2.1 dX4_joined_192 rfl (lv_at hl 1 rfl) ?_
      refine lv_lload_n E.1 E.2.1 dX4_joined_193 rfl (lv_at hl 2 rfl) ?_
      refine lv_land E.1 E.2.1 dX4_joined_194 ?_
      refine lv_topl (fun v4 _ => ?_)
      exact RET G rfl dX4_joined_195
    · refine lv_tableIn (off := 195) (tgt := 196) E.1 E.2.1 dX4_joined_1 (by rw [ee1]; decide) (by rw [ee1]; decide) (by rw [ee1]; decide) (by decide) ?_
      refine lv_lload_n E.1 E.2.1 dX4_joined_196 rfl (lv_at hl 1 rfl) ?_
      refine lv_lload_n E.1 E.2.1 dX4_joined_197 rfl (lv_at hl 2 rfl) ?_
      refine lv_lor E.1 E.2.1 dX4_joined_198 ?_
      refine lv_topl (fun v5 _ => ?_)
      exact RET G rfl dX4_joined_199
    · refine lv_tableIn (off := 195) (tgt := 196) E.1 E.2.1 dX4_joined_1 (by rw [ee2]; decide) (by rw [ee2]; decide) (by rw [ee2]; decide) (by decide) ?_
      refine lv_lload_n E.1 E.2.1 dX4_joined_196 rfl (lv_at hl 1 rfl) ?_
      refine lv_lload_n E.1 E.2.1 dX4_joined_197 rfl (lv_at hl 2 rfl) ?_
      refine lv_lor E.1 E.2.1 dX4_joined_198 ?_
      refine lv_topl (fun v6 _ => ?_)
      exact RET G rfl dX4_joined_199
    · refine lv_tableIn (off := 195) (tgt := 196) E.1 E.2.1 dX4_joined_1 (by rw [ee3]; decide) (by rw [ee3]; decide) (by rw [ee3]; decide) (by decide) ?_
      refine lv_lload_n E.1 E.2.1 dX4_joined_196 rfl (lv_at hl 1 rfl) ?_
      refine lv_lload_n E.1 E.2.1 dX4_joined_197 rfl (lv_at hl 2 rfl) ?_
      refine lv_lor E.1 E.2.1 dX4_joined_198 ?_
      refine lv_topl (fun v7 _ => ?_)
      exact RET G rfl dX4_joined_199
    · refine lv_tableIn (off := 195) (tgt := 196) E.1 E.2.1 dX4_joined_1 (by rw [ee4]; decide) (by rw [ee4]; decide) (by rw [ee4]; decide) (by decide) ?_
      refine lv_lload_n E.1 E.2.1 dX4_joined_196 rfl (lv_at hl 1 rfl) ?_
      refine lv_lload_n E.1 E.2.1 dX4_joined_197 rfl (lv_at hl 2 rfl) ?_
      refine lv_lor E.1 E.2.1 dX4_joined_198 ?_
      refine lv_topl (fun v8 _ => ?_)
      exact RET G rfl dX4_joined_199
    · refine lv_tableIn (off := 195) (tgt := 196) E.1 E.2.1 dX4_joined_1 (by rw [ee5]; decide) (by rw [ee5]; decide) (by rw [ee5]; decide) (by decide) ?_
      refine lv_lload_n E.1 E.2.1 dX4_joined_196 rfl (lv_at hl 1 rfl) ?_
      refine lv_lload_n E.1 E.2.1 dX4_joined_197 rfl (lv_at hl 2 rfl) ?_
      refine lv_lor E.1 E.2.1 dX4_joined_198 ?_
      refine lv_topl (fun v9 _ => ?_)
      exact RET G rfl dX4_joined_199
    · refine lv_tableIn (off := 195) (tgt := 196) E.1 E.2.1 dX4_joined_1 (by rw [ee6]; decide) (by rw [ee6]; decide) (by rw [ee6]; decide) (by decide) ?_
      refine lv_lload_n E.1 E.2.1 dX4_joined_196 rfl (lv_at hl 1 rfl) ?_
      refine lv_lload_n E.1 E.2.1 dX4_joined_197 rfl (lv_at hl 2 rfl) ?_
      refine lv_lor E.1 E.2.1 dX4_joined_198 ?_
      refine lv_topl (fun v10 _ => ?_)
      exact RET G rfl dX4_joined_199
    · refine lv_tableIn (off := 195) (tgt := 196) E.1 E.2.1 dX4_joined_1 (by rw [ee7]; decide) (by rw [ee7]; decide) (by rw [ee7]; decide) (by decide) ?_
      refine lv_lload_n E.1 E.2.1 dX4_joined_196 rfl (lv_at hl 1 rfl) ?_
      refine lv_lload_n E.1 E.2.1 dX4_joined_197 rfl (lv_at hl 2 rfl) ?_
      refine lv_lor E.1 E.2.1 dX4_joined_198 ?_
      refine lv_topl (fun v11 _ => ?_)
      exact RET G rfl dX4_joined_199
    · refine lv_tableIn (off := 195) (tgt := 196) E.1 E.2.1 dX4_joined_1 (by rw [ee8]; decide) (by rw [ee8]; decide) (by rw [ee8]; decide) (by decide) ?_
      refine lv_lload_n E.1 E.2.1 dX4_joined_196 rfl (lv_at hl 1 rfl) ?_
      refine lv_lload_n E.1 E.2.1 dX4_joined_197 rfl (lv_at hl 2 rfl) ?_
      refine lv_lor E.1 E.2.1 dX4_joined_198 ?_
      refine lv_topl (fun v12 _ => ?_)
      exact RET G rfl dX4_joined_199
    · refine lv_tableIn (off := 91) (tgt := 92) E.1 E.2.1 dX4_joined_1 (by rw [ee9]; decide) (by rw [ee9]; decide) (by rw [ee9]; decide) (by decide) ?_
      refine lv_lload_n E.1 E.2.1 dX4_joined_92 rfl (lv_at hl 1 rfl) ?_
      refine lv_lload_n E.1 E.2.1 dX4_joined_93 rfl (lv_at hl 2 rfl) ?_
      refine lv_ladd E.1 E.2.1 dX4_joined_94 ?_
      refine lv_topl (fun v13 _ => ?_)
      exact RET G rfl dX4_joined_95
    · refine lv_tableIn (off := 95) (tgt := 96) E.1 E.2.1 dX4_joined_1 (by rw [ee10]; decide) (by rw [ee10]; decide) (by rw [ee10]; decide) (by decide) ?_
      refine lv_lload_n E.1 E.2.1 dX4_joined_96 rfl (lv_at hl 1 rfl) ?_
      refine lv_lload_n E.1 E.2.1 dX4_joined_97 rfl (lv_at hl 2 rfl) ?_
      refine lv_lsub E.1 E.2.1 dX4_joined_98 ?_
      refine lv_topl (fun v14 _ => ?_)
      exact RET G rfl dX4_joined_99
    · refine lv_tableIn (off := 99) (tgt := 100) E.1 E.2.1 dX4_joined_1 (by rw [ee11]; decide) (by rw [ee11]; decide) (by rw [ee11]; decide) (by decide) ?_
      refine lv_lload_n E.1 E.2.1 dX4_joined_100 rfl (lv_at hl 1 rfl) ?_
      refine lv_lload_n E.1 E.2.1 dX4_joined_101 rfl (lv_at hl 2 rfl) ?_
      refine lv_lmul E.1 E.2.1 dX4_joined_102 ?_
      refine lv_topl (fun v15 _ => ?_)
      exact RET G rfl dX4_joined_103
    · refine lv_tableIn (off := 103) (tgt := 104) E.1 E.2.1 dX4_joined_1 (by rw [ee12]; decide) (by rw [ee12]; decide) (by rw [ee12]; decide) (by decide) ?_
      refine lv_lload_n E.1 E.2.1 dX4_joined_104 rfl (lv_at hl 2 rfl) ?_
      refine lv_lconst (v := 0) E.1 E.2.1 dX4_joined_105 (by decide) ?_
      refine W.lcmp E.1 E.2.1 dX4_joined_106 ?_
      refine lv_topi (fun v16 e17 => ?_)
      have b18 : iv (-1) 1 v16 := by rw [e17]; exact lgc_iv _ _
      refine lv_if_ne (tgt := 114) E.1 E.2.1 dX4_joined_107 (by decide) (fun c19 => ?_) (fun c19 => ?_)
      · skip
        refine lv_lload_n E.1 E.2.1 dX4_joined_114 rfl (lv_at hl 1 rfl) ?_
        refine lv_lload_n E.1 E.2.1 dX4_joined_115 rfl (lv_at hl 2 rfl) ?_
        refine lv_ldiv E.1 E.2.1 dX4_joined_116 (fun q => c19 (by rw [e17, q]; decide)) ?_
        refine lv_topl (fun v20 _ => ?_)
        exact RET G rfl dX4_joined_117
      · skip
        have b21 : iv 0 0 v16 := iv_eq c19 (iv_lit (lo := 0) (hi := 0) 0 (by decide) (by decide))
        refine lv_lconst (v := 0) E.1 E.2.1 dX4_joined_110 (by decide) ?_
        refine lv_goto (tgt := 117) E.1 E.2.1 dX4_joined_111 (by decide) ?_
        exact RET G rfl dX4_joined_117
    · refine lv_tableIn (off := 117) (tgt := 118) E.1 E.2.1 dX4_joined_1 (by rw [ee13]; decide) (by rw [ee13]; decide) (by rw [ee13]; decide) (by decide) ?_
      refine lv_lload_n E.1 E.2.1 dX4_joined_118 rfl (lv_at hl 2 rfl) ?_
      refine lv_lconst (v := 0) E.1 E.2.1 dX4_joined_119 (by decide) ?_
      refine W.lcmp E.1 E.2.1 dX4_joined_120 ?_
      refine lv_topi (fun v22 e23 => ?_)
      have b24 : iv (-1) 1 v22 := by rw [e23]; exact lgc_iv _ _
      refine lv_if_ne (tgt := 128) E.1 E.2.1 dX4_joined_121 (by decide) (fun c25 => ?_) (fun c25 => ?_)
      · skip
        refine lv_lload_n E.1 E.2.1 dX4_joined_128 rfl (lv_at hl 1 rfl) ?_
        refine lv_lload_n E.1 E.2.1 dX4_joined_129 rfl (lv_at hl 2 rfl) ?_
        refine lv_lrem E.1 E.2.1 dX4_joined_130 (fun q => c25 (by rw [e23, q]; decide)) ?_
        refine lv_topl (fun v26 _ => ?_)
        exact RET G rfl dX4_joined_131
      · skip
        have b27 : iv 0 0 v22 := iv_eq c25 (iv_lit (lo := 0) (hi := 0) 0 (by decide) (by decide))
        refine lv_lconst (v := 0) E.1 E.2.1 dX4_joined_124 (by decide) ?_
        refine lv_goto (tgt := 131) E.1 E.2.1 dX4_joined_125 (by decide) ?_
        exact RET G rfl dX4_joined_131
    · refine lv_tableIn (off := 131) (tgt := 132) E.1 E.2.1 dX4_joined_1 (by rw [ee14]; decide) (by rw [ee14]; decide) (by rw [ee14]; decide) (by decide) ?_
      refine lv_lload_n E.1 E.2.1 dX4_joined_132 rfl (lv_at hl 1 rfl) ?_
      refine lv_lload_n E.1 E.2.1 dX4_joined_133 rfl (lv_at hl 2 rfl) ?_
      refine W.lcmp E.1 E.2.1 dX4_joined_134 ?_
      refine lv_topi (fun v28 e29 => ?_)
      have b30 : iv (-1) 1 v28 := by rw [e29]; exact lgc_iv _ _
      refine lv_if_ge (tgt := 142) E.1 E.2.1 dX4_joined_135 (by decide) (fun c31 => ?_) (fun c31 => ?_)
      · skip
        have b32 : iv 0 1 v28 := le_r c31 (iv_lit (lo := 0) (hi := 0) 0 (by decide) (by decide)) b30 (by decide)
        refine lv_lconst (v := 0) E.1 E.2.1 dX4_joined_142 (by decide) ?_
        exact RET G rfl dX4_joined_143
      · skip
        have b33 : iv (-1) (-1) v28 := lt_l (Int32.not_le.mp c31) b30 (iv_lit (lo := 0) (hi := 0) 0 (by decide) (by decide)) (by decide)
        refine lv_lconst (v := 1) E.1 E.2.1 dX4_joined_138 (by decide) ?_
        refine lv_goto (tgt := 143) E.1 E.2.1 dX4_joined_139 (by decide) ?_
        exact RET G rfl dX4_joined_143
    · refine lv_tableIn (off := 155) (tgt := 156) E.1 E.2.1 dX4_joined_1 (by rw [ee15]; decide) (by rw [ee15]; decide) (by rw [ee15]; decide) (by decide) ?_
      refine lv_lload_n E.1 E.2.1 dX4_joined_156 rfl (lv_at hl 1 rfl) ?_
      refine lv_lload_n E.1 E.2.1 dX4_joined_157 rfl (lv_at hl 2 rfl) ?_
      refine W.lcmp E.1 E.2.1 dX4_joined_158 ?_
      refine lv_topi (fun v34 e35 => ?_)
      have b36 : iv (-1) 1 v34 := by rw [e35]; exact lgc_iv _ _
      refine lv_if_ne (tgt := 166) E.1 E.2.1 dX4_joined_159 (by decide) (fun c37 => ?_) (fun c37 => ?_)
      · skip
        refine lv_lconst (v := 0) E.1 E.2.1 dX4_joined_166 (by decide) ?_
        exact RET G rfl dX4_joined_167
      · skip
        have b38 : iv 0 0 v34 := iv_eq c37 (iv_lit (lo := 0) (hi := 0) 0 (by decide) (by decide))
        refine lv_lconst (v := 1) E.1 E.2.1 dX4_joined_162 (by decide) ?_
        refine lv_goto (tgt := 167) E.1 E.2.1 dX4_joined_163 (by decide) ?_
        exact RET G rfl dX4_joined_167
    · refine lv_tableIn (off := 179) (tgt := 180) E.1 E.2.1 dX4_joined_1 (by rw [ee16]; decide) (by rw [ee16]; decide) (by rw [ee16]; decide) (by decide) ?_
      refine lv_lload_n E.1 E.2.1 dX4_joined_180 rfl (lv_at hl 1 rfl) ?_
      refine lv_lload_n E.1 E.2.1 dX4_joined_181 rfl (lv_at hl 2 rfl) ?_
      refine W.lcmp E.1 E.2.1 dX4_joined_182 ?_
      refine lv_topi (fun v39 e40 => ?_)
      have b41 : iv (-1) 1 v39 := by rw [e40]; exact lgc_iv _ _
      refine lv_if_le (tgt := 190) E.1 E.2.1 dX4_joined_183 (by decide) (fun c42 => ?_) (fun c42 => ?_)
      · skip
        have b43 : iv (-1) 0 v39 := le_l c42 b41 (iv_lit (lo := 0) (hi := 0) 0 (by decide) (by decide)) (by decide)
        refine lv_lconst (v := 0) E.1 E.2.1 dX4_joined_190 (by decide) ?_
        exact RET G rfl dX4_joined_191
      · skip
        have b44 : iv 1 1 v39 := lt_r (Int32.not_le.mp c42) (iv_lit (lo := 0) (hi := 0) 0 (by decide) (by decide)) b41 (by decide)
        refine lv_lconst (v := 1) E.1 E.2.1 dX4_joined_186 (by decide) ?_
        refine lv_goto (tgt := 191) E.1 E.2.1 dX4_joined_187 (by decide) ?_
        exact RET G rfl dX4_joined_191
    · refine lv_tableIn (off := 143) (tgt := 144) E.1 E.2.1 dX4_joined_1 (by rw [ee17]; decide) (by rw [ee17]; decide) (by rw [ee17]; decide) (by decide) ?_
      refine lv_lload_n E.1 E.2.1 dX4_joined_144 rfl (lv_at hl 1 rfl) ?_
      refine lv_lload_n E.1 E.2.1 dX4_joined_145 rfl (lv_at hl 2 rfl) ?_
      refine W.lcmp E.1 E.2.1 dX4_joined_146 ?_
      refine lv_topi (fun v45 e46 => ?_)
      have b47 : iv (-1) 1 v45 := by rw [e46]; exact lgc_iv _ _
      refine lv_if_gt (tgt := 154) E.1 E.2.1 dX4_joined_147 (by decide) (fun c48 => ?_) (fun c48 => ?_)
      · skip
        have b49 : iv 1 1 v45 := lt_r c48 (iv_lit (lo := 0) (hi := 0) 0 (by decide) (by decide)) b47 (by decide)
        refine lv_lconst (v := 0) E.1 E.2.1 dX4_joined_154 (by decide) ?_
        exact RET G rfl dX4_joined_155
      · skip
        have b50 : iv (-1) 0 v45 := le_l (Int32.not_lt.mp c48) b47 (iv_lit (lo := 0) (hi := 0) 0 (by decide) (by decide)) (by decide)
        refine lv_lconst (v := 1) E.1 E.2.1 dX4_joined_150 (by decide) ?_
        refine lv_goto (tgt := 155) E.1 E.2.1 dX4_joined_151 (by decide) ?_
        exact RET G rfl dX4_joined_155
    · refine lv_tableIn (off := 167) (tgt := 168) E.1 E.2.1 dX4_joined_1 (by rw [ee18]; decide) (by rw [ee18]; decide) (by rw [ee18]; decide) (by decide) ?_
      refine lv_lload_n E.1 E.2.1 dX4_joined_168 rfl (lv_at hl 1 rfl) ?_
      refine lv_lload_n E.1 E.2.1 dX4_joined_169 rfl (lv_at hl 2 rfl) ?_
      refine W.lcmp E.1 E.2.1 dX4_joined_170 ?_
      refine lv_topi (fun v51 e52 => ?_)
      have b53 : iv (-1) 1 v51 := by rw [e52]; exact lgc_iv _ _
      refine lv_if_lt (tgt := 178) E.1 E.2.1 dX4_joined_171 (by decide) (fun c54 => ?_) (fun c54 => ?_)
      · skip
        have b55 : iv (-1) (-1) v51 := lt_l c54 b53 (iv_lit (lo := 0) (hi := 0) 0 (by decide) (by decide)) (by decide)
        refine lv_lconst (v := 0) E.1 E.2.1 dX4_joined_178 (by decide) ?_
        exact RET G rfl dX4_joined_179
      · skip
        have b56 : iv 0 1 v51 := le_r (Int32.not_lt.mp c54) (iv_lit (lo := 0) (hi := 0) 0 (by decide) (by decide)) b53 (by decide)
        refine lv_lconst (v := 1) E.1 E.2.1 dX4_joined_174 (by decide) ?_
        refine lv_goto (tgt := 179) E.1 E.2.1 dX4_joined_175 (by decide) ?_
        exact RET G rfl dX4_joined_179
