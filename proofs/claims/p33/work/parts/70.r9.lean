theorem mw_fl_11_270 : (Cond.fieldLink RX11 270 "LureTownModel" "top" "I" : Cond) ∈ cw := cw_of (List.mem_append_right _ (List.mem_append_right _ (List.mem_append_right _ (List.mem_append_right _ (List.mem_append_right _ (List.mem_append_left _ (List.mem_of_getElem? (i := 125) (by decide +kernel)))))))) (by decide +kernel)
theorem mw_fl_11_32 : (Cond.fieldLink RX11 32 "LureTownModel" "stack" "[J" : Cond) ∈ cw := cw_of (List.mem_append_right _ (List.mem_append_right _ (List.mem_append_right _ (List.mem_append_right _ (List.mem_append_right _ (List.mem_append_left _ (List.mem_of_getElem? (i := 124) (by decide +kernel)))))))) (by decide +kernel)
theorem dX11_one_0 : decode cX11_one 0 = .ok (.iload_n 0, 1) := by decide +kernel
theorem dX11_one_1 : decode cX11_one 1 = .ok (.tableswitch 171 2 14 #[67, 71, 75, 79, 107, 119, 131, 143, 155, 171, 167, 171, 93], 67) := by decide +kernel
theorem dX11_one_68 : decode cX11_one 68 = .ok (.lload_n 1, 1) := by decide +kernel
theorem dX11_one_69 : decode cX11_one 69 = .ok (.lload_n 3, 1) := by decide +kernel
theorem dX11_one_70 : decode cX11_one 70 = .ok (.ladd, 1) := by decide +kernel
theorem dX11_one_71 : decode cX11_one 71 = .ok (.lreturn, 1) := by decide +kernel
theorem dX11_one_72 : decode cX11_one 72 = .ok (.lload_n 1, 1) := by decide +kernel
theorem dX11_one_73 : decode cX11_one 73 = .ok (.lload_n 3, 1) := by decide +kernel
theorem dX11_one_74 : decode cX11_one 74 = .ok (.lsub, 1) := by decide +kernel
theorem dX11_one_75 : decode cX11_one 75 = .ok (.lreturn, 1) := by decide +kernel
theorem dX11_one_76 : decode cX11_one 76 = .ok (.lload_n 1, 1) := by decide +kernel
theorem dX11_one_77 : decode cX11_one 77 = .ok (.lload_n 3, 1) := by decide +kernel
theorem dX11_one_78 : decode cX11_one 78 = .ok (.lmul, 1) := by decide +kernel
theorem dX11_one_79 : decode cX11_one 79 = .ok (.lreturn, 1) := by decide +kernel
theorem dX11_one_80 : decode cX11_one 80 = .ok (.lload_n 3, 1) := by decide +kernel
theorem dX11_one_81 : decode cX11_one 81 = .ok (.lconst 0, 1) := by decide +kernel
theorem dX11_one_82 : decode cX11_one 82 = .ok (.lcmp, 1) := by decide +kernel
theorem dX11_one_83 : decode cX11_one 83 = .ok (.ifCond .ne 7, 3) := by decide +kernel
theorem dX11_one_86 : decode cX11_one 86 = .ok (.lconst 0, 1) := by decide +kernel
theorem dX11_one_87 : decode cX11_one 87 = .ok (.goto 6, 3) := by decide +kernel
theorem dX11_one_90 : decode cX11_one 90 = .ok (.lload_n 1, 1) := by decide +kernel
theorem dX11_one_91 : decode cX11_one 91 = .ok (.lload_n 3, 1) := by decide +kernel
theorem dX11_one_92 : decode cX11_one 92 = .ok (.ldiv, 1) := by decide +kernel
theorem dX11_one_93 : decode cX11_one 93 = .ok (.lreturn, 1) := by decide +kernel
theorem dX11_one_94 : decode cX11_one 94 = .ok (.lload_n 3, 1) := by decide +kernel
theorem dX11_one_95 : decode cX11_one 95 = .ok (.lconst 0, 1) := by decide +kernel
theorem dX11_one_96 : decode cX11_one 96 = .ok (.lcmp, 1) := by decide +kernel
theorem dX11_one_97 : decode cX11_one 97 = .ok (.ifCond .ne 7, 3) := by decide +kernel
theorem dX11_one_100 : decode cX11_one 100 = .ok (.lconst 0, 1) := by decide +kernel
theorem dX11_one_101 : decode cX11_one 101 = .ok (.goto 6, 3) := by decide +kernel
theorem dX11_one_104 : decode cX11_one 104 = .ok (.lload_n 1, 1) := by decide +kernel
theorem dX11_one_105 : decode cX11_one 105 = .ok (.lload_n 3, 1) := by decide +kernel
theorem dX11_one_106 : decode cX11_one 106 = .ok (.lrem, 1) := by decide +kernel
theorem dX11_one_107 : decode cX11_one 107 = .ok (.lreturn, 1) := by decide +kernel
theorem dX11_one_108 : decode cX11_one 108 = .ok (.lload_n 1, 1) := by decide +kernel
theorem dX11_one_109 : decode cX11_one 109 = .ok (.lload_n 3, 1) := by decide +kernel
theorem dX11_one_110 : decode cX11_one 110 = .ok (.lcmp, 1) := by decide +kernel
theorem dX11_one_111 : decode cX11_one 111 = .ok (.ifCond .ge 7, 3) := by decide +kernel
theorem dX11_one_114 : decode cX11_one 114 = .ok (.lconst 1, 1) := by decide +kernel
theorem dX11_one_115 : decode cX11_one 115 = .ok (.goto 4, 3) := by decide +kernel
theorem dX11_one_118 : decode cX11_one 118 = .ok (.lconst 0, 1) := by decide +kernel
theorem dX11_one_119 : decode cX11_one 119 = .ok (.lreturn, 1) := by decide +kernel
theorem dX11_one_120 : decode cX11_one 120 = .ok (.lload_n 1, 1) := by decide +kernel
theorem dX11_one_121 : decode cX11_one 121 = .ok (.lload_n 3, 1) := by decide +kernel
theorem dX11_one_122 : decode cX11_one 122 = .ok (.lcmp, 1) := by decide +kernel
theorem dX11_one_123 : decode cX11_one 123 = .ok (.ifCond .gt 7, 3) := by decide +kernel
theorem dX11_one_126 : decode cX11_one 126 = .ok (.lconst 1, 1) := by decide +kernel
theorem dX11_one_127 : decode cX11_one 127 = .ok (.goto 4, 3) := by decide +kernel
theorem dX11_one_130 : decode cX11_one 130 = .ok (.lconst 0, 1) := by decide +kernel
theorem dX11_one_131 : decode cX11_one 131 = .ok (.lreturn, 1) := by decide +kernel
theorem dX11_one_132 : decode cX11_one 132 = .ok (.lload_n 1, 1) := by decide +kernel
theorem dX11_one_133 : decode cX11_one 133 = .ok (.lload_n 3, 1) := by decide +kernel
theorem dX11_one_134 : decode cX11_one 134 = .ok (.lcmp, 1) := by decide +kernel
theorem dX11_one_135 : decode cX11_one 135 = .ok (.ifCond .ne 7, 3) := by decide +kernel
theorem dX11_one_138 : decode cX11_one 138 = .ok (.lconst 1, 1) := by decide +kernel
theorem dX11_one_139 : decode cX11_one 139 = .ok (.goto 4, 3) := by decide +kernel
theorem dX11_one_142 : decode cX11_one 142 = .ok (.lconst 0, 1) := by decide +kernel
theorem dX11_one_143 : decode cX11_one 143 = .ok (.lreturn, 1) := by decide +kernel
theorem dX11_one_144 : decode cX11_one 144 = .ok (.lload_n 1, 1) := by decide +kernel
theorem dX11_one_145 : decode cX11_one 145 = .ok (.lload_n 3, 1) := by decide +kernel
theorem dX11_one_146 : decode cX11_one 146 = .ok (.lcmp, 1) := by decide +kernel
theorem dX11_one_147 : decode cX11_one 147 = .ok (.ifCond .lt 7, 3) := by decide +kernel
theorem dX11_one_150 : decode cX11_one 150 = .ok (.lconst 1, 1) := by decide +kernel
theorem dX11_one_151 : decode cX11_one 151 = .ok (.goto 4, 3) := by decide +kernel
theorem dX11_one_154 : decode cX11_one 154 = .ok (.lconst 0, 1) := by decide +kernel
theorem dX11_one_155 : decode cX11_one 155 = .ok (.lreturn, 1) := by decide +kernel
theorem dX11_one_156 : decode cX11_one 156 = .ok (.lload_n 1, 1) := by decide +kernel
theorem dX11_one_157 : decode cX11_one 157 = .ok (.lload_n 3, 1) := by decide +kernel
theorem dX11_one_158 : decode cX11_one 158 = .ok (.lcmp, 1) := by decide +kernel
theorem dX11_one_159 : decode cX11_one 159 = .ok (.ifCond .le 7, 3) := by decide +kernel
theorem dX11_one_162 : decode cX11_one 162 = .ok (.lconst 1, 1) := by decide +kernel
theorem dX11_one_163 : decode cX11_one 163 = .ok (.goto 4, 3) := by decide +kernel
theorem dX11_one_166 : decode cX11_one 166 = .ok (.lconst 0, 1) := by decide +kernel
theorem dX11_one_167 : decode cX11_one 167 = .ok (.lreturn, 1) := by decide +kernel
theorem dX11_one_168 : decode cX11_one 168 = .ok (.lload_n 1, 1) := by decide +kernel
theorem dX11_one_169 : decode cX11_one 169 = .ok (.lload_n 3, 1) := by decide +kernel
theorem dX11_one_170 : decode cX11_one 170 = .ok (.land, 1) := by decide +kernel
theorem dX11_one_171 : decode cX11_one 171 = .ok (.lreturn, 1) := by decide +kernel
theorem dX11_one_172 : decode cX11_one 172 = .ok (.lload_n 1, 1) := by decide +kernel
theorem dX11_one_173 : decode cX11_one 173 = .ok (.lload_n 3, 1) := by decide +kernel
theorem dX11_one_174 : decode cX11_one 174 = .ok (.lor, 1) := by decide +kernel
theorem dX11_one_175 : decode cX11_one 175 = .ok (.lreturn, 1) := by decide +kernel
theorem dX11_pop_0 : decode cX11_pop 0 = .ok (.aload_n 0, 1) := by decide +kernel
theorem dX11_pop_1 : decode cX11_pop 1 = .ok (.dup, 1) := by decide +kernel
theorem dX11_pop_2 : decode cX11_pop 2 = .ok (.getfield 270, 3) := by decide +kernel
theorem dX11_pop_5 : decode cX11_pop 5 = .ok (.iconst 1, 1) := by decide +kernel
theorem dX11_pop_6 : decode cX11_pop 6 = .ok (.isub, 1) := by decide +kernel
theorem dX11_pop_7 : decode cX11_pop 7 = .ok (.putfield 270, 3) := by decide +kernel
theorem dX11_pop_10 : decode cX11_pop 10 = .ok (.aload_n 0, 1) := by decide +kernel
theorem dX11_pop_11 : decode cX11_pop 11 = .ok (.getfield 32, 3) := by decide +kernel
theorem dX11_pop_14 : decode cX11_pop 14 = .ok (.aload_n 0, 1) := by decide +kernel
theorem dX11_pop_15 : decode cX11_pop 15 = .ok (.getfield 270, 3) := by decide +kernel
theorem dX11_pop_18 : decode cX11_pop 18 = .ok (.laload, 1) := by decide +kernel
theorem dX11_pop_19 : decode cX11_pop 19 = .ok (.lreturn, 1) := by decide +kernel
theorem dX11_push_0 : decode cX11_push 0 = .ok (.aload_n 0, 1) := by decide +kernel
theorem dX11_push_1 : decode cX11_push 1 = .ok (.getfield 32, 3) := by decide +kernel
theorem dX11_push_4 : decode cX11_push 4 = .ok (.aload_n 0, 1) := by decide +kernel
theorem dX11_push_5 : decode cX11_push 5 = .ok (.getfield 270, 3) := by decide +kernel
theorem dX11_push_8 : decode cX11_push 8 = .ok (.lload_n 1, 1) := by decide +kernel
theorem dX11_push_9 : decode cX11_push 9 = .ok (.lastore, 1) := by decide +kernel
theorem dX11_push_10 : decode cX11_push 10 = .ok (.aload_n 0, 1) := by decide +kernel
theorem dX11_push_11 : decode cX11_push 11 = .ok (.dup, 1) := by decide +kernel
theorem dX11_push_12 : decode cX11_push 12 = .ok (.getfield 270, 3) := by decide +kernel
theorem dX11_push_15 : decode cX11_push 15 = .ok (.iconst 1, 1) := by decide +kernel
theorem dX11_push_16 : decode cX11_push 16 = .ok (.iadd, 1) := by decide +kernel
theorem dX11_push_17 : decode cX11_push 17 = .ok (.putfield 270, 3) := by decide +kernel
theorem dX11_push_20 : decode cX11_push 20 = .ok (.return_, 1) := by decide +kernel
theorem sw_2_14 (x : Int32) (h1 : ¬ x.toInt < 2) (h2 : ¬ 14 < x.toInt) : x = 2 ∨ x = 3 ∨ x = 4 ∨ x = 5 ∨ x = 6 ∨ x = 7 ∨ x = 8 ∨ x = 9 ∨ x = 10 ∨ x = 11 ∨ x = 12 ∨ x = 13 ∨ x = 14 := by
  have h := (Int32.ofInt_toInt x).symm
  have h3 : ∃ n : Int, n = x.toInt := ⟨_, rfl⟩
  obtain ⟨n, hn⟩ := h3
  rw [← hn] at h h1 h2
  have h4 : n = 2 ∨ n = 3 ∨ n = 4 ∨ n = 5 ∨ n = 6 ∨ n = 7 ∨ n = 8 ∨ n = 9 ∨ n = 10 ∨ n = 11 ∨ n = 12 ∨ n = 13 ∨ n = 14 := by omega
  subst h
  clear hn
  rcases h4 with rfl | rfl | rfl | rfl | rfl | rfl | rfl | rfl | rfl | rfl | rfl | rfl | rfl <;> simp
theorem tz_0 (a : Int) : (0 : Int32).toInt = a - a := by
  have e0 : (0 : Int32).toInt = 0 := by decide
  omega
theorem iv_sh {T T' : Int32} {lo hi : Int} (d : Int) (h : T'.toInt = T.toInt + d) (b : iv lo hi T) {lo' hi' : Int} (h1 : lo' ≤ lo + d) (h2 : hi + d ≤ hi') : iv lo' hi' T' := ⟨by have := b.1; omega, by have := b.2; omega⟩
theorem rd2 {z : TS} (o : Ok z) {j : Nat} (r : Nat) (hj : ro j = r) {i : Int32} {w y : Int} (A S T L H L' H' : Int) {lo hi : Int} (bw : L ≤ w ∧ w ≤ H) (by_ : L' ≤ y ∧ y ≤ H') (e : i.toInt = A + S * w + T * y) (hd : ∀ n : Nat, n < (H - L + 1).toNat → ∀ m : Nat, m < (H' - L' + 1).toNat → lo ≤ alo r (A + S * (L + n) + T * (L' + m)).toNat ∧ ahi r (A + S * (L + n) + T * (L' + m)).toNat ≤ hi) : iv lo hi (tA z j i.toNatClampNeg) := by
  have h := o.a r hj i.toNatClampNeg
  have q := hd (w - L).toNat (by omega) (y - L').toNat (by omega)
  have e2 : (L + ((w - L).toNat : Int)) = w := by omega
  have e3 : (L' + ((y - L').toNat : Int)) = y := by omega
  rw [e2, e3, ← e] at q
  exact iv_mono h q.1 q.2
theorem dl_p {s : Int32} (h : s &&& 15 = 0 ∨ s &&& 15 = 1) : dl s = 1 := by unfold dl; rw [if_pos h]
theorem dl_n {s : Int32} (h : s &&& 15 = 11) : dl s = 0 ∧ ndd s = 1 := by
  have q : ¬ (s &&& 15 = 0 ∨ s &&& 15 = 1) := by rw [h]; decide
  unfold dl ndd; rw [if_neg q, if_neg q, if_pos h, if_pos h]; exact ⟨rfl, rfl⟩
theorem dl_b {s : Int32} (h0 : ¬ s &&& 15 = 0) (h1 : ¬ s &&& 15 = 1) (h : ¬ s &&& 15 = 11) : dl s = -1 ∧ ndd s = 2 := by
  have q : ¬ (s &&& 15 = 0 ∨ s &&& 15 = 1) := fun w => w.elim h0 h1
  unfold dl ndd; rw [if_neg q, if_neg q, if_neg h, if_neg h]; exact ⟨rfl, rfl⟩
theorem ndd_0 (s : Int32) : 0 ≤ ndd s := by
  unfold ndd; split
  · decide
  · split <;> decide
theorem rk_at {z zz : TS} {x1 x2 x3 y idx v s w T : Int32} (hc : clk (sgn z x1.toNatClampNeg) x2.toNatClampNeg x3.toNatClampNeg) (b1 : iv 0 5 x1) (b2 : iv 0 400 x2) (b3 : iv 0 400 x3) (by_ : iv 0 400 y) (ge : x2.toInt ≤ y.toInt) (lt : ¬ x3 ≤ y) (row : tA zz 388 = tA z 388) (ev : v = tA zz 388 idx.toNatClampNeg) (ei : idx.toInt = 400 * x1.toInt + y.toInt) (es : s = v &&& 15) (ew : w = v >>> ((4 : Int32) &&& 31)) (tp : T.toInt = Gt (sgn z x1.toNatClampNeg) y.toNatClampNeg - Gt (sgn z x1.toNatClampNeg) x2.toNatClampNeg) :
    (s = 0 → iv 0 63 T ∧ Gt (sgn z x1.toNatClampNeg) (y.toNatClampNeg + 1) = Gt (sgn z x1.toNatClampNeg) y.toNatClampNeg + 1) ∧ (s = 1 → iv 0 63 T ∧ Gt (sgn z x1.toNatClampNeg) (y.toNatClampNeg + 1) = Gt (sgn z x1.toNatClampNeg) y.toNatClampNeg + 1) ∧ (s = 1 → iv 0 10 w) ∧ (s = 11 → iv 1 64 T ∧ Gt (sgn z x1.toNatClampNeg) (y.toNatClampNeg + 1) = Gt (sgn z x1.toNatClampNeg) y.toNatClampNeg + 0) ∧ (¬ s = 0 → ¬ s = 1 → ¬ s = 11 → iv 2 64 T ∧ Gt (sgn z x1.toNatClampNeg) (y.toNatClampNeg + 1) = Gt (sgn z x1.toNatClampNeg) y.toNatClampNeg + (-1)) := by
  have n1 := iv_nat b1 (by decide)
  have n2 := iv_nat b2 (by decide)
  have n3 := iv_nat b3 (by decide)
  have ny := iv_nat by_ (by decide)
  have ni : idx.toNatClampNeg = 400 * x1.toNatClampNeg + y.toNatClampNeg := by
    have e : idx.toNatClampNeg = idx.toInt.toNat := rfl
    omega
  have l3 := Int32.lt_iff_toInt_lt.mp (Int32.not_le.mp lt)
  have fv : sgn z x1.toNatClampNeg y.toNatClampNeg = v := by rw [ev, row, ni]; rfl
  obtain ⟨g1, g2⟩ := hc.2.2.1 y.toNatClampNeg (by omega) (by omega)
  have u := hc.2.2.2.1 y.toNatClampNeg (by omega) (by omega)
  have st : Gt (sgn z x1.toNatClampNeg) (y.toNatClampNeg + 1) = Gt (sgn z x1.toNatClampNeg) y.toNatClampNeg + dl v := by rw [← fv]; rfl
  rw [fv] at g1 g2
  have z0 := ndd_0 v
  refine ⟨fun h => ?_, fun h => ?_, fun h => ?_, fun h => ?_, fun h0 h1 h2 => ?_⟩
  · rw [st, dl_p (Or.inl (es.symm.trans h))]; exact ⟨⟨by omega, by omega⟩, rfl⟩
  · rw [st, dl_p (Or.inr (es.symm.trans h))]; exact ⟨⟨by omega, by omega⟩, rfl⟩
  · rw [ew]; exact g2 (es.symm.trans h)
  · obtain ⟨d1, d2⟩ := dl_n (es.symm.trans h)
    rw [st, d1]; exact ⟨⟨by omega, by omega⟩, rfl⟩
  · obtain ⟨d1, d2⟩ := dl_b (fun q => h0 (es.trans q)) (fun q => h1 (es.trans q)) (fun q => h2 (es.trans q))
    rw [st, d1]; exact ⟨⟨by omega, by omega⟩, rfl⟩
theorem rk_end {z : TS} {x1 x2 x3 y T : Int32} (hc : clk (sgn z x1.toNatClampNeg) x2.toNatClampNeg x3.toNatClampNeg) (b3 : iv 0 400 x3) (le : y.toInt ≤ x3.toInt) (c : x3 ≤ y) (tp : T.toInt = Gt (sgn z x1.toNatClampNeg) y.toNatClampNeg - Gt (sgn z x1.toNatClampNeg) x2.toNatClampNeg) : iv 1 64 T := by
  have e : y = x3 := Int32.toInt_inj.mp (by have := Int32.le_iff_toInt_le.mp c; omega)
  subst e
  have u := hc.2.2.2.1 y.toNatClampNeg hc.1 (Nat.le_refl _)
  have w := hc.2.2.2.2
  exact ⟨by omega, by omega⟩
theorem smb_a {z u : TS} (wf : WFc z) (k : KQ z u) {t c i1 i2 v1 v2 : Int32} (bt : iv 0 5 t) (bc : iv 0 12 c) (hlt : c.toInt < (tA z 391 t.toNatClampNeg).toInt) (e1 : i1.toInt = 48 * t.toInt + 4 * c.toInt) (e2 : i2.toInt = 48 * t.toInt + 4 * c.toInt + 1) (h1 : v1 = tA u 390 i1.toNatClampNeg) (h2 : v2 = tA u 390 i2.toNatClampNeg) : clk (sgn u t.toNatClampNeg) v1.toNatClampNeg v2.toNatClampNeg := by
  have nt := iv_nat bt (by decide)
  have nc := iv_nat bc (by decide)
  have bt2 := bt.2
  have q := (wf t.toNatClampNeg (by omega) c.toNatClampNeg (by omega)).1
  have n1 : i1.toNatClampNeg = 48 * t.toNatClampNeg + 4 * c.toNatClampNeg := by
    have e : i1.toNatClampNeg = i1.toInt.toNat := rfl
    omega
  have n2 : i2.toNatClampNeg = 48 * t.toNatClampNeg + 4 * c.toNatClampNeg + 1 := by
    have e : i2.toNatClampNeg = i2.toInt.toNat := rfl
    omega
  unfold cle at q
  rw [sgn_ka k.2.1 rfl, h1, h2, (k.2.1 390 rfl).1, n1, n2]
  exact q
theorem smb_b {z u : TS} (wf : WFc z) (k : KQ z u) {t c i1 i2 v1 v2 : Int32} (bt : iv 0 5 t) (bc : iv 0 12 c) (hlt : c.toInt < (tA z 391 t.toNatClampNeg).toInt) (e1 : i1.toInt = 48 * t.toInt + 4 * c.toInt + 2) (e2 : i2.toInt = 48 * t.toInt + 4 * c.toInt + 3) (h1 : v1 = tA u 390 i1.toNatClampNeg) (h2 : v2 = tA u 390 i2.toNatClampNeg) (b1 : iv 0 400 v1) : clk (sgn u t.toNatClampNeg) v1.toNatClampNeg v2.toNatClampNeg := by
  have nt := iv_nat bt (by decide)
  have nc := iv_nat bc (by decide)
  have bt2 := bt.2
  have q := (wf t.toNatClampNeg (by omega) c.toNatClampNeg (by omega)).2.2
  have n1 : i1.toNatClampNeg = 48 * t.toNatClampNeg + 4 * c.toNatClampNeg + 2 := by
    have e : i1.toNatClampNeg = i1.toInt.toNat := rfl
    omega
  have n2 : i2.toNatClampNeg = 48 * t.toNatClampNeg + 4 * c.toNatClampNeg + 3 := by
    have e : i2.toNatClampNeg = i2.toInt.toNat := rfl
    omega
  have hv : v1 = tA z 390 (48 * t.toNatClampNeg + 4 * c.toNatClampNeg + 2) := by rw [h1, (k.2.1 390 rfl).1, n1]
  rw [← hv] at q
  have b11 := b1.1
  rcases q with q | q
  · omega
  · unfold cle at q
    rw [sgn_ka k.2.1 rfl, h2, (k.2.1 390 rfl).1, n2, hv]
    exact q.1
theorem smb_lt {z u : TS} (k : KQ z u) {t c v : Int32} (hv : v = tA u 391 t.toNatClampNeg) (h : ¬ v ≤ c) : c.toInt < (tA z 391 t.toNatClampNeg).toInt := by
  rw [← (k.2.1 391 rfl).1, ← hv]
  exact Int32.lt_iff_toInt_lt.mp (Int32.not_le.mp h)
set_option maxHeartbeats 4000000 in
set_option maxRecDepth 100000 in
theorem v_push (l : Launch) (D : va_G) (K : Nat → ClassId) (ad : Nat → Nat) (z : TS) (o : Ok z) (w1 : Int64) (ht : iv 0 63 (tI z 386 18)) : cV l yX11_push cX11_push 3 ({ frames := 0, cells := 0, slots := 0, locals := 0 }) D K ad z [.ref (ad 386), .long w1] (fun u => Ok u ∧ KQ z u ∧ ((tI u 386 18).toInt = (tI z 386 18).toInt + 1)) := by
  refine t_enterV (by decide) (Nat.le_of_ble_eq_true rfl) rfl rfl ?_
  intro p e s m args below meth c A R Q H locs ls E hfr hlo RET G hl
  have E : mE p s m meth c cX11_push args 3 RX11 D K A := E
  have hl : lv_has ls 3 [(0, .ref (ad 386)), (1, .long w1)] := hl
  refine lv_aload_n E.1 E.2.1 dX11_push_0 rfl (lv_at hl 0 rfl) ?_
  refine t_get E G 11 17 (rfl : ro 386 = 11) (C := RX11) (T := TX11) (N := 37) rfl (by decide) (by decide) (by decide) mw_fl_11_32 (v := .ref (ad 394)) (fvl_o (n := 8) rfl) dX11_push_1 ?_
  refine lv_aload_n E.1 E.2.1 dX11_push_4 rfl (lv_at hl 0 rfl) ?_
  refine t_get E G 11 18 (rfl : ro 386 = 11) (C := RX11) (T := TX11) (N := 37) rfl (by decide) (by decide) (by decide) mw_fl_11_270 (fvl_i rfl) dX11_push_5 ?_
  refine lv_topi (fun v1 e2 => ?_)
  have b3 : iv 0 64 v1 := by rw [e2]; exact o.i 11 18 (rfl : ro 386 = 11)
  have b4 : iv 0 63 v1 := by rw [(e2.trans rfl)]; exact ht
  refine lv_lload_n E.1 E.2.1 dX11_push_8 rfl (lv_at hl 1 rfl) ?_
  refine t_last E G 52 (rfl : ro 394 = 52) (by decide) (by decide) rfl (n := 64) rfl (iv_vp b4 (by decide) (by decide)) dX11_push_9 (fun H locs G => ?_)
  obtain ⟨zz5, G, oo6, kk7, h8⟩ : ∃ u : TS, mG D A s H locs (wd K ad u) ∧ Ok u ∧ KQ z u ∧ tI u 386 18 = v1 := ⟨_, G, ok_l o, KF.tr KF.rf (KF_l 52 (rfl : ro 394 = 52) (by decide)), e2.symm⟩
  refine lv_aload_n E.1 E.2.1 dX11_push_10 rfl (lv_at hl 0 rfl) ?_
  refine lv_dup E.1 E.2.1 dX11_push_11 rfl ?_
  refine t_get E G 11 18 (rfl : ro 386 = 11) (C := RX11) (T := TX11) (N := 37) rfl (by decide) (by decide) (by decide) mw_fl_11_270 (fvl_i rfl) dX11_push_12 ?_
  refine m_ci v1 h8 ?_
  refine lv_iconst (v := 1) E.1 E.2.1 dX11_push_15 (by decide) ?_
  refine lv_iadd E.1 E.2.1 dX11_push_16 ?_
  refine lv_topi (fun v9 e10 => ?_)
  have b11 : iv 1 64 v9 := by rw [e10]; exact iv_add b4 (iv_lit (lo := 1) (hi := 1) 1 (by decide) (by decide)) (by decide) (by decide) (by decide) (by decide)
  have l12 : v9.toInt = 1 + 1 * v1.toInt := (show v9.toInt = v1.toInt + 1 by rw [e10]; exact ti_addc 1 (by decide) b4 (by decide) (by decide)).trans (by omega)
  refine t_puti E G 11 18 (rfl : ro 386 = 11) (C := RX11) (T := TX11) (N := 37) rfl (by decide) (by decide) (by decide) rfl rfl mw_fl_11_270 rfl dX11_push_17 (fun H locs G => ?_)
  obtain ⟨zz13, G, oo14, kk15, h16⟩ : ∃ u : TS, mG D A s H locs (wd K ad u) ∧ Ok u ∧ KQ z u ∧ tI u 386 18 = v9 := ⟨_, G, ok_i oo6 11 (rfl : ro 386 = 11) (iv_mono b11 (by decide) (by decide)) (by decide), KF.tr kk7 (KF_i 11 (rfl : ro 386 = 11) (by decide)), sI_self⟩
  exact RET G ⟨oo14, kk15, (by have q := congrArg Int32.toInt (e2.trans rfl); have q2 := congrArg Int32.toInt h16; omega)⟩ dX11_push_20
set_option maxHeartbeats 4000000 in
set_option maxRecDepth 100000 in
theorem v_pop (l : Launch) (D : va_G) (K : Nat → ClassId) (ad : Nat → Nat) (z : TS) (o : Ok z) (ht : iv 1 64 (tI z 386 18)) : cL l yX11_pop cX11_pop 1 ({ frames := 0, cells := 0, slots := 0, locals := 0 }) D K ad z [.ref (ad 386)] (fun r u => Ok u ∧ KQ z u ∧ ((tI u 386 18).toInt = (tI z 386 18).toInt + (-1))) := by
  refine t_enterL (by decide) (Nat.le_of_ble_eq_true rfl) rfl rfl ?_
  intro p e s m args below meth c A R Q H locs ls E hfr hlo RET G hl
  have E : mE p s m meth c cX11_pop args 1 RX11 D K A := E
  have hl : lv_has ls 1 [(0, .ref (ad 386))] := hl
  refine lv_aload_n E.1 E.2.1 dX11_pop_0 rfl (lv_at hl 0 rfl) ?_
  refine lv_dup E.1 E.2.1 dX11_pop_1 rfl ?_
  refine t_get E G 11 18 (rfl : ro 386 = 11) (C := RX11) (T := TX11) (N := 37) rfl (by decide) (by decide) (by decide) mw_fl_11_270 (fvl_i rfl) dX11_pop_2 ?_
  refine lv_topi (fun v1 e2 => ?_)
  have b3 : iv 0 64 v1 := by rw [e2]; exact o.i 11 18 (rfl : ro 386 = 11)
  have b4 : iv 1 64 v1 := by rw [(e2.trans rfl)]; exact ht
  refine lv_iconst (v := 1) E.1 E.2.1 dX11_pop_5 (by decide) ?_
  refine lv_isub E.1 E.2.1 dX11_pop_6 ?_
  refine lv_topi (fun v5 e6 => ?_)
  have b7 : iv 0 63 v5 := by rw [e6]; exact iv_sub b4 (iv_lit (lo := 1) (hi := 1) 1 (by decide) (by decide)) (by decide) (by decide) (by decide) (by decide)
  have l8 : v5.toInt = (-1) + 1 * v1.toInt := (show v5.toInt = v1.toInt - 1 by rw [e6]; exact ti_subc 1 (by decide) b4 (by decide) (by decide)).trans (by omega)
  refine t_puti E G 11 18 (rfl : ro 386 = 11) (C := RX11) (T := TX11) (N := 37) rfl (by decide) (by decide) (by decide) rfl rfl mw_fl_11_270 rfl dX11_pop_7 (fun H locs G => ?_)
  obtain ⟨zz9, G, oo10, kk11, h12⟩ : ∃ u : TS, mG D A s H locs (wd K ad u) ∧ Ok u ∧ KQ z u ∧ tI u 386 18 = v5 := ⟨_, G, ok_i o 11 (rfl : ro 386 = 11) (iv_mono b7 (by decide) (by decide)) (by decide), KF.tr KF.rf (KF_i 11 (rfl : ro 386 = 11) (by decide)), sI_self⟩
  refine lv_aload_n E.1 E.2.1 dX11_pop_10 rfl (lv_at hl 0 rfl) ?_
  refine t_get E G 11 17 (rfl : ro 386 = 11) (C := RX11) (T := TX11) (N := 37) rfl (by decide) (by decide) (by decide) mw_fl_11_32 (v := .ref (ad 394)) (fvl_o (n := 8) rfl) dX11_pop_11 ?_
  refine lv_aload_n E.1 E.2.1 dX11_pop_14 rfl (lv_at hl 0 rfl) ?_
  refine t_get E G 11 18 (rfl : ro 386 = 11) (C := RX11) (T := TX11) (N := 37) rfl (by decide) (by decide) (by decide) mw_fl_11_270 (fvl_i rfl) dX11_pop_15 ?_
  refine m_ci v5 h12 ?_
  refine t_lald E G 52 (rfl : ro 394 = 52) (by decide) (by decide) rfl (n := 64) rfl (iv_vp b7 (by decide) (by decide)) dX11_pop_18 ?_
  refine lv_topl (fun v13 _ => ?_)
  exact RET G ⟨oo10, kk11, (by have q := congrArg Int32.toInt (e2.trans rfl); have q2 := congrArg Int32.toInt h12; omega)⟩ dX11_pop_19
set_option maxHeartbeats 4000000 in
set_option maxRecDepth 100000 in
theorem v_one (l : Launch) (D : va_G) (K : Nat → ClassId) (ad : Nat → Nat) (z : TS) (o : Ok z) (x1 : Int32) (w1 : Int64) (w2 : Int64) : cL l yX11_one cX11_one 5 ({ frames := 0, cells := 0, slots := 0, locals := 0 }) D K ad z [.int x1, .long w1, .long w2] (fun r u => u = z) := by
  refine t_enterL (by decide) (Nat.le_of_ble_eq_true rfl) rfl rfl ?_
  intro p e s m args below meth c A R Q H locs ls E hfr hlo RET G hl
  have E : mE p s m meth c cX11_one args 5 RX11 D K A := E
  have hl : lv_has ls 5 [(0, .int x1), (1, .long w1), (3, .long w2)] := hl
  refine lv_iload_n E.1 E.2.1 dX11_one_0 rfl (lv_at hl 0 rfl) ?_
  rcases Decidable.em (x1.toInt < 2 ∨ 14 < x1.toInt) with c1 | c1
  · refine lv_tableOut (tgt := 172) E.1 E.2.1 dX11_one_1 c1 (by decide) ?_
    refine lv_lload_n E.1 E.2.1 dX11_one_172 rfl (lv_at hl 1 rfl) ?_
    refine lv_lload_n E.1 E.2.1 dX11_one_173 rfl (lv_at hl 2 rfl) ?_
    refine lv_lor E.1 E.2.1 dX11_one_174 ?_
    refine lv_topl (fun v2 _ => ?_)
    exact RET G rfl dX11_one_175
  · rcases sw_2_14 x1 (fun h => c1 (Or.inl h)) (fun h => c1 (Or.inr h)) with ee0 | ee1 | ee2 | ee3 | ee4 | ee5 | ee6 | ee7 | ee8 | ee9 | ee10 | ee11 | ee12
    · refine lv_tableIn (off := 67) (tgt := 68) E.1 E.2.1 dX11_one_1 (by rw [ee0]; decide) (by rw [ee0]; decide) (by rw [ee0]; decide) (by decide) ?_
      refine lv_lload_n E.1 E.2.1 dX11_one_68 rfl (lv_at hl 1 rfl) ?_
      refine lv_lload_n E.1 E.2.1 dX11_one_69 rfl (lv_at hl 2 rfl) ?_
      refine lv_ladd E.1 E.2.1 dX11_one_70 ?_
      refine lv_topl (fun v4 _ => ?_)
      exact RET G rfl dX11_one_71
    · refine lv_tableIn (off := 71) (tgt := 72) E.1 E.2.1 dX11_one_1 (by rw [ee1]; decide) (by rw [ee1]; decide) (by rw [ee1]; decide) (by decide) ?_
      refine lv_lload_n E.1 E.2.1 dX11_one_72 rfl (lv_at hl 1 rfl) ?_
      refine lv_lload_n E.1 E.2.1 dX11_one_73 rfl (lv_at hl 2 rfl) ?_
      refine lv_lsub E.1 E.2.1 dX11_one_74 ?_
      refine lv_topl (fun v5 _ => ?_)
      exact RET G rfl dX11_one_75
    · refine lv_tableIn (off := 75) (tgt := 76) E.1 E.2.1 dX11_one_1 (by rw [ee2]; decide) (by rw [ee2]; decide) (by rw [ee2]; decide) (by decide) ?_
      refine lv_lload_n E.1 E.2.1 dX11_one_76 rfl (lv_at hl 1 rfl) ?_
      refine lv_lload_n E.1 E.2.1 dX11_one_77 rfl (lv_at hl 2 rfl) ?_
      refine lv_lmul E.1 E.2.1 dX11_one_78 ?_
      refine lv_topl (fun v6 _ => ?_)
      exact RET G rfl dX11_one_79
    · refine lv_tableIn (off := 79) (tgt := 80) E.1 E.2.1 dX11_one_1 (by rw [ee3]; decide) (by rw [ee3]; decide) (by rw [ee3]; decide) (by decide) ?_
      refine lv_lload_n E.1 E.2.1 dX11_one_80 rfl (lv_at hl 2 rfl) ?_
      refine lv_lconst (v := 0) E.1 E.2.1 dX11_one_81 (by decide) ?_
      refine W.lcmp E.1 E.2.1 dX11_one_82 ?_
      refine lv_topi (fun v7 e8 => ?_)
      have b9 : iv (-1) 1 v7 := by rw [e8]; exact lgc_iv _ _
      refine lv_if_ne (tgt := 90) E.1 E.2.1 dX11_one_83 (by decide) (fun c10 => ?_) (fun c10 => ?_)
      · skip
        refine lv_lload_n E.1 E.2.1 dX11_one_90 rfl (lv_at hl 1 rfl) ?_
        refine lv_lload_n E.1 E.2.1 dX11_one_91 rfl (lv_at hl 2 rfl) ?_
        refine lv_ldiv E.1 E.2.1 dX11_one_92 (fun q => c10 (by rw [e8, q]; decide)) ?_
        refine lv_topl (fun v11 _ => ?_)
        exact RET G rfl dX11_one_93
      · skip
        have b12 : iv 0 0 v7 := iv_eq c10 (iv_lit (lo := 0) (hi := 0) 0 (by decide) (by decide))
        refine lv_lconst (v := 0) E.1 E.2.1 dX11_one_86 (by decide) ?_
        refine lv_goto (tgt := 93) E.1 E.2.1 dX11_one_87 (by decide) ?_
        exact RET G rfl dX11_one_93
    · refine lv_tableIn (off := 107) (tgt := 108) E.1 E.2.1 dX11_one_1 (by rw [ee4]; decide) (by rw [ee4]; decide) (by rw [ee4]; decide) (by decide) ?_
      refine lv_lload_n E.1 E.2.1 dX11_one_108 rfl (lv_at hl 1 rfl) ?_
      refine lv_lload_n E.1 E.2.1 dX11_one_109 rfl (lv_at hl 2 rfl) ?_
      refine W.lcmp E.1 E.2.1 dX11_one_110 ?_
      refine lv_topi (fun v13 e14 => ?_)
      have b15 : iv (-1) 1 v13 := by rw [e14]; exact lgc_iv _ _
      refine lv_if_ge (tgt := 118) E.1 E.2.1 dX11_one_111 (by decide) (fun c16 => ?_) (fun c16 => ?_)
      · skip
        have b17 : iv 0 1 v13 := le_r c16 (iv_lit (lo := 0) (hi := 0) 0 (by decide) (by decide)) b15 (by decide)
        refine lv_lconst (v := 0) E.1 E.2.1 dX11_one_118 (by decide) ?_
        exact RET G rfl dX11_one_119
      · skip
        have b18 : iv (-1) (-1) v13 := lt_l (Int32.not_le.mp c16) b15 (iv_lit (lo := 0) (hi := 0) 0 (by decide) (by decide)) (by decide)
        refine lv_lconst (v := 1) E.1 E.2.1 dX11_one_114 (by decide) ?_
        refine lv_goto (tgt := 119) E.1 E.2.1 dX11_one_115 (by decide) ?_
        exact RET G rfl dX11_one_119
    · refine lv_tableIn (off := 119) (tgt := 120) E.1 E.2.1 dX11_one_1 (by rw [ee5]; decide) (by rw [ee5]; decide) (by rw [ee5]; decide) (by decide) ?_
      refine lv_lload_n E.1 E.2.1 dX11_one_120 rfl (lv_at hl 1 rfl) ?_
      refine lv_lload_n E.1 E.2.1 dX11_one_121 rfl (lv_at hl 2 rfl) ?_
      refine W.lcmp E.1 E.2.1 dX11_one_122 ?_
      refine lv_topi (fun v19 e20 => ?_)
      have b21 : iv (-1) 1 v19 := by rw [e20]; exact lgc_iv _ _
      refine lv_if_gt (tgt := 130) E.1 E.2.1 dX11_one_123 (by decide) (fun c22 => ?_) (fun c22 => ?_)
      · skip
        have b23 : iv 1 1 v19 := lt_r c22 (iv_lit (lo := 0) (hi := 0) 0 (by decide) (by decide)) b21 (by decide)
        refine lv_lconst (v := 0) E.1 E.2.1 dX11_one_130 (by decide) ?_
        exact RET G rfl dX11_one_131
      · skip
        have b24 : iv (-1) 0 v19 := le_l (Int32.not_lt.mp c22) b21 (iv_lit (lo := 0) (hi := 0) 0 (by decide) (by decide)) (by decide)
        refine lv_lconst (v := 1) E.1 E.2.1 dX11_one_126 (by decide) ?_
        refine lv_goto (tgt := 131) E.1 E.2.1 dX11_one_127 (by decide) ?_
        exact RET G rfl dX11_one_131
    · refine lv_tableIn (off := 131) (tgt := 132) E.1 E.2.1 dX11_one_1 (by rw [ee6]; decide) (by rw [ee6]; decide) (by rw [ee6]; decide) (by decide) ?_
      refine lv_lload_n E.1 E.2.1 dX11_one_132 rfl (lv_at hl 1 rfl) ?_
      refine lv_lload_n E.1 E.2.1 dX11_one_133 rfl (lv_at hl 2 rfl) ?_
      refine W.lcmp E.1 E.2.1 dX11_one_134 ?_
      refine lv_topi (fun v25 e26 => ?_)
      have b27 : iv (-1) 1 v25 := by rw [e26]; exact lgc_iv _ _
      refine lv_if_ne (tgt := 142) E.1 E.2.1 dX11_one_135 (by decide) (fun c28 => ?_) (fun c28 => ?_)
      · skip
        refine lv_lconst (v := 0) E.1 E.2.1 dX11_one_142 (by decide) ?_
        exact RET G rfl dX11_one_143
      · skip
        have b29 : iv 0 0 v25 := iv_eq c28 (iv_lit (lo := 0) (hi := 0) 0 (by decide) (by decide))
        refine lv_lconst (v := 1) E.1 E.2.1 dX11_one_138 (by decide) ?_
        refine lv_goto (tgt := 143) E.1 E.2.1 dX11_one_139 (by decide) ?_
        exact RET G rfl dX11_one_143
    · refine lv_tableIn (off := 143) (tgt := 144) E.1 E.2.1 dX11_one_1 (by rw [ee7]; decide) (by rw [ee7]; decide) (by rw [ee7]; decide) (by decide) ?_
      refine lv_lload_n E.1 E.2.1 dX11_one_144 rfl (lv_at hl 1 rfl) ?_
      refine lv_lload_n E.1 E.2.1 dX11_one_145 rfl (lv_at hl 2 rfl) ?_
      refine W.lcmp E.1 E.2.1 dX11_one_146 ?_
      refine lv_topi (fun v30 e31 => ?_)
      have b32 : iv (-1) 1 v30 := by rw [e31]; exact lgc_iv _ _
      refine lv_if_lt (tgt := 154) E.1 E.2.1 dX11_one_147 (by decide) (fun c33 => ?_) (fun c33 => ?_)
      · skip
        have b34 : iv (-1) (-1) v30 := lt_l c33 b32 (iv_lit (lo := 0) (hi := 0) 0 (by decide) (by decide)) (by decide)
        refine lv_lconst (v := 0) E.1 E.2.1 dX11_one_154 (by decide) ?_
        exact RET G rfl dX11_one_155
      · skip
        have b35 : iv 0 1 v30 := le_r (Int32.not_lt.mp c33) (iv_lit (lo := 0) (hi := 0) 0 (by decide) (by decide)) b32 (by decide)
        refine lv_lconst (v := 1) E.1 E.2.1 dX11_one_150 (by decide) ?_
        refine lv_goto (tgt := 155) E.1 E.2.1 dX11_one_151 (by decide) ?_
        exact RET G rfl dX11_one_155
    · refine lv_tableIn (off := 155) (tgt := 156) E.1 E.2.1 dX11_one_1 (by rw [ee8]; decide) (by rw [ee8]; decide) (by rw [ee8]; decide) (by decide) ?_
      refine lv_lload_n E.1 E.2.1 dX11_one_156 rfl (lv_at hl 1 rfl) ?_
      refine lv_lload_n E.1 E.2.1 dX11_one_157 rfl (lv_at hl 2 rfl) ?_
      refine W.lcmp E.1 E.2.1 dX11_one_158 ?_
      refine lv_topi (fun v36 e37 => ?_)
      have b38 : iv (-1) 1 v36 := by rw [e37]; exact lgc_iv _ _
      refine lv_if_le (tgt := 166) E.1 E.2.1 dX11_one_159 (by decide) (fun c39 => ?_) (fun c39 => ?_)
      · skip
        have b40 : iv (-1) 0 v36 := le_l c39 b38 (iv_lit (lo := 0) (hi := 0) 0 (by decide) (by decide)) (by decide)
        refine lv_lconst (v := 0) E.1 E.2.1 dX11_one_166 (by decide) ?_
        exact RET G rfl dX11_one_167
      · skip
        have b41 : iv 1 1 v36 := lt_r (Int32.not_le.mp c39) (iv_lit (lo := 0) (hi := 0) 0 (by decide) (by decide)) b38 (by decide)
        refine lv_lconst (v := 1) E.1 E.2.1 dX11_one_162 (by decide) ?_
        refine lv_goto (tgt := 167) E.1 E.2.1 dX11_one_163 (by decide) ?_
        exact RET G rfl dX11_one_167
    · refine lv_tableIn (off := 171) (tgt := 172) E.1 E.2.1 dX11_one_1 (by rw [ee9]; decide) (by rw [ee9]; decide) (by rw [ee9]; decide) (by decide) ?_
      refine lv_lload_n E.1 E.2.1 dX11_one_172 rfl (lv_at hl 1 rfl) ?_
      refine lv_lload_n E.1 E.2.1 dX11_one_173 rfl (lv_at hl 2 rfl) ?_
      refine lv_lor E.1 E.2.1 dX11_one_174 ?_
      refine lv_topl (fun v42 _ => ?_)
      exact RET G rfl dX11_one_175
    · refine lv_tableIn (off := 167) (tgt := 168) E.1 E.2.1 dX11_one_1 (by rw [ee10]; decide) (by rw [ee10]; decide) (by rw [ee10]; decide) (by decide) ?_
      refine lv_lload_n E.1 E.2.1 dX11_one_168 rfl (lv_at hl 1 rfl) ?_
      refine lv_lload_n E.1 E.2.1 dX11_one_169 rfl (lv_at hl 2 rfl) ?_
      refine lv_land E.1 E.2.1 dX11_one_170 ?_
      refine lv_topl (fun v43 _ => ?_)
      exact RET G rfl dX11_one_171
    · refine lv_tableIn (off := 171) (tgt := 172) E.1 E.2.1 dX11_one_1 (by rw [ee11]; decide) (by rw [ee11]; decide) (by rw [ee11]; decide) (by decide) ?_
      refine lv_lload_n E.1 E.2.1 dX11_one_172 rfl (lv_at hl 1 rfl) ?_
      refine lv_lload_n E.1 E.2.1 dX11_one_173 rfl (lv_at hl 2 rfl) ?_
      refine lv_lor E.1 E.2.1 dX11_one_174 ?_
      refine lv_topl (fun v44 _ => ?_)
      exact RET G rfl dX11_one_175
    · refine lv_tableIn (off := 93) (tgt := 94) E.1 E.2.1 dX11_one_1 (by rw [ee12]; decide) (by rw [ee12]; decide) (by rw [ee12]; decide) (by decide) ?_
      refine lv_lload_n E.1 E.2.1 dX11_one_94 rfl (lv_at hl 2 rfl) ?_
      refine lv_lconst (v := 0) E.1 E.2.1 dX11_one_95 (by decide) ?_
      refine W.lcmp E.1 E.2.1 dX11_one_96 ?_
      refine lv_topi (fun v45 e46 => ?_)
      have b47 : iv (-1) 1 v45 := by rw [e46]; exact lgc_iv _ _
      refine lv_if_ne (tgt := 104) E.1 E.2.1 dX11_one_97 (by decide) (fun c48 => ?_) (fun c48 => ?_)
      · skip
        refine lv_lload_n E.1 E.2.1 dX11_one_104 rfl (lv_at hl 1 rfl) ?_
        refine lv_lload_n E.1 E.2.1 dX11_one_105 rfl (lv_at hl 2 rfl) ?_
        refine lv_lrem E.1 E.2.1 dX11_one_106 (fun q => c48 (by rw [e46, q]; decide)) ?_
        refine lv_topl (fun v49 _ => ?_)
        exact RET G rfl dX11_one_107
      · skip
        have b50 : iv 0 0 v45 := iv_eq c48 (iv_lit (lo := 0) (hi := 0) 0 (by decide) (by decide))
        refine lv_lconst (v := 0) E.1 E.2.1 dX11_one_100 (by decide) ?_
        refine lv_goto (tgt := 107) E.1 E.2.1 dX11_one_101 (by decide) ?_
        exact RET G rfl dX11_one_107
