theorem mw_fl_9_12 : (Cond.fieldLink RX9 12 "LureTown$TownReader" "tape" "LLureTown$Tape;" : Cond) ∈ cw := cw_of (List.mem_append_right _ (List.mem_append_left _ (List.mem_of_getElem? (i := 182) (by decide +kernel)))) (by decide +kernel)
theorem mw_fl_9_25 : (Cond.fieldLink RX9 25 "LureTown$TownReader" "numbers" "[I" : Cond) ∈ cw := cw_of (List.mem_append_right _ (List.mem_append_left _ (List.mem_of_getElem? (i := 184) (by decide +kernel)))) (by decide +kernel)
theorem mw_fl_9_43 : (Cond.fieldLink RX9 43 "LureTown$Tape" "token" "I" : Cond) ∈ cw := cw_of (List.mem_append_right _ (List.mem_append_left _ (List.mem_of_getElem? (i := 43) (by decide +kernel)))) (by decide +kernel)
theorem mw_fl_9_82 : (Cond.fieldLink RX9 82 "LureTown$Tape" "number" "I" : Cond) ∈ cw := cw_of (List.mem_append_right _ (List.mem_append_left _ (List.mem_of_getElem? (i := 46) (by decide +kernel)))) (by decide +kernel)
theorem mw_ml_9_49 : (Cond.methodLink RX9 49 yX7_readToken : Cond) ∈ cw := cw_of (List.mem_append_right _ (List.mem_append_right _ (List.mem_append_left _ (List.mem_of_getElem? (i := 212) (by decide +kernel))))) (by decide +kernel)
theorem mw_ml_9_52 : (Cond.methodLink RX9 52 yX7_blame : Cond) ∈ cw := cw_of (List.mem_append_right _ (List.mem_append_right _ (List.mem_append_right _ (List.mem_append_left _ (List.mem_of_getElem? (i := 109) (by decide +kernel)))))) (by decide +kernel)
theorem dX9_readNumber_0 : decode cX9_readNumber 0 = .ok (.aload_n 0, 1) := by decide +kernel
theorem dX9_readNumber_1 : decode cX9_readNumber 1 = .ok (.getfield 12, 3) := by decide +kernel
theorem dX9_readNumber_4 : decode cX9_readNumber 4 = .ok (.invokevirtual 49, 3) := by decide +kernel
theorem dX9_readNumber_7 : decode cX9_readNumber 7 = .ok (.aload_n 0, 1) := by decide +kernel
theorem dX9_readNumber_8 : decode cX9_readNumber 8 = .ok (.getfield 12, 3) := by decide +kernel
theorem dX9_readNumber_11 : decode cX9_readNumber 11 = .ok (.getfield 43, 3) := by decide +kernel
theorem dX9_readNumber_14 : decode cX9_readNumber 14 = .ok (.bipush 42, 2) := by decide +kernel
theorem dX9_readNumber_16 : decode cX9_readNumber 16 = .ok (.if_icmp .eq 14, 3) := by decide +kernel
theorem dX9_readNumber_19 : decode cX9_readNumber 19 = .ok (.aload_n 0, 1) := by decide +kernel
theorem dX9_readNumber_20 : decode cX9_readNumber 20 = .ok (.getfield 12, 3) := by decide +kernel
theorem dX9_readNumber_23 : decode cX9_readNumber 23 = .ok (.iconst 0, 1) := by decide +kernel
theorem dX9_readNumber_24 : decode cX9_readNumber 24 = .ok (.invokevirtual 52, 3) := by decide +kernel
theorem dX9_readNumber_27 : decode cX9_readNumber 27 = .ok (.goto 49, 3) := by decide +kernel
theorem dX9_readNumber_30 : decode cX9_readNumber 30 = .ok (.aload_n 0, 1) := by decide +kernel
theorem dX9_readNumber_31 : decode cX9_readNumber 31 = .ok (.getfield 12, 3) := by decide +kernel
theorem dX9_readNumber_34 : decode cX9_readNumber 34 = .ok (.getfield 82, 3) := by decide +kernel
theorem dX9_readNumber_37 : decode cX9_readNumber 37 = .ok (.iload_n 2, 1) := by decide +kernel
theorem dX9_readNumber_38 : decode cX9_readNumber 38 = .ok (.if_icmp .lt 14, 3) := by decide +kernel
theorem dX9_readNumber_41 : decode cX9_readNumber 41 = .ok (.aload_n 0, 1) := by decide +kernel
theorem dX9_readNumber_42 : decode cX9_readNumber 42 = .ok (.getfield 12, 3) := by decide +kernel
theorem dX9_readNumber_45 : decode cX9_readNumber 45 = .ok (.getfield 82, 3) := by decide +kernel
theorem dX9_readNumber_48 : decode cX9_readNumber 48 = .ok (.iload_n 3, 1) := by decide +kernel
theorem dX9_readNumber_49 : decode cX9_readNumber 49 = .ok (.if_icmp .le 14, 3) := by decide +kernel
theorem dX9_readNumber_52 : decode cX9_readNumber 52 = .ok (.aload_n 0, 1) := by decide +kernel
theorem dX9_readNumber_53 : decode cX9_readNumber 53 = .ok (.getfield 12, 3) := by decide +kernel
theorem dX9_readNumber_56 : decode cX9_readNumber 56 = .ok (.iconst 1, 1) := by decide +kernel
theorem dX9_readNumber_57 : decode cX9_readNumber 57 = .ok (.invokevirtual 52, 3) := by decide +kernel
theorem dX9_readNumber_60 : decode cX9_readNumber 60 = .ok (.goto 16, 3) := by decide +kernel
theorem dX9_readNumber_63 : decode cX9_readNumber 63 = .ok (.aload_n 0, 1) := by decide +kernel
theorem dX9_readNumber_64 : decode cX9_readNumber 64 = .ok (.getfield 25, 3) := by decide +kernel
theorem dX9_readNumber_67 : decode cX9_readNumber 67 = .ok (.iload_n 1, 1) := by decide +kernel
theorem dX9_readNumber_68 : decode cX9_readNumber 68 = .ok (.aload_n 0, 1) := by decide +kernel
theorem dX9_readNumber_69 : decode cX9_readNumber 69 = .ok (.getfield 12, 3) := by decide +kernel
theorem dX9_readNumber_72 : decode cX9_readNumber 72 = .ok (.getfield 82, 3) := by decide +kernel
theorem dX9_readNumber_75 : decode cX9_readNumber 75 = .ok (.iastore, 1) := by decide +kernel
theorem dX9_readNumber_76 : decode cX9_readNumber 76 = .ok (.return_, 1) := by decide +kernel
theorem hn_keep {z u : TS} (o : Ok z) (k : KN z u) {kf : Nat} {lo hi : Int} (h : iv lo hi (tI z (tP z 3 1) kf)) : iv lo hi (tI u (tP u 3 1) kf) := by
  have ha : at_ 8 (tP z 3 1) = true := o.p 9 1 (rfl : ro 3 = 9) (by decide)
  have hr : ro (tP z 3 1) = 8 := at_ro (i := 0) ha (by decide)
  rw [k.2.2.2, k.1 (tP z 3 1) kf (by rw [hr]; rfl)]
  exact h
theorem f2_iv {u : TS} {q i : Nat} {x y v : Int32} {a b c d : Int} (F : tI u q 2 = 0 → x.toInt ≤ (tA u 4 i).toInt ∧ (tA u 4 i).toInt ≤ y.toInt) (hx : iv a b x) (hy : iv c d y) (e : tI u q 2 = v) (hv : v = 0) : iv a d (tA u 4 i) := by
  have := F (e.trans hv)
  exact ⟨Int.le_trans hx.1 this.1, Int.le_trans this.2 hy.2⟩
set_option maxHeartbeats 4000000 in
set_option maxRecDepth 100000 in
theorem tr_num_0 (l : Launch) (D : va_G) (K : Nat → ClassId) (ad : Nat → Nat) (z : TS) (o : Ok z) (x1 : Int32) (bx1 : iv 0 2 x1) (x2 : Int32) (bx2 : iv (-1) 20 x2) : cV l yX9_readNumber cX9_readNumber 4 ({ frames := 7, cells := 0, slots := 0, locals := 150 }) D K ad z [.ref (ad 3), .int 0, .int x1, .int x2] (fun u => Ok u ∧ KN z u ∧ (∀ b : Nat, b ≠ 0 → tA u 4 b = tA z 4 b) ∧ (tI u (tP z 3 0) 2 = 0 → x1.toInt ≤ (tA u 4 0).toInt ∧ (tA u 4 0).toInt ≤ x2.toInt)) := by
  refine t_enterV (by decide) (Nat.le_of_ble_eq_true rfl) rfl rfl ?_
  intro p e s m args below meth c A R Q H locs ls E hfr hlo RET G hl
  have E : mE p s m meth c cX9_readNumber args 4 RX9 D K A := E
  have hl : lv_has ls 4 [(0, .ref (ad 3)), (1, .int 0), (2, .int x1), (3, .int x2)] := hl
  refine lv_aload_n E.1 E.2.1 dX9_readNumber_0 rfl (lv_at hl 0 rfl) ?_
  refine t_get E G 9 0 (rfl : ro 3 = 9) (C := RX9) (T := TX9) (N := 3) rfl (by decide) (by decide) (by decide) mw_fl_9_12 (fvl_d rfl) dX9_readNumber_1 ?_
  obtain ⟨qq1, eqq1⟩ : ∃ q : Nat, q = tP z 3 0 := ⟨_, rfl⟩
  have aqq1 : at_ 7 qq1 = true := by rw [eqq1]; exact o.p 9 0 (rfl : ro 3 = 9) (by decide)
  rw [← eqq1]
  refine t_vv E G hl (tp_readToken l D K ad z o qq1 aqq1) 7 (at_ro (i := 0) aqq1 (by decide) : ro qq1 = 7) (by decide) rfl rfl 0 rfl mw_code_X7_readToken mw_ini_7 mw_ml_9_49 mw_inst_X7_readToken mw_sel_X7_readToken hd_X7_readToken ⟨Nat.le_trans (by decide) hfr, Nat.le_trans (by decide) hlo⟩ rfl rfl rfl (Nat.le_of_ble_eq_true rfl) dX9_readNumber_4 (fun zz2 H locs hp4 G => ?_)
  obtain ⟨oo5, kk6⟩ := hp4
  have kk7 : KN z zz2 := KF.tr KF.rf (KT.n kk6)
  have h8 : tP zz2 3 0 = qq1 := KF.p kk6 eqq1.symm
  have h9 : tA zz2 4 = tA z 4 := (KF.a kk6 34 (rfl : ro 4 = 34) rfl).trans rfl
  refine lv_aload_n E.1 E.2.1 dX9_readNumber_7 rfl (lv_at hl 0 rfl) ?_
  refine t_get E G 9 0 (rfl : ro 3 = 9) (C := RX9) (T := TX9) (N := 3) rfl (by decide) (by decide) (by decide) mw_fl_9_12 (fvl_d rfl) dX9_readNumber_8 ?_
  rw [h8]
  refine t_get E G 7 3 (at_ro (i := 0) aqq1 (by decide) : ro qq1 = 7) (C := RX7) (T := TX7) (N := 7) rfl (by decide) (by decide) (by decide) mw_fl_9_43 (fvl_i rfl) dX9_readNumber_11 ?_
  refine lv_topi (fun v11 e12 => ?_)
  have b13 : iv 0 42 v11 := by rw [e12]; exact oo5.i 7 3 (at_ro (i := 0) aqq1 (by decide) : ro qq1 = 7)
  refine lv_bipush (v := 42) E.1 E.2.1 dX9_readNumber_14 (by decide) ?_
  refine lv_icmp_eq (tgt := 30) E.1 E.2.1 dX9_readNumber_16 (by decide) (fun c14 => ?_) (fun c14 => ?_)
  · skip
    have b15 : iv 42 42 v11 := iv_eq c14 (iv_lit (lo := 42) (hi := 42) 42 (by decide) (by decide))
    refine lv_aload_n E.1 E.2.1 dX9_readNumber_30 rfl (lv_at hl 0 rfl) ?_
    refine t_get E G 9 0 (rfl : ro 3 = 9) (C := RX9) (T := TX9) (N := 3) rfl (by decide) (by decide) (by decide) mw_fl_9_12 (fvl_d rfl) dX9_readNumber_31 ?_
    rw [h8]
    refine t_get E G 7 4 (at_ro (i := 0) aqq1 (by decide) : ro qq1 = 7) (C := RX7) (T := TX7) (N := 7) rfl (by decide) (by decide) (by decide) mw_fl_9_82 (fvl_i rfl) dX9_readNumber_34 ?_
    refine lv_topi (fun v17 e18 => ?_)
    have b19 : iv (-1) 99999 v17 := by rw [e18]; exact oo5.i 7 4 (at_ro (i := 0) aqq1 (by decide) : ro qq1 = 7)
    refine lv_iload_n E.1 E.2.1 dX9_readNumber_37 rfl (lv_at hl 2 rfl) ?_
    refine lv_icmp_lt (tgt := 52) E.1 E.2.1 dX9_readNumber_38 (by decide) (fun c20 => ?_) (fun c20 => ?_)
    · skip
      have b21 : iv (-1) 1 v17 := lt_l c20 b19 bx1 (by decide)
      refine lv_aload_n E.1 E.2.1 dX9_readNumber_52 rfl (lv_at hl 0 rfl) ?_
      refine t_get E G 9 0 (rfl : ro 3 = 9) (C := RX9) (T := TX9) (N := 3) rfl (by decide) (by decide) (by decide) mw_fl_9_12 (fvl_d rfl) dX9_readNumber_53 ?_
      rw [h8]
      refine lv_iconst (v := 1) E.1 E.2.1 dX9_readNumber_56 (by decide) ?_
      refine t_vv E G hl (tp_blame_z l D K ad zz2 oo5 qq1 aqq1 (1 : Int32) (iv_mono (iv_lit (lo := 1) (hi := 1) 1 (by decide) (by decide)) (by decide) (by decide))) 7 (at_ro (i := 0) aqq1 (by decide) : ro qq1 = 7) (by decide) rfl rfl 1 rfl mw_code_X7_blame mw_ini_7 mw_ml_9_52 mw_inst_X7_blame mw_sel_X7_blame hd_X7_blame ⟨Nat.le_trans (by decide) hfr, Nat.le_trans (by decide) hlo⟩ rfl rfl rfl (Nat.le_of_ble_eq_true rfl) dX9_readNumber_57 (fun zz23 H locs hp25 G => ?_)
      obtain ⟨oo26, kk27, h28⟩ := hp25
      have kk29 : KN z zz23 := KF.tr kk7 (KT.n kk27)
      have h30 : tP zz23 3 0 = qq1 := KF.p kk27 h8
      have h31 : tA zz23 4 = tA z 4 := (KF.a kk27 34 (rfl : ro 4 = 34) rfl).trans h9
      refine lv_goto (tgt := 76) E.1 E.2.1 dX9_readNumber_60 (by decide) ?_
      exact RET G ⟨oo26, kk29, (fun b _ => by rw [h31]), (fun h => absurd (by rw [← eqq1] at h; exact h) h28)⟩ dX9_readNumber_76
    · skip
      have b32 : iv 0 99999 v17 := le_r (Int32.not_lt.mp c20) bx1 b19 (by decide)
      refine lv_aload_n E.1 E.2.1 dX9_readNumber_41 rfl (lv_at hl 0 rfl) ?_
      refine t_get E G 9 0 (rfl : ro 3 = 9) (C := RX9) (T := TX9) (N := 3) rfl (by decide) (by decide) (by decide) mw_fl_9_12 (fvl_d rfl) dX9_readNumber_42 ?_
      rw [h8]
      refine t_get E G 7 4 (at_ro (i := 0) aqq1 (by decide) : ro qq1 = 7) (C := RX7) (T := TX7) (N := 7) rfl (by decide) (by decide) (by decide) mw_fl_9_82 (fvl_i rfl) dX9_readNumber_45 ?_
      refine m_ci v17 e18.symm ?_
      refine lv_iload_n E.1 E.2.1 dX9_readNumber_48 rfl (lv_at hl 3 rfl) ?_
      refine lv_icmp_le (tgt := 63) E.1 E.2.1 dX9_readNumber_49 (by decide) (fun c34 => ?_) (fun c34 => ?_)
      · skip
        have b35 : iv 0 20 v17 := le_l c34 b32 bx2 (by decide)
        have b36 : iv 0 20 x2 := le_r c34 b32 bx2 (by decide)
        refine lv_aload_n E.1 E.2.1 dX9_readNumber_63 rfl (lv_at hl 0 rfl) ?_
        refine t_get E G 9 2 (rfl : ro 3 = 9) (C := RX9) (T := TX9) (N := 3) rfl (by decide) (by decide) (by decide) mw_fl_9_25 (v := .ref (ad 4)) (fvl_o (n := 1) rfl) dX9_readNumber_64 ?_
        refine lv_iload_n E.1 E.2.1 dX9_readNumber_67 rfl (lv_at hl 1 rfl) ?_
        refine lv_aload_n E.1 E.2.1 dX9_readNumber_68 rfl (lv_at hl 0 rfl) ?_
        refine t_get E G 9 0 (rfl : ro 3 = 9) (C := RX9) (T := TX9) (N := 3) rfl (by decide) (by decide) (by decide) mw_fl_9_12 (fvl_d rfl) dX9_readNumber_69 ?_
        rw [h8]
        refine t_get E G 7 4 (at_ro (i := 0) aqq1 (by decide) : ro qq1 = 7) (C := RX7) (T := TX7) (N := 7) rfl (by decide) (by decide) (by decide) mw_fl_9_82 (fvl_i rfl) dX9_readNumber_72 ?_
        refine m_ci v17 e18.symm ?_
        refine t_iast E G 34 (rfl : ro 4 = 34) (by decide) (by decide) rfl (n := 4) rfl (by unfold vp_in; decide) dX9_readNumber_75 (fun H locs G => ?_)
        obtain ⟨zz40, G, oo41, kk42, h43, h44, h45, h38, h39⟩ : ∃ u : TS, mG D A s H locs (wd K ad u) ∧ Ok u ∧ KN z u ∧ tI u qq1 3 = v11 ∧ tI u qq1 4 = v17 ∧ tP u 3 0 = qq1 ∧ (∀ b : Nat, b ≠ 0 → tA u 4 b = tA z 4 b) ∧ (tA u 4 0 = v17) := ⟨_, G, ok_uc oo5 34 (rfl : ro 4 = 34) (by decide) (iv_full _) (by decide), KF.tr kk7 (KF_r 34 (rfl : ro 4 = 34) (by decide)), e12.symm, e18.symm, h8, (fun b hb => by show (upd (tA _ 4) _ _) b = _; unfold upd; rw [if_neg (fun e => hb (e.trans (by decide))), h9]), sR_self⟩
        exact RET G ⟨oo41, kk42, h38, (fun _ => by rw [h39]; exact ⟨Int32.le_iff_toInt_le.mp (Int32.not_lt.mp c20), Int32.le_iff_toInt_le.mp c34⟩)⟩ dX9_readNumber_76
      · skip
        refine lv_aload_n E.1 E.2.1 dX9_readNumber_52 rfl (lv_at hl 0 rfl) ?_
        refine t_get E G 9 0 (rfl : ro 3 = 9) (C := RX9) (T := TX9) (N := 3) rfl (by decide) (by decide) (by decide) mw_fl_9_12 (fvl_d rfl) dX9_readNumber_53 ?_
        rw [h8]
        refine lv_iconst (v := 1) E.1 E.2.1 dX9_readNumber_56 (by decide) ?_
        refine t_vv E G hl (tp_blame_z l D K ad zz2 oo5 qq1 aqq1 (1 : Int32) (iv_mono (iv_lit (lo := 1) (hi := 1) 1 (by decide) (by decide)) (by decide) (by decide))) 7 (at_ro (i := 0) aqq1 (by decide) : ro qq1 = 7) (by decide) rfl rfl 1 rfl mw_code_X7_blame mw_ini_7 mw_ml_9_52 mw_inst_X7_blame mw_sel_X7_blame hd_X7_blame ⟨Nat.le_trans (by decide) hfr, Nat.le_trans (by decide) hlo⟩ rfl rfl rfl (Nat.le_of_ble_eq_true rfl) dX9_readNumber_57 (fun zz47 H locs hp49 G => ?_)
        obtain ⟨oo50, kk51, h52⟩ := hp49
        have kk53 : KN z zz47 := KF.tr kk7 (KT.n kk51)
        have h54 : tP zz47 3 0 = qq1 := KF.p kk51 h8
        have h55 : tA zz47 4 = tA z 4 := (KF.a kk51 34 (rfl : ro 4 = 34) rfl).trans h9
        refine lv_goto (tgt := 76) E.1 E.2.1 dX9_readNumber_60 (by decide) ?_
        exact RET G ⟨oo50, kk53, (fun b _ => by rw [h55]), (fun h => absurd (by rw [← eqq1] at h; exact h) h52)⟩ dX9_readNumber_76
  · skip
    have b56 : iv 0 41 v11 := ne_hi c14 b13 (by decide) (by decide)
    refine lv_aload_n E.1 E.2.1 dX9_readNumber_19 rfl (lv_at hl 0 rfl) ?_
    refine t_get E G 9 0 (rfl : ro 3 = 9) (C := RX9) (T := TX9) (N := 3) rfl (by decide) (by decide) (by decide) mw_fl_9_12 (fvl_d rfl) dX9_readNumber_20 ?_
    rw [h8]
    refine lv_iconst (v := 0) E.1 E.2.1 dX9_readNumber_23 (by decide) ?_
    refine t_vv E G hl (tp_blame_z l D K ad zz2 oo5 qq1 aqq1 (0 : Int32) (iv_mono (iv_lit (lo := 0) (hi := 0) 0 (by decide) (by decide)) (by decide) (by decide))) 7 (at_ro (i := 0) aqq1 (by decide) : ro qq1 = 7) (by decide) rfl rfl 1 rfl mw_code_X7_blame mw_ini_7 mw_ml_9_52 mw_inst_X7_blame mw_sel_X7_blame hd_X7_blame ⟨Nat.le_trans (by decide) hfr, Nat.le_trans (by decide) hlo⟩ rfl rfl rfl (Nat.le_of_ble_eq_true rfl) dX9_readNumber_24 (fun zz58 H locs hp60 G => ?_)
    obtain ⟨oo61, kk62, h63⟩ := hp60
    have kk64 : KN z zz58 := KF.tr kk7 (KT.n kk62)
    have h65 : tP zz58 3 0 = qq1 := KF.p kk62 h8
    have h66 : tA zz58 4 = tA z 4 := (KF.a kk62 34 (rfl : ro 4 = 34) rfl).trans h9
    refine lv_goto (tgt := 76) E.1 E.2.1 dX9_readNumber_27 (by decide) ?_
    exact RET G ⟨oo61, kk64, (fun b _ => by rw [h66]), (fun h => absurd (by rw [← eqq1] at h; exact h) h63)⟩ dX9_readNumber_76
set_option maxHeartbeats 4000000 in
set_option maxRecDepth 100000 in
theorem tr_num_1 (l : Launch) (D : va_G) (K : Nat → ClassId) (ad : Nat → Nat) (z : TS) (o : Ok z) (x1 : Int32) (bx1 : iv 0 2 x1) (x2 : Int32) (bx2 : iv (-1) 20 x2) : cV l yX9_readNumber cX9_readNumber 4 ({ frames := 7, cells := 0, slots := 0, locals := 150 }) D K ad z [.ref (ad 3), .int 1, .int x1, .int x2] (fun u => Ok u ∧ KN z u ∧ (∀ b : Nat, b ≠ 1 → tA u 4 b = tA z 4 b) ∧ (tI u (tP z 3 0) 2 = 0 → x1.toInt ≤ (tA u 4 1).toInt ∧ (tA u 4 1).toInt ≤ x2.toInt)) := by
  refine t_enterV (by decide) (Nat.le_of_ble_eq_true rfl) rfl rfl ?_
  intro p e s m args below meth c A R Q H locs ls E hfr hlo RET G hl
  have E : mE p s m meth c cX9_readNumber args 4 RX9 D K A := E
  have hl : lv_has ls 4 [(0, .ref (ad 3)), (1, .int 1), (2, .int x1), (3, .int x2)] := hl
  refine lv_aload_n E.1 E.2.1 dX9_readNumber_0 rfl (lv_at hl 0 rfl) ?_
  refine t_get E G 9 0 (rfl : ro 3 = 9) (C := RX9) (T := TX9) (N := 3) rfl (by decide) (by decide) (by decide) mw_fl_9_12 (fvl_d rfl) dX9_readNumber_1 ?_
  obtain ⟨qq1, eqq1⟩ : ∃ q : Nat, q = tP z 3 0 := ⟨_, rfl⟩
  have aqq1 : at_ 7 qq1 = true := by rw [eqq1]; exact o.p 9 0 (rfl : ro 3 = 9) (by decide)
  rw [← eqq1]
  refine t_vv E G hl (tp_readToken l D K ad z o qq1 aqq1) 7 (at_ro (i := 0) aqq1 (by decide) : ro qq1 = 7) (by decide) rfl rfl 0 rfl mw_code_X7_readToken mw_ini_7 mw_ml_9_49 mw_inst_X7_readToken mw_sel_X7_readToken hd_X7_readToken ⟨Nat.le_trans (by decide) hfr, Nat.le_trans (by decide) hlo⟩ rfl rfl rfl (Nat.le_of_ble_eq_true rfl) dX9_readNumber_4 (fun zz2 H locs hp4 G => ?_)
  obtain ⟨oo5, kk6⟩ := hp4
  have kk7 : KN z zz2 := KF.tr KF.rf (KT.n kk6)
  have h8 : tP zz2 3 0 = qq1 := KF.p kk6 eqq1.symm
  have h9 : tA zz2 4 = tA z 4 := (KF.a kk6 34 (rfl : ro 4 = 34) rfl).trans rfl
  refine lv_aload_n E.1 E.2.1 dX9_readNumber_7 rfl (lv_at hl 0 rfl) ?_
  refine t_get E G 9 0 (rfl : ro 3 = 9) (C := RX9) (T := TX9) (N := 3) rfl (by decide) (by decide) (by decide) mw_fl_9_12 (fvl_d rfl) dX9_readNumber_8 ?_
  rw [h8]
  refine t_get E G 7 3 (at_ro (i := 0) aqq1 (by decide) : ro qq1 = 7) (C := RX7) (T := TX7) (N := 7) rfl (by decide) (by decide) (by decide) mw_fl_9_43 (fvl_i rfl) dX9_readNumber_11 ?_
  refine lv_topi (fun v11 e12 => ?_)
  have b13 : iv 0 42 v11 := by rw [e12]; exact oo5.i 7 3 (at_ro (i := 0) aqq1 (by decide) : ro qq1 = 7)
  refine lv_bipush (v := 42) E.1 E.2.1 dX9_readNumber_14 (by decide) ?_
  refine lv_icmp_eq (tgt := 30) E.1 E.2.1 dX9_readNumber_16 (by decide) (fun c14 => ?_) (fun c14 => ?_)
  · skip
    have b15 : iv 42 42 v11 := iv_eq c14 (iv_lit (lo := 42) (hi := 42) 42 (by decide) (by decide))
    refine lv_aload_n E.1 E.2.1 dX9_readNumber_30 rfl (lv_at hl 0 rfl) ?_
    refine t_get E G 9 0 (rfl : ro 3 = 9) (C := RX9) (T := TX9) (N := 3) rfl (by decide) (by decide) (by decide) mw_fl_9_12 (fvl_d rfl) dX9_readNumber_31 ?_
    rw [h8]
    refine t_get E G 7 4 (at_ro (i := 0) aqq1 (by decide) : ro qq1 = 7) (C := RX7) (T := TX7) (N := 7) rfl (by decide) (by decide) (by decide) mw_fl_9_82 (fvl_i rfl) dX9_readNumber_34 ?_
    refine lv_topi (fun v17 e18 => ?_)
    have b19 : iv (-1) 99999 v17 := by rw [e18]; exact oo5.i 7 4 (at_ro (i := 0) aqq1 (by decide) : ro qq1 = 7)
    refine lv_iload_n E.1 E.2.1 dX9_readNumber_37 rfl (lv_at hl 2 rfl) ?_
    refine lv_icmp_lt (tgt := 52) E.1 E.2.1 dX9_readNumber_38 (by decide) (fun c20 => ?_) (fun c20 => ?_)
    · skip
      have b21 : iv (-1) 1 v17 := lt_l c20 b19 bx1 (by decide)
      refine lv_aload_n E.1 E.2.1 dX9_readNumber_52 rfl (lv_at hl 0 rfl) ?_
      refine t_get E G 9 0 (rfl : ro 3 = 9) (C := RX9) (T := TX9) (N := 3) rfl (by decide) (by decide) (by decide) mw_fl_9_12 (fvl_d rfl) dX9_readNumber_53 ?_
      rw [h8]
      refine lv_iconst (v := 1) E.1 E.2.1 dX9_readNumber_56 (by decide) ?_
      refine t_vv E G hl (tp_blame_z l D K ad zz2 oo5 qq1 aqq1 (1 : Int32) (iv_mono (iv_lit (lo := 1) (hi := 1) 1 (by decide) (by decide)) (by decide) (by decide))) 7 (at_ro (i := 0) aqq1 (by decide) : ro qq1 = 7) (by decide) rfl rfl 1 rfl mw_code_X7_blame mw_ini_7 mw_ml_9_52 mw_inst_X7_blame mw_sel_X7_blame hd_X7_blame ⟨Nat.le_trans (by decide) hfr, Nat.le_trans (by decide) hlo⟩ rfl rfl rfl (Nat.le_of_ble_eq_true rfl) dX9_readNumber_57 (fun zz23 H locs hp25 G => ?_)
      obtain ⟨oo26, kk27, h28⟩ := hp25
      have kk29 : KN z zz23 := KF.tr kk7 (KT.n kk27)
      have h30 : tP zz23 3 0 = qq1 := KF.p kk27 h8
      have h31 : tA zz23 4 = tA z 4 := (KF.a kk27 34 (rfl : ro 4 = 34) rfl).trans h9
      refine lv_goto (tgt := 76) E.1 E.2.1 dX9_readNumber_60 (by decide) ?_
      exact RET G ⟨oo26, kk29, (fun b _ => by rw [h31]), (fun h => absurd (by rw [← eqq1] at h; exact h) h28)⟩ dX9_readNumber_76
    · skip
      have b32 : iv 0 99999 v17 := le_r (Int32.not_lt.mp c20) bx1 b19 (by decide)
      refine lv_aload_n E.1 E.2.1 dX9_readNumber_41 rfl (lv_at hl 0 rfl) ?_
      refine t_get E G 9 0 (rfl : ro 3 = 9) (C := RX9) (T := TX9) (N := 3) rfl (by decide) (by decide) (by decide) mw_fl_9_12 (fvl_d rfl) dX9_readNumber_42 ?_
      rw [h8]
      refine t_get E G 7 4 (at_ro (i := 0) aqq1 (by decide) : ro qq1 = 7) (C := RX7) (T := TX7) (N := 7) rfl (by decide) (by decide) (by decide) mw_fl_9_82 (fvl_i rfl) dX9_readNumber_45 ?_
      refine m_ci v17 e18.symm ?_
      refine lv_iload_n E.1 E.2.1 dX9_readNumber_48 rfl (lv_at hl 3 rfl) ?_
      refine lv_icmp_le (tgt := 63) E.1 E.2.1 dX9_readNumber_49 (by decide) (fun c34 => ?_) (fun c34 => ?_)
      · skip
        have b35 : iv 0 20 v17 := le_l c34 b32 bx2 (by decide)
        have b36 : iv 0 20 x2 := le_r c34 b32 bx2 (by decide)
        refine lv_aload_n E.1 E.2.1 dX9_readNumber_63 rfl (lv_at hl 0 rfl) ?_
        refine t_get E G 9 2 (rfl : ro 3 = 9) (C := RX9) (T := TX9) (N := 3) rfl (by decide) (by decide) (by decide) mw_fl_9_25 (v := .ref (ad 4)) (fvl_o (n := 1) rfl) dX9_readNumber_64 ?_
        refine lv_iload_n E.1 E.2.1 dX9_readNumber_67 rfl (lv_at hl 1 rfl) ?_
        refine lv_aload_n E.1 E.2.1 dX9_readNumber_68 rfl (lv_at hl 0 rfl) ?_
        refine t_get E G 9 0 (rfl : ro 3 = 9) (C := RX9) (T := TX9) (N := 3) rfl (by decide) (by decide) (by decide) mw_fl_9_12 (fvl_d rfl) dX9_readNumber_69 ?_
        rw [h8]
        refine t_get E G 7 4 (at_ro (i := 0) aqq1 (by decide) : ro qq1 = 7) (C := RX7) (T := TX7) (N := 7) rfl (by decide) (by decide) (by decide) mw_fl_9_82 (fvl_i rfl) dX9_readNumber_72 ?_
        refine m_ci v17 e18.symm ?_
        refine t_iast E G 34 (rfl : ro 4 = 34) (by decide) (by decide) rfl (n := 4) rfl (by unfold vp_in; decide) dX9_readNumber_75 (fun H locs G => ?_)
        obtain ⟨zz40, G, oo41, kk42, h43, h44, h45, h38, h39⟩ : ∃ u : TS, mG D A s H locs (wd K ad u) ∧ Ok u ∧ KN z u ∧ tI u qq1 3 = v11 ∧ tI u qq1 4 = v17 ∧ tP u 3 0 = qq1 ∧ (∀ b : Nat, b ≠ 1 → tA u 4 b = tA z 4 b) ∧ (tA u 4 1 = v17) := ⟨_, G, ok_uc oo5 34 (rfl : ro 4 = 34) (by decide) (iv_full _) (by decide), KF.tr kk7 (KF_r 34 (rfl : ro 4 = 34) (by decide)), e12.symm, e18.symm, h8, (fun b hb => by show (upd (tA _ 4) _ _) b = _; unfold upd; rw [if_neg (fun e => hb (e.trans (by decide))), h9]), sR_self⟩
        exact RET G ⟨oo41, kk42, h38, (fun _ => by rw [h39]; exact ⟨Int32.le_iff_toInt_le.mp (Int32.not_lt.mp c20), Int32.le_iff_toInt_le.mp c34⟩)⟩ dX9_readNumber_76
      · skip
        refine lv_aload_n E.1 E.2.1 dX9_readNumber_52 rfl (lv_at hl 0 rfl) ?_
        refine t_get E G 9 0 (rfl : ro 3 = 9) (C := RX9) (T := TX9) (N := 3) rfl (by decide) (by decide) (by decide) mw_fl_9_12 (fvl_d rfl) dX9_readNumber_53 ?_
        rw [h8]
        refine lv_iconst (v := 1) E.1 E.2.1 dX9_readNumber_56 (by decide) ?_
        refine t_vv E G hl (tp_blame_z l D K ad zz2 oo5 qq1 aqq1 (1 : Int32) (iv_mono (iv_lit (lo := 1) (hi := 1) 1 (by decide) (by decide)) (by decide) (by decide))) 7 (at_ro (i := 0) aqq1 (by decide) : ro qq1 = 7) (by decide) rfl rfl 1 rfl mw_code_X7_blame mw_ini_7 mw_ml_9_52 mw_inst_X7_blame mw_sel_X7_blame hd_X7_blame ⟨Nat.le_trans (by decide) hfr, Nat.le_trans (by decide) hlo⟩ rfl rfl rfl (Nat.le_of_ble_eq_true rfl) dX9_readNumber_57 (fun zz47 H locs hp49 G => ?_)
        obtain ⟨oo50, kk51, h52⟩ := hp49
        have kk53 : KN z zz47 := KF.tr kk7 (KT.n kk51)
        have h54 : tP zz47 3 0 = qq1 := KF.p kk51 h8
        have h55 : tA zz47 4 = tA z 4 := (KF.a kk51 34 (rfl : ro 4 = 34) rfl).trans h9
        refine lv_goto (tgt := 76) E.1 E.2.1 dX9_readNumber_60 (by decide) ?_
        exact RET G ⟨oo50, kk53, (fun b _ => by rw [h55]), (fun h => absurd (by rw [← eqq1] at h; exact h) h52)⟩ dX9_readNumber_76
  · skip
    have b56 : iv 0 41 v11 := ne_hi c14 b13 (by decide) (by decide)
    refine lv_aload_n E.1 E.2.1 dX9_readNumber_19 rfl (lv_at hl 0 rfl) ?_
    refine t_get E G 9 0 (rfl : ro 3 = 9) (C := RX9) (T := TX9) (N := 3) rfl (by decide) (by decide) (by decide) mw_fl_9_12 (fvl_d rfl) dX9_readNumber_20 ?_
    rw [h8]
    refine lv_iconst (v := 0) E.1 E.2.1 dX9_readNumber_23 (by decide) ?_
    refine t_vv E G hl (tp_blame_z l D K ad zz2 oo5 qq1 aqq1 (0 : Int32) (iv_mono (iv_lit (lo := 0) (hi := 0) 0 (by decide) (by decide)) (by decide) (by decide))) 7 (at_ro (i := 0) aqq1 (by decide) : ro qq1 = 7) (by decide) rfl rfl 1 rfl mw_code_X7_blame mw_ini_7 mw_ml_9_52 mw_inst_X7_blame mw_sel_X7_blame hd_X7_blame ⟨Nat.le_trans (by decide) hfr, Nat.le_trans (by decide) hlo⟩ rfl rfl rfl (Nat.le_of_ble_eq_true rfl) dX9_readNumber_24 (fun zz58 H locs hp60 G => ?_)
    obtain ⟨oo61, kk62, h63⟩ := hp60
    have kk64 : KN z zz58 := KF.tr kk7 (KT.n kk62)
    have h65 : tP zz58 3 0 = qq1 := KF.p kk62 h8
    have h66 : tA zz58 4 = tA z 4 := (KF.a kk62 34 (rfl : ro 4 = 34) rfl).trans h9
    refine lv_goto (tgt := 76) E.1 E.2.1 dX9_readNumber_27 (by decide) ?_
    exact RET G ⟨oo61, kk64, (fun b _ => by rw [h66]), (fun h => absurd (by rw [← eqq1] at h; exact h) h63)⟩ dX9_readNumber_76
set_option maxHeartbeats 4000000 in
set_option maxRecDepth 100000 in
theorem tr_num_2 (l : Launch) (D : va_G) (K : Nat → ClassId) (ad : Nat → Nat) (z : TS) (o : Ok z) (x1 : Int32) (bx1 : iv 0 2 x1) (x2 : Int32) (bx2 : iv (-1) 20 x2) : cV l yX9_readNumber cX9_readNumber 4 ({ frames := 7, cells := 0, slots := 0, locals := 150 }) D K ad z [.ref (ad 3), .int 2, .int x1, .int x2] (fun u => Ok u ∧ KN z u ∧ (∀ b : Nat, b ≠ 2 → tA u 4 b = tA z 4 b) ∧ (tI u (tP z 3 0) 2 = 0 → x1.toInt ≤ (tA u 4 2).toInt ∧ (tA u 4 2).toInt ≤ x2.toInt)) := by
  refine t_enterV (by decide) (Nat.le_of_ble_eq_true rfl) rfl rfl ?_
  intro p e s m args below meth c A R Q H locs ls E hfr hlo RET G hl
  have E : mE p s m meth c cX9_readNumber args 4 RX9 D K A := E
  have hl : lv_has ls 4 [(0, .ref (ad 3)), (1, .int 2), (2, .int x1), (3, .int x2)] := hl
  refine lv_aload_n E.1 E.2.1 dX9_readNumber_0 rfl (lv_at hl 0 rfl) ?_
  refine t_get E G 9 0 (rfl : ro 3 = 9) (C := RX9) (T := TX9) (N := 3) rfl (by decide) (by decide) (by decide) mw_fl_9_12 (fvl_d rfl) dX9_readNumber_1 ?_
  obtain ⟨qq1, eqq1⟩ : ∃ q : Nat, q = tP z 3 0 := ⟨_, rfl⟩
  have aqq1 : at_ 7 qq1 = true := by rw [eqq1]; exact o.p 9 0 (rfl : ro 3 = 9) (by decide)
  rw [← eqq1]
  refine t_vv E G hl (tp_readToken l D K ad z o qq1 aqq1) 7 (at_ro (i := 0) aqq1 (by decide) : ro qq1 = 7) (by decide) rfl rfl 0 rfl mw_code_X7_readToken mw_ini_7 mw_ml_9_49 mw_inst_X7_readToken mw_sel_X7_readToken hd_X7_readToken ⟨Nat.le_trans (by decide) hfr, Nat.le_trans (by decide) hlo⟩ rfl rfl rfl (Nat.le_of_ble_eq_true rfl) dX9_readNumber_4 (fun zz2 H locs hp4 G => ?_)
  obtain ⟨oo5, kk6⟩ := hp4
  have kk7 : KN z zz2 := KF.tr KF.rf (KT.n kk6)
  have h8 : tP zz2 3 0 = qq1 := KF.p kk6 eqq1.symm
  have h9 : tA zz2 4 = tA z 4 := (KF.a kk6 34 (rfl : ro 4 = 34) rfl).trans rfl
  refine lv_aload_n E.1 E.2.1 dX9_readNumber_7 rfl (lv_at hl 0 rfl) ?_
  refine t_get E G 9 0 (rfl : ro 3 = 9) (C := RX9) (T := TX9) (N := 3) rfl (by decide) (by decide) (by decide) mw_fl_9_12 (fvl_d rfl) dX9_readNumber_8 ?_
  rw [h8]
  refine t_get E G 7 3 (at_ro (i := 0) aqq1 (by decide) : ro qq1 = 7) (C := RX7) (T := TX7) (N := 7) rfl (by decide) (by decide) (by decide) mw_fl_9_43 (fvl_i rfl) dX9_readNumber_11 ?_
  refine lv_topi (fun v11 e12 => ?_)
  have b13 : iv 0 42 v11 := by rw [e12]; exact oo5.i 7 3 (at_ro (i := 0) aqq1 (by decide) : ro qq1 = 7)
  refine lv_bipush (v := 42) E.1 E.2.1 dX9_readNumber_14 (by decide) ?_
  refine lv_icmp_eq (tgt := 30) E.1 E.2.1 dX9_readNumber_16 (by decide) (fun c14 => ?_) (fun c14 => ?_)
  · skip
    have b15 : iv 42 42 v11 := iv_eq c14 (iv_lit (lo := 42) (hi := 42) 42 (by decide) (by decide))
    refine lv_aload_n E.1 E.2.1 dX9_readNumber_30 rfl (lv_at hl 0 rfl) ?_
    refine t_get E G 9 0 (rfl : ro 3 = 9) (C := RX9) (T := TX9) (N := 3) rfl (by decide) (by decide) (by decide) mw_fl_9_12 (fvl_d rfl) dX9_readNumber_31 ?_
    rw [h8]
    refine t_get E G 7 4 (at_ro (i := 0) aqq1 (by decide) : ro qq1 = 7) (C := RX7) (T := TX7) (N := 7) rfl (by decide) (by decide) (by decide) mw_fl_9_82 (fvl_i rfl) dX9_readNumber_34 ?_
    refine lv_topi (fun v17 e18 => ?_)
    have b19 : iv (-1) 99999 v17 := by rw [e18]; exact oo5.i 7 4 (at_ro (i := 0) aqq1 (by decide) : ro qq1 = 7)
    refine lv_iload_n E.1 E.2.1 dX9_readNumber_37 rfl (lv_at hl 2 rfl) ?_
    refine lv_icmp_lt (tgt := 52) E.1 E.2.1 dX9_readNumber_38 (by decide) (fun c20 => ?_) (fun c20 => ?_)
    · skip
      have b21 : iv (-1) 1 v17 := lt_l c20 b19 bx1 (by decide)
      refine lv_aload_n E.1 E.2.1 dX9_readNumber_52 rfl (lv_at hl 0 rfl) ?_
      refine t_get E G 9 0 (rfl : ro 3 = 9) (C := RX9) (T := TX9) (N := 3) rfl (by decide) (by decide) (by decide) mw_fl_9_12 (fvl_d rfl) dX9_readNumber_53 ?_
      rw [h8]
      refine lv_iconst (v := 1) E.1 E.2.1 dX9_readNumber_56 (by decide) ?_
      refine t_vv E G hl (tp_blame_z l D K ad zz2 oo5 qq1 aqq1 (1 : Int32) (iv_mono (iv_lit (lo := 1) (hi := 1) 1 (by decide) (by decide)) (by decide) (by decide))) 7 (at_ro (i := 0) aqq1 (by decide) : ro qq1 = 7) (by decide) rfl rfl 1 rfl mw_code_X7_blame mw_ini_7 mw_ml_9_52 mw_inst_X7_blame mw_sel_X7_blame hd_X7_blame ⟨Nat.le_trans (by decide) hfr, Nat.le_trans (by decide) hlo⟩ rfl rfl rfl (Nat.le_of_ble_eq_true rfl) dX9_readNumber_57 (fun zz23 H locs hp25 G => ?_)
      obtain ⟨oo26, kk27, h28⟩ := hp25
      have kk29 : KN z zz23 := KF.tr kk7 (KT.n kk27)
      have h30 : tP zz23 3 0 = qq1 := KF.p kk27 h8
      have h31 : tA zz23 4 = tA z 4 := (KF.a kk27 34 (rfl : ro 4 = 34) rfl).trans h9
      refine lv_goto (tgt := 76) E.1 E.2.1 dX9_readNumber_60 (by decide) ?_
      exact RET G ⟨oo26, kk29, (fun b _ => by rw [h31]), (fun h => absurd (by rw [← eqq1] at h; exact h) h28)⟩ dX9_readNumber_76
    · skip
      have b32 : iv 0 99999 v17 := le_r (Int32.not_lt.mp c20) bx1 b19 (by decide)
      refine lv_aload_n E.1 E.2.1 dX9_readNumber_41 rfl (lv_at hl 0 rfl) ?_
      refine t_get E G 9 0 (rfl : ro 3 = 9) (C := RX9) (T := TX9) (N := 3) rfl (by decide) (by decide) (by decide) mw_fl_9_12 (fvl_d rfl) dX9_readNumber_42 ?_
      rw [h8]
      refine t_get E G 7 4 (at_ro (i := 0) aqq1 (by decide) : ro qq1 = 7) (C := RX7) (T := TX7) (N := 7) rfl (by decide) (by decide) (by decide) mw_fl_9_82 (fvl_i rfl) dX9_readNumber_45 ?_
      refine m_ci v17 e18.symm ?_
      refine lv_iload_n E.1 E.2.1 dX9_readNumber_48 rfl (lv_at hl 3 rfl) ?_
      refine lv_icmp_le (tgt := 63) E.1 E.2.1 dX9_readNumber_49 (by decide) (fun c34 => ?_) (fun c34 => ?_)
      · skip
        have b35 : iv 0 20 v17 := le_l c34 b32 bx2 (by decide)
        have b36 : iv 0 20 x2 := le_r c34 b32 bx2 (by decide)
        refine lv_aload_n E.1 E.2.1 dX9_readNumber_63 rfl (lv_at hl 0 rfl) ?_
        refine t_get E G 9 2 (rfl : ro 3 = 9) (C := RX9) (T := TX9) (N := 3) rfl (by decide) (by decide) (by decide) mw_fl_9_25 (v := .ref (ad 4)) (fvl_o (n := 1) rfl) dX9_readNumber_64 ?_
        refine lv_iload_n E.1 E.2.1 dX9_readNumber_67 rfl (lv_at hl 1 rfl) ?_
        refine lv_aload_n E.1 E.2.1 dX9_readNumber_68 rfl (lv_at hl 0 rfl) ?_
        refine t_get E G 9 0 (rfl : ro 3 = 9) (C := RX9) (T := TX9) (N := 3) rfl (by decide) (by decide) (by decide) mw_fl_9_12 (fvl_d rfl) dX9_readNumber_69 ?_
        rw [h8]
        refine t_get E G 7 4 (at_ro (i := 0) aqq1 (by decide) : ro qq1 = 7) (C := RX7) (T := TX7) (N := 7) rfl (by decide) (by decide) (by decide) mw_fl_9_82 (fvl_i rfl) dX9_readNumber_72 ?_
        refine m_ci v17 e18.symm ?_
        refine t_iast E G 34 (rfl : ro 4 = 34) (by decide) (by decide) rfl (n := 4) rfl (by unfold vp_in; decide) dX9_readNumber_75 (fun H locs G => ?_)
        obtain ⟨zz40, G, oo41, kk42, h43, h44, h45, h38, h39⟩ : ∃ u : TS, mG D A s H locs (wd K ad u) ∧ Ok u ∧ KN z u ∧ tI u qq1 3 = v11 ∧ tI u qq1 4 = v17 ∧ tP u 3 0 = qq1 ∧ (∀ b : Nat, b ≠ 2 → tA u 4 b = tA z 4 b) ∧ (tA u 4 2 = v17) := ⟨_, G, ok_uc oo5 34 (rfl : ro 4 = 34) (by decide) (iv_full _) (by decide), KF.tr kk7 (KF_r 34 (rfl : ro 4 = 34) (by decide)), e12.symm, e18.symm, h8, (fun b hb => by show (upd (tA _ 4) _ _) b = _; unfold upd; rw [if_neg (fun e => hb (e.trans (by decide))), h9]), sR_self⟩
        exact RET G ⟨oo41, kk42, h38, (fun _ => by rw [h39]; exact ⟨Int32.le_iff_toInt_le.mp (Int32.not_lt.mp c20), Int32.le_iff_toInt_le.mp c34⟩)⟩ dX9_readNumber_76
      · skip
        refine lv_aload_n E.1 E.2.1 dX9_readNumber_52 rfl (lv_at hl 0 rfl) ?_
        refine t_get E G 9 0 (rfl : ro 3 = 9) (C := RX9) (T := TX9) (N := 3) rfl (by decide) (by decide) (by decide) mw_fl_9_12 (fvl_d rfl) dX9_readNumber_53 ?_
        rw [h8]
        refine lv_iconst (v := 1) E.1 E.2.1 dX9_readNumber_56 (by decide) ?_
        refine t_vv E G hl (tp_blame_z l D K ad zz2 oo5 qq1 aqq1 (1 : Int32) (iv_mono (iv_lit (lo := 1) (hi := 1) 1 (by decide) (by decide)) (by decide) (by decide))) 7 (at_ro (i := 0) aqq1 (by decide) : ro qq1 = 7) (by decide) rfl rfl 1 rfl mw_code_X7_blame mw_ini_7 mw_ml_9_52 mw_inst_X7_blame mw_sel_X7_blame hd_X7_blame ⟨Nat.le_trans (by decide) hfr, Nat.le_trans (by decide) hlo⟩ rfl rfl rfl (Nat.le_of_ble_eq_true rfl) dX9_readNumber_57 (fun zz47 H locs hp49 G => ?_)
        obtain ⟨oo50, kk51, h52⟩ := hp49
        have kk53 : KN z zz47 := KF.tr kk7 (KT.n kk51)
        have h54 : tP zz47 3 0 = qq1 := KF.p kk51 h8
        have h55 : tA zz47 4 = tA z 4 := (KF.a kk51 34 (rfl : ro 4 = 34) rfl).trans h9
        refine lv_goto (tgt := 76) E.1 E.2.1 dX9_readNumber_60 (by decide) ?_
        exact RET G ⟨oo50, kk53, (fun b _ => by rw [h55]), (fun h => absurd (by rw [← eqq1] at h; exact h) h52)⟩ dX9_readNumber_76
  · skip
    have b56 : iv 0 41 v11 := ne_hi c14 b13 (by decide) (by decide)
    refine lv_aload_n E.1 E.2.1 dX9_readNumber_19 rfl (lv_at hl 0 rfl) ?_
    refine t_get E G 9 0 (rfl : ro 3 = 9) (C := RX9) (T := TX9) (N := 3) rfl (by decide) (by decide) (by decide) mw_fl_9_12 (fvl_d rfl) dX9_readNumber_20 ?_
    rw [h8]
    refine lv_iconst (v := 0) E.1 E.2.1 dX9_readNumber_23 (by decide) ?_
    refine t_vv E G hl (tp_blame_z l D K ad zz2 oo5 qq1 aqq1 (0 : Int32) (iv_mono (iv_lit (lo := 0) (hi := 0) 0 (by decide) (by decide)) (by decide) (by decide))) 7 (at_ro (i := 0) aqq1 (by decide) : ro qq1 = 7) (by decide) rfl rfl 1 rfl mw_code_X7_blame mw_ini_7 mw_ml_9_52 mw_inst_X7_blame mw_sel_X7_blame hd_X7_blame ⟨Nat.le_trans (by decide) hfr, Nat.le_trans (by decide) hlo⟩ rfl rfl rfl (Nat.le_of_ble_eq_true rfl) dX9_readNumber_24 (fun zz58 H locs hp60 G => ?_)
    obtain ⟨oo61, kk62, h63⟩ := hp60
    have kk64 : KN z zz58 := KF.tr kk7 (KT.n kk62)
    have h65 : tP zz58 3 0 = qq1 := KF.p kk62 h8
    have h66 : tA zz58 4 = tA z 4 := (KF.a kk62 34 (rfl : ro 4 = 34) rfl).trans h9
    refine lv_goto (tgt := 76) E.1 E.2.1 dX9_readNumber_27 (by decide) ?_
    exact RET G ⟨oo61, kk64, (fun b _ => by rw [h66]), (fun h => absurd (by rw [← eqq1] at h; exact h) h63)⟩ dX9_readNumber_76
set_option maxHeartbeats 4000000 in
set_option maxRecDepth 100000 in
theorem tr_num_3 (l : Launch) (D : va_G) (K : Nat → ClassId) (ad : Nat → Nat) (z : TS) (o : Ok z) (x1 : Int32) (bx1 : iv 0 2 x1) (x2 : Int32) (bx2 : iv (-1) 20 x2) : cV l yX9_readNumber cX9_readNumber 4 ({ frames := 7, cells := 0, slots := 0, locals := 150 }) D K ad z [.ref (ad 3), .int 3, .int x1, .int x2] (fun u => Ok u ∧ KN z u ∧ (∀ b : Nat, b ≠ 3 → tA u 4 b = tA z 4 b) ∧ (tI u (tP z 3 0) 2 = 0 → x1.toInt ≤ (tA u 4 3).toInt ∧ (tA u 4 3).toInt ≤ x2.toInt)) := by
  refine t_enterV (by decide) (Nat.le_of_ble_eq_true rfl) rfl rfl ?_
  intro p e s m args below meth c A R Q H locs ls E hfr hlo RET G hl
  have E : mE p s m meth c cX9_readNumber args 4 RX9 D K A := E
  have hl : lv_has ls 4 [(0, .ref (ad 3)), (1, .int 3), (2, .int x1), (3, .int x2)] := hl
  refine lv_aload_n E.1 E.2.1 dX9_readNumber_0 rfl (lv_at hl 0 rfl) ?_
  refine t_get E G 9 0 (rfl : ro 3 = 9) (C := RX9) (T := TX9) (N := 3) rfl (by decide) (by decide) (by decide) mw_fl_9_12 (fvl_d rfl) dX9_readNumber_1 ?_
  obtain ⟨qq1, eqq1⟩ : ∃ q : Nat, q = tP z 3 0 := ⟨_, rfl⟩
  have aqq1 : at_ 7 qq1 = true := by rw [eqq1]; exact o.p 9 0 (rfl : ro 3 = 9) (by decide)
  rw [← eqq1]
  refine t_vv E G hl (tp_readToken l D K ad z o qq1 aqq1) 7 (at_ro (i := 0) aqq1 (by decide) : ro qq1 = 7) (by decide) rfl rfl 0 rfl mw_code_X7_readToken mw_ini_7 mw_ml_9_49 mw_inst_X7_readToken mw_sel_X7_readToken hd_X7_readToken ⟨Nat.le_trans (by decide) hfr, Nat.le_trans (by decide) hlo⟩ rfl rfl rfl (Nat.le_of_ble_eq_true rfl) dX9_readNumber_4 (fun zz2 H locs hp4 G => ?_)
  obtain ⟨oo5, kk6⟩ := hp4
  have kk7 : KN z zz2 := KF.tr KF.rf (KT.n kk6)
  have h8 : tP zz2 3 0 = qq1 := KF.p kk6 eqq1.symm
  have h9 : tA zz2 4 = tA z 4 := (KF.a kk6 34 (rfl : ro 4 = 34) rfl).trans rfl
  refine lv_aload_n E.1 E.2.1 dX9_readNumber_7 rfl (lv_at hl 0 rfl) ?_
  refine t_get E G 9 0 (rfl : ro 3 = 9) (C := RX9) (T := TX9) (N := 3) rfl (by decide) (by decide) (by decide) mw_fl_9_12 (fvl_d rfl) dX9_readNumber_8 ?_
  rw [h8]
  refine t_get E G 7 3 (at_ro (i := 0) aqq1 (by decide) : ro qq1 = 7) (C := RX7) (T := TX7) (N := 7) rfl (by decide) (by decide) (by decide) mw_fl_9_43 (fvl_i rfl) dX9_readNumber_11 ?_
  refine lv_topi (fun v11 e12 => ?_)
  have b13 : iv 0 42 v11 := by rw [e12]; exact oo5.i 7 3 (at_ro (i := 0) aqq1 (by decide) : ro qq1 = 7)
  refine lv_bipush (v := 42) E.1 E.2.1 dX9_readNumber_14 (by decide) ?_
  refine lv_icmp_eq (tgt := 30) E.1 E.2.1 dX9_readNumber_16 (by decide) (fun c14 => ?_) (fun c14 => ?_)
  · skip
    have b15 : iv 42 42 v11 := iv_eq c14 (iv_lit (lo := 42) (hi := 42) 42 (by decide) (by decide))
    refine lv_aload_n E.1 E.2.1 dX9_readNumber_30 rfl (lv_at hl 0 rfl) ?_
    refine t_get E G 9 0 (rfl : ro 3 = 9) (C := RX9) (T := TX9) (N := 3) rfl (by decide) (by decide) (by decide) mw_fl_9_12 (fvl_d rfl) dX9_readNumber_31 ?_
    rw [h8]
    refine t_get E G 7 4 (at_ro (i := 0) aqq1 (by decide) : ro qq1 = 7) (C := RX7) (T := TX7) (N := 7) rfl (by decide) (by decide) (by decide) mw_fl_9_82 (fvl_i rfl) dX9_readNumber_34 ?_
    refine lv_topi (fun v17 e18 => ?_)
    have b19 : iv (-1) 99999 v17 := by rw [e18]; exact oo5.i 7 4 (at_ro (i := 0) aqq1 (by decide) : ro qq1 = 7)
    refine lv_iload_n E.1 E.2.1 dX9_readNumber_37 rfl (lv_at hl 2 rfl) ?_
    refine lv_icmp_lt (tgt := 52) E.1 E.2.1 dX9_readNumber_38 (by decide) (fun c20 => ?_) (fun c20 => ?_)
    · skip
      have b21 : iv (-1) 1 v17 := lt_l c20 b19 bx1 (by decide)
      refine lv_aload_n E.1 E.2.1 dX9_readNumber_52 rfl (lv_at hl 0 rfl) ?_
      refine t_get E G 9 0 (rfl : ro 3 = 9) (C := RX9) (T := TX9) (N := 3) rfl (by decide) (by decide) (by decide) mw_fl_9_12 (fvl_d rfl) dX9_readNumber_53 ?_
      rw [h8]
      refine lv_iconst (v := 1) E.1 E.2.1 dX9_readNumber_56 (by decide) ?_
      refine t_vv E G hl (tp_blame_z l D K ad zz2 oo5 qq1 aqq1 (1 : Int32) (iv_mono (iv_lit (lo := 1) (hi := 1) 1 (by decide) (by decide)) (by decide) (by decide))) 7 (at_ro (i := 0) aqq1 (by decide) : ro qq1 = 7) (by decide) rfl rfl 1 rfl mw_code_X7_blame mw_ini_7 mw_ml_9_52 mw_inst_X7_blame mw_sel_X7_blame hd_X7_blame ⟨Nat.le_trans (by decide) hfr, Nat.le_trans (by decide) hlo⟩ rfl rfl rfl (Nat.le_of_ble_eq_true rfl) dX9_readNumber_57 (fun zz23 H locs hp25 G => ?_)
      obtain ⟨oo26, kk27, h28⟩ := hp25
      have kk29 : KN z zz23 := KF.tr kk7 (KT.n kk27)
      have h30 : tP zz23 3 0 = qq1 := KF.p kk27 h8
      have h31 : tA zz23 4 = tA z 4 := (KF.a kk27 34 (rfl : ro 4 = 34) rfl).trans h9
      refine lv_goto (tgt := 76) E.1 E.2.1 dX9_readNumber_60 (by decide) ?_
      exact RET G ⟨oo26, kk29, (fun b _ => by rw [h31]), (fun h => absurd (by rw [← eqq1] at h; exact h) h28)⟩ dX9_readNumber_76
    · skip
      have b32 : iv 0 99999 v17 := le_r (Int32.not_lt.mp c20) bx1 b19 (by decide)
      refine lv_aload_n E.1 E.2.1 dX9_readNumber_41 rfl (lv_at hl 0 rfl) ?_
      refine t_get E G 9 0 (rfl : ro 3 = 9) (C := RX9) (T := TX9) (N := 3) rfl (by decide) (by decide) (by decide) mw_fl_9_12 (fvl_d rfl) dX9_readNumber_42 ?_
      rw [h8]
      refine t_get E G 7 4 (at_ro (i := 0) aqq1 (by decide) : ro qq1 = 7) (C := RX7) (T := TX7) (N := 7) rfl (by decide) (by decide) (by decide) mw_fl_9_82 (fvl_i rfl) dX9_readNumber_45 ?_
      refine m_ci v17 e18.symm ?_
      refine lv_iload_n E.1 E.2.1 dX9_readNumber_48 rfl (lv_at hl 3 rfl) ?_
      refine lv_icmp_le (tgt := 63) E.1 E.2.1 dX9_readNumber_49 (by decide) (fun c34 => ?_) (fun c34 => ?_)
      · skip
        have b35 : iv 0 20 v17 := le_l c34 b32 bx2 (by decide)
        have b36 : iv 0 20 x2 := le_r c34 b32 bx2 (by decide)
        refine lv_aload_n E.1 E.2.1 dX9_readNumber_63 rfl (lv_at hl 0 rfl) ?_
        refine t_get E G 9 2 (rfl : ro 3 = 9) (C := RX9) (T := TX9) (N := 3) rfl (by decide) (by decide) (by decide) mw_fl_9_25 (v := .ref (ad 4)) (fvl_o (n := 1) rfl) dX9_readNumber_64 ?_
        refine lv_iload_n E.1 E.2.1 dX9_readNumber_67 rfl (lv_at hl 1 rfl) ?_
        refine lv_aload_n E.1 E.2.1 dX9_readNumber_68 rfl (lv_at hl 0 rfl) ?_
        refine t_get E G 9 0 (rfl : ro 3 = 9) (C := RX9) (T := TX9) (N := 3) rfl (by decide) (by decide) (by decide) mw_fl_9_12 (fvl_d rfl) dX9_readNumber_69 ?_
        rw [h8]
        refine t_get E G 7 4 (at_ro (i := 0) aqq1 (by decide) : ro qq1 = 7) (C := RX7) (T := TX7) (N := 7) rfl (by decide) (by decide) (by decide) mw_fl_9_82 (fvl_i rfl) dX9_readNumber_72 ?_
        refine m_ci v17 e18.symm ?_
        refine t_iast E G 34 (rfl : ro 4 = 34) (by decide) (by decide) rfl (n := 4) rfl (by unfold vp_in; decide) dX9_readNumber_75 (fun H locs G => ?_)
        obtain ⟨zz40, G, oo41, kk42, h43, h44, h45, h38, h39⟩ : ∃ u : TS, mG D A s H locs (wd K ad u) ∧ Ok u ∧ KN z u ∧ tI u qq1 3 = v11 ∧ tI u qq1 4 = v17 ∧ tP u 3 0 = qq1 ∧ (∀ b : Nat, b ≠ 3 → tA u 4 b = tA z 4 b) ∧ (tA u 4 3 = v17) := ⟨_, G, ok_uc oo5 34 (rfl : ro 4 = 34) (by decide) (iv_full _) (by decide), KF.tr kk7 (KF_r 34 (rfl : ro 4 = 34) (by decide)), e12.symm, e18.symm, h8, (fun b hb => by show (upd (tA _ 4) _ _) b = _; unfold upd; rw [if_neg (fun e => hb (e.trans (by decide))), h9]), sR_self⟩
        exact RET G ⟨oo41, kk42, h38, (fun _ => by rw [h39]; exact ⟨Int32.le_iff_toInt_le.mp (Int32.not_lt.mp c20), Int32.le_iff_toInt_le.mp c34⟩)⟩ dX9_readNumber_76
      · skip
        refine lv_aload_n E.1 E.2.1 dX9_readNumber_52 rfl (lv_at hl 0 rfl) ?_
        refine t_get E G 9 0 (rfl : ro 3 = 9) (C := RX9) (T := TX9) (N := 3) rfl (by decide) (by decide) (by decide) mw_fl_9_12 (fvl_d rfl) dX9_readNumber_53 ?_
        rw [h8]
        refine lv_iconst (v := 1) E.1 E.2.1 dX9_readNumber_56 (by decide) ?_
        refine t_vv E G hl (tp_blame_z l D K ad zz2 oo5 qq1 aqq1 (1 : Int32) (iv_mono (iv_lit (lo := 1) (hi := 1) 1 (by decide) (by decide)) (by decide) (by decide))) 7 (at_ro (i := 0) aqq1 (by decide) : ro qq1 = 7) (by decide) rfl rfl 1 rfl mw_code_X7_blame mw_ini_7 mw_ml_9_52 mw_inst_X7_blame mw_sel_X7_blame hd_X7_blame ⟨Nat.le_trans (by decide) hfr, Nat.le_trans (by decide) hlo⟩ rfl rfl rfl (Nat.le_of_ble_eq_true rfl) dX9_readNumber_57 (fun zz47 H locs hp49 G => ?_)
        obtain ⟨oo50, kk51, h52⟩ := hp49
        have kk53 : KN z zz47 := KF.tr kk7 (KT.n kk51)
        have h54 : tP zz47 3 0 = qq1 := KF.p kk51 h8
        have h55 : tA zz47 4 = tA z 4 := (KF.a kk51 34 (rfl : ro 4 = 34) rfl).trans h9
        refine lv_goto (tgt := 76) E.1 E.2.1 dX9_readNumber_60 (by decide) ?_
        exact RET G ⟨oo50, kk53, (fun b _ => by rw [h55]), (fun h => absurd (by rw [← eqq1] at h; exact h) h52)⟩ dX9_readNumber_76
  · skip
    have b56 : iv 0 41 v11 := ne_hi c14 b13 (by decide) (by decide)
    refine lv_aload_n E.1 E.2.1 dX9_readNumber_19 rfl (lv_at hl 0 rfl) ?_
    refine t_get E G 9 0 (rfl : ro 3 = 9) (C := RX9) (T := TX9) (N := 3) rfl (by decide) (by decide) (by decide) mw_fl_9_12 (fvl_d rfl) dX9_readNumber_20 ?_
    rw [h8]
    refine lv_iconst (v := 0) E.1 E.2.1 dX9_readNumber_23 (by decide) ?_
    refine t_vv E G hl (tp_blame_z l D K ad zz2 oo5 qq1 aqq1 (0 : Int32) (iv_mono (iv_lit (lo := 0) (hi := 0) 0 (by decide) (by decide)) (by decide) (by decide))) 7 (at_ro (i := 0) aqq1 (by decide) : ro qq1 = 7) (by decide) rfl rfl 1 rfl mw_code_X7_blame mw_ini_7 mw_ml_9_52 mw_inst_X7_blame mw_sel_X7_blame hd_X7_blame ⟨Nat.le_trans (by decide) hfr, Nat.le_trans (by decide) hlo⟩ rfl rfl rfl (Nat.le_of_ble_eq_true rfl) dX9_readNumber_24 (fun zz58 H locs hp60 G => ?_)
    obtain ⟨oo61, kk62, h63⟩ := hp60
    have kk64 : KN z zz58 := KF.tr kk7 (KT.n kk62)
    have h65 : tP zz58 3 0 = qq1 := KF.p kk62 h8
    have h66 : tA zz58 4 = tA z 4 := (KF.a kk62 34 (rfl : ro 4 = 34) rfl).trans h9
    refine lv_goto (tgt := 76) E.1 E.2.1 dX9_readNumber_27 (by decide) ?_
    exact RET G ⟨oo61, kk64, (fun b _ => by rw [h66]), (fun h => absurd (by rw [← eqq1] at h; exact h) h63)⟩ dX9_readNumber_76
