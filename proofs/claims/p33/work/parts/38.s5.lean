theorem mw_code_X7_isWordAt : (Cond.code yX7_isWordAt cX7_isWordAt 3 (some .boolean) : Cond) ∈ cw := cw_of (List.mem_append_right _ (List.mem_append_right _ (List.mem_append_right _ (List.mem_append_left _ (List.mem_of_getElem? (i := 44) rfl))))) (by decide +kernel)
theorem mw_code_X7_letterAt : (Cond.code yX7_letterAt cX7_letterAt 2 (some .boolean) : Cond) ∈ cw := cw_of (List.mem_append_right _ (List.mem_append_right _ (List.mem_append_left _ (List.mem_of_getElem? (i := 227) rfl)))) (by decide +kernel)
theorem mw_inst_X7_isWordAt : (Cond.instanceMethod yX7_isWordAt : Cond) ∈ cw := cw_of (List.mem_append_right _ (List.mem_append_right _ (List.mem_append_right _ (List.mem_append_left _ (List.mem_of_getElem? (i := 43) (by decide +kernel)))))) (by decide +kernel)
theorem mw_inst_X7_letterAt : (Cond.instanceMethod yX7_letterAt : Cond) ∈ cw := cw_of (List.mem_append_right _ (List.mem_append_right _ (List.mem_append_left _ (List.mem_of_getElem? (i := 226) (by decide +kernel))))) (by decide +kernel)
theorem mw_ml_7_41 : (Cond.methodLink RX7 41 yX7_letterAt : Cond) ∈ cw := cw_of (List.mem_append_right _ (List.mem_append_right _ (List.mem_append_left _ (List.mem_of_getElem? (i := 224) (by decide +kernel))))) (by decide +kernel)
theorem mw_ml_7_52 : (Cond.methodLink RX7 52 yJ0_length_8abf5 : Cond) ∈ cw := cw_of (List.mem_append_right _ (List.mem_append_right _ (List.mem_append_left _ (List.mem_of_getElem? (i := 233) (by decide +kernel))))) (by decide +kernel)
theorem mw_ml_7_62 : (Cond.methodLink RX7 62 yX7_isWordAt : Cond) ∈ cw := cw_of (List.mem_append_right _ (List.mem_append_right _ (List.mem_append_right _ (List.mem_append_left _ (List.mem_of_getElem? (i := 41) (by decide +kernel)))))) (by decide +kernel)
theorem mw_sel_X7_isWordAt : (Cond.selects RX7 yX7_isWordAt yX7_isWordAt : Cond) ∈ cw := cw_of (List.mem_append_left _ (List.mem_of_getElem? (i := 5) (by decide +kernel))) (by decide +kernel)
theorem mw_sel_X7_letterAt : (Cond.selects RX7 yX7_letterAt yX7_letterAt : Cond) ∈ cw := cw_of (List.mem_append_left _ (List.mem_of_getElem? (i := 3) (by decide +kernel))) (by decide +kernel)
theorem dX7_readWord_0 : decode cX7_readWord 0 = .ok (.aload_n 0, 1) := by decide +kernel
theorem dX7_readWord_1 : decode cX7_readWord 1 = .ok (.getfield 31, 3) := by decide +kernel
theorem dX7_readWord_4 : decode cX7_readWord 4 = .ok (.aload_n 0, 1) := by decide +kernel
theorem dX7_readWord_5 : decode cX7_readWord 5 = .ok (.getfield 15, 3) := by decide +kernel
theorem dX7_readWord_8 : decode cX7_readWord 8 = .ok (.if_icmp .ge 27, 3) := by decide +kernel
theorem dX7_readWord_11 : decode cX7_readWord 11 = .ok (.aload_n 0, 1) := by decide +kernel
theorem dX7_readWord_12 : decode cX7_readWord 12 = .ok (.aload_n 0, 1) := by decide +kernel
theorem dX7_readWord_13 : decode cX7_readWord 13 = .ok (.getfield 31, 3) := by decide +kernel
theorem dX7_readWord_16 : decode cX7_readWord 16 = .ok (.invokevirtual 41, 3) := by decide +kernel
theorem dX7_readWord_19 : decode cX7_readWord 19 = .ok (.ifCond .eq 16, 3) := by decide +kernel
theorem dX7_readWord_22 : decode cX7_readWord 22 = .ok (.aload_n 0, 1) := by decide +kernel
theorem dX7_readWord_23 : decode cX7_readWord 23 = .ok (.dup, 1) := by decide +kernel
theorem dX7_readWord_24 : decode cX7_readWord 24 = .ok (.getfield 31, 3) := by decide +kernel
theorem dX7_readWord_27 : decode cX7_readWord 27 = .ok (.iconst 1, 1) := by decide +kernel
theorem dX7_readWord_28 : decode cX7_readWord 28 = .ok (.iadd, 1) := by decide +kernel
theorem dX7_readWord_29 : decode cX7_readWord 29 = .ok (.putfield 31, 3) := by decide +kernel
theorem dX7_readWord_32 : decode cX7_readWord 32 = .ok (.goto (-32), 3) := by decide +kernel
theorem dX7_readWord_35 : decode cX7_readWord 35 = .ok (.aload_n 0, 1) := by decide +kernel
theorem dX7_readWord_36 : decode cX7_readWord 36 = .ok (.bipush 41, 2) := by decide +kernel
theorem dX7_readWord_38 : decode cX7_readWord 38 = .ok (.putfield 22, 3) := by decide +kernel
theorem dX7_readWord_41 : decode cX7_readWord 41 = .ok (.iconst 0, 1) := by decide +kernel
theorem dX7_readWord_42 : decode cX7_readWord 42 = .ok (.istore_n 1, 1) := by decide +kernel
theorem dX7_readWord_43 : decode cX7_readWord 43 = .ok (.iconst 0, 1) := by decide +kernel
theorem dX7_readWord_44 : decode cX7_readWord 44 = .ok (.istore_n 2, 1) := by decide +kernel
theorem dX7_readWord_45 : decode cX7_readWord 45 = .ok (.iconst 0, 1) := by decide +kernel
theorem dX7_readWord_46 : decode cX7_readWord 46 = .ok (.istore_n 3, 1) := by decide +kernel
theorem dX7_readWord_47 : decode cX7_readWord 47 = .ok (.iload_n 3, 1) := by decide +kernel
theorem dX7_readWord_48 : decode cX7_readWord 48 = .ok (.ldc 50, 2) := by decide +kernel
theorem dX7_readWord_50 : decode cX7_readWord 50 = .ok (.invokevirtual 52, 3) := by decide +kernel
theorem dX7_readWord_53 : decode cX7_readWord 53 = .ok (.if_icmp .ge 55, 3) := by decide +kernel
theorem dX7_readWord_56 : decode cX7_readWord 56 = .ok (.ldc 50, 2) := by decide +kernel
theorem dX7_readWord_58 : decode cX7_readWord 58 = .ok (.iload_n 3, 1) := by decide +kernel
theorem dX7_readWord_59 : decode cX7_readWord 59 = .ok (.invokevirtual 58, 3) := by decide +kernel
theorem dX7_readWord_62 : decode cX7_readWord 62 = .ok (.bipush 32, 2) := by decide +kernel
theorem dX7_readWord_64 : decode cX7_readWord 64 = .ok (.if_icmp .ne 38, 3) := by decide +kernel
theorem dX7_readWord_67 : decode cX7_readWord 67 = .ok (.iload_n 3, 1) := by decide +kernel
theorem dX7_readWord_68 : decode cX7_readWord 68 = .ok (.iload_n 1, 1) := by decide +kernel
theorem dX7_readWord_69 : decode cX7_readWord 69 = .ok (.isub, 1) := by decide +kernel
theorem dX7_readWord_70 : decode cX7_readWord 70 = .ok (.aload_n 0, 1) := by decide +kernel
theorem dX7_readWord_71 : decode cX7_readWord 71 = .ok (.getfield 31, 3) := by decide +kernel
theorem dX7_readWord_74 : decode cX7_readWord 74 = .ok (.aload_n 0, 1) := by decide +kernel
theorem dX7_readWord_75 : decode cX7_readWord 75 = .ok (.getfield 28, 3) := by decide +kernel
theorem dX7_readWord_78 : decode cX7_readWord 78 = .ok (.isub, 1) := by decide +kernel
theorem dX7_readWord_79 : decode cX7_readWord 79 = .ok (.if_icmp .ne 16, 3) := by decide +kernel
theorem dX7_readWord_82 : decode cX7_readWord 82 = .ok (.aload_n 0, 1) := by decide +kernel
theorem dX7_readWord_83 : decode cX7_readWord 83 = .ok (.iload_n 1, 1) := by decide +kernel
theorem dX7_readWord_84 : decode cX7_readWord 84 = .ok (.invokevirtual 62, 3) := by decide +kernel
theorem dX7_readWord_87 : decode cX7_readWord 87 = .ok (.ifCond .eq 8, 3) := by decide +kernel
theorem dX7_readWord_90 : decode cX7_readWord 90 = .ok (.aload_n 0, 1) := by decide +kernel
theorem dX7_readWord_91 : decode cX7_readWord 91 = .ok (.iload_n 2, 1) := by decide +kernel
theorem dX7_readWord_92 : decode cX7_readWord 92 = .ok (.putfield 22, 3) := by decide +kernel
theorem dX7_readWord_95 : decode cX7_readWord 95 = .ok (.iinc 2 1, 3) := by decide +kernel
theorem dX7_readWord_98 : decode cX7_readWord 98 = .ok (.iload_n 3, 1) := by decide +kernel
theorem dX7_readWord_99 : decode cX7_readWord 99 = .ok (.iconst 1, 1) := by decide +kernel
theorem dX7_readWord_100 : decode cX7_readWord 100 = .ok (.iadd, 1) := by decide +kernel
theorem dX7_readWord_101 : decode cX7_readWord 101 = .ok (.istore_n 1, 1) := by decide +kernel
theorem dX7_readWord_102 : decode cX7_readWord 102 = .ok (.iinc 3 1, 3) := by decide +kernel
theorem dX7_readWord_105 : decode cX7_readWord 105 = .ok (.goto (-58), 3) := by decide +kernel
theorem dX7_readWord_108 : decode cX7_readWord 108 = .ok (.return_, 1) := by decide +kernel
theorem hd_X7_isWordAt : yX7_isWordAt.cls ≠ "java/lang/invoke/MethodHandle" ∧ yX7_isWordAt.cls ≠ "java/lang/invoke/VarHandle" ∧ (parseMethodDescriptor yX7_isWordAt.desc).map (fun d => d.parameters.length) = some 1 := ⟨by decide +kernel, by decide +kernel, by decide +kernel⟩
theorem hd_X7_letterAt : yX7_letterAt.cls ≠ "java/lang/invoke/MethodHandle" ∧ yX7_letterAt.cls ≠ "java/lang/invoke/VarHandle" ∧ (parseMethodDescriptor yX7_letterAt.desc).map (fun d => d.parameters.length) = some 1 := ⟨by decide +kernel, by decide +kernel, by decide +kernel⟩
def bln (n : Nat) : Int := (((sByt.getD 0 []).take n).filter (fun x => x = 32)).length
theorem bl_s : ∀ n, n < 96 → ((sByt.getD 0 []).getD n 0 &&& 255 = 32 → bln n + 1 ≤ bln (n + 1)) ∧ bln n ≤ bln (n + 1) := by decide +kernel
theorem bl_20 : ∀ n, n < 97 → bln n ≤ 20 := by decide +kernel
theorem bl_0 : (0 : Int32).toInt ≤ bln (0 : Int32).toNatClampNeg := by decide +kernel
theorem rw_1 {i f r s v1 v2 : Int32} (bi : iv 0 95 i) (bf : iv 0 96 f) (br : iv 0 400 r) (bs : iv 0 400 s) (e1 : v1 = i - f) (e2 : v2 = r - s) (h : v1 = v2) : f.toInt + (r.toInt - s.toInt) ≤ 96 := by
  obtain ⟨i1, i2⟩ := bi
  obtain ⟨f1, f2⟩ := bf
  obtain ⟨r1, r2⟩ := br
  obtain ⟨s1, s2⟩ := bs
  have q1 : (i - f).toInt = i.toInt - f.toInt := ti_sub (by omega) (by omega)
  have q2 : (r - s).toInt = r.toInt - s.toInt := ti_sub (by omega) (by omega)
  have q3 : (i - f).toInt = (r - s).toInt := by rw [← e1, ← e2, h]
  omega
theorem bl_up {i i' w w' c : Int32} (bi : iv 0 95 i) (hw : w.toInt ≤ bln i.toNatClampNeg) (ec : c = (sByt.getD 0 []).getD i.toNatClampNeg 0 &&& 255) (hc : c = 32) (ei : i'.toInt = i.toInt + 1) (ew : w'.toInt = w.toInt + 1) : w'.toInt ≤ bln i'.toNatClampNeg := by
  have n := iv_nat bi (by decide)
  have b2 := bi.2
  have e : i'.toNatClampNeg = i.toNatClampNeg + 1 := by
    have : i'.toNatClampNeg = i'.toInt.toNat := rfl
    omega
  have q := (bl_s i.toNatClampNeg (by omega)).1 (ec.symm.trans hc)
  rw [e]; omega
theorem bl_st {i i' w : Int32} (bi : iv 0 95 i) (hw : w.toInt ≤ bln i.toNatClampNeg) (ei : i'.toInt = i.toInt + 1) : w.toInt ≤ bln i'.toNatClampNeg := by
  have n := iv_nat bi (by decide)
  have b2 := bi.2
  have e : i'.toNatClampNeg = i.toNatClampNeg + 1 := by
    have : i'.toNatClampNeg = i'.toInt.toNat := rfl
    omega
  have q := (bl_s i.toNatClampNeg (by omega)).2
  rw [e]; omega
theorem bl_iv {i w w' : Int32} (bi : iv 0 96 i) (hw : w.toInt ≤ bln i.toNatClampNeg) (b : iv 0 40 w) : iv 0 20 w := by
  have n := iv_nat bi (by decide)
  have b2 := bi.2
  have q := bl_20 i.toNatClampNeg (by omega)
  exact ⟨b.1, by omega⟩
set_option maxHeartbeats 4000000 in
set_option maxRecDepth 100000 in
theorem tp_readWord (l : Launch) (D : va_G) (K : Nat → ClassId) (ad : Nat → Nat) (z : TS) (o : Ok z) (p0 : Nat) (ap0 : at_ 7 p0 = true) (hs : tI z p0 5 = tI z p0 6) : cV l yX7_readWord cX7_readWord 4 ({ frames := 5, cells := 0, slots := 0, locals := 107 }) D K ad z [.ref (ad p0)] (fun u => Ok u ∧ KT z u) := by
  refine t_enterV (by decide) (Nat.le_of_ble_eq_true rfl) rfl rfl ?_
  intro p e s m args below meth c A R Q H locs ls E hfr hlo RET G hl
  have E : mE p s m meth c cX7_readWord args 4 RX7 D K A := E
  have hl : lv_has ls 4 [(0, .ref (ad p0))] := hl
  have LOOP0 : ∀ n : Nat, ∀ (zz1 : TS) (H : Heap) (locs : List Loc) (ls : Array Slot), mG D A s H locs (wd K ad zz1) → Ok zz1 → KT z zz1 → 400 < (tI zz1 p0 6).toInt + (n : Int) → lv_has ls 4 [(0, .ref (ad p0))] → W p l e R s m args below meth c H locs 0 0 Q (F0 m 0 ls []) := by
    intro n
    induction n with
    | zero =>
      intro zz1 H locs ls G oo2 kk3 m4 hl
      exact absurd m4 (by have := (iv_mono (oo2.i (j := p0) 7 6 (at_ro (i := 0) ap0 (by decide) : ro p0 = 7)) (show (0 : Int) ≤ ilo 7 6 by decide) (show ihi 7 6 ≤ 400 by decide)).2; omega)
    | succ n ih0 =>
      intro zz1 H locs ls G oo2 kk3 m4 hl
      refine lv_aload_n E.1 E.2.1 dX7_readWord_0 rfl (lv_at hl 0 rfl) ?_
      refine t_get E G 7 6 (at_ro (i := 0) ap0 (by decide) : ro p0 = 7) (C := RX7) (T := TX7) (N := 7) rfl (by decide) (by decide) (by decide) mw_fl_7_31 (fvl_i rfl) dX7_readWord_1 ?_
      refine lv_topi (fun v5 e6 => ?_)
      have b7 : iv 0 400 v5 := by rw [e6]; exact oo2.i 7 6 (at_ro (i := 0) ap0 (by decide) : ro p0 = 7)
      refine lv_aload_n E.1 E.2.1 dX7_readWord_4 rfl (lv_at hl 0 rfl) ?_
      refine t_get E G 7 1 (at_ro (i := 0) ap0 (by decide) : ro p0 = 7) (C := RX7) (T := TX7) (N := 7) rfl (by decide) (by decide) (by decide) mw_fl_7_15 (fvl_i rfl) dX7_readWord_5 ?_
      refine lv_topi (fun v8 e9 => ?_)
      have b10 : iv 0 400 v8 := by rw [e9]; exact oo2.i 7 1 (at_ro (i := 0) ap0 (by decide) : ro p0 = 7)
      refine lv_icmp_ge (tgt := 35) E.1 E.2.1 dX7_readWord_8 (by decide) (fun c11 => ?_) (fun c11 => ?_)
      · skip
        refine lv_aload_n E.1 E.2.1 dX7_readWord_35 rfl (lv_at hl 0 rfl) ?_
        refine lv_bipush (v := 41) E.1 E.2.1 dX7_readWord_36 (by decide) ?_
        refine t_puti E G 7 3 (at_ro (i := 0) ap0 (by decide) : ro p0 = 7) (C := RX7) (T := TX7) (N := 7) rfl (by decide) (by decide) (by decide) rfl rfl mw_fl_7_22 rfl dX7_readWord_38 (fun H locs G => ?_)
        obtain ⟨zz12, G, oo13, kk14, h15, h16, h17⟩ : ∃ u : TS, mG D A s H locs (wd K ad u) ∧ Ok u ∧ KT z u ∧ tI u p0 6 = v5 ∧ tI u p0 1 = v8 ∧ tI u p0 3 = 41 := ⟨_, G, ok_i oo2 7 (at_ro (i := 0) ap0 (by decide) : ro p0 = 7) (iv_mono (iv_lit (lo := 41) (hi := 41) 41 (by decide) (by decide)) (by decide) (by decide)) (by decide), KF.tr kk3 (KF_i 7 (at_ro (i := 0) ap0 (by decide) : ro p0 = 7) (by decide)), (sI_k e6.symm (by decide)), (sI_k e9.symm (by decide)), sI_self⟩
        refine lv_iconst (v := 0) E.1 E.2.1 dX7_readWord_41 (by decide) ?_
        refine lv_istore_n (lv' := [(1, .int 0), (0, .ref (ad p0))]) E.1 E.2.1 dX7_readWord_42 rfl hl (by decide) rfl (fun ls hl => ?_)
        refine lv_iconst (v := 0) E.1 E.2.1 dX7_readWord_43 (by decide) ?_
        refine lv_istore_n (lv' := [(2, .int 0), (1, .int 0), (0, .ref (ad p0))]) E.1 E.2.1 dX7_readWord_44 rfl hl (by decide) rfl (fun ls hl => ?_)
        refine lv_iconst (v := 0) E.1 E.2.1 dX7_readWord_45 (by decide) ?_
        refine lv_istore_n (lv' := [(3, .int 0), (2, .int 0), (1, .int 0), (0, .ref (ad p0))]) E.1 E.2.1 dX7_readWord_46 rfl hl (by decide) rfl (fun ls hl => ?_)
        have LOOP47 : ∀ n : Nat, ∀ (zz21 : TS) (y18 : Int32) (y19 : Int32) (y20 : Int32) (H : Heap) (locs : List Loc) (ls : Array Slot), mG D A s H locs (wd K ad zz21) → Ok zz21 → KT z zz21 → iv 0 96 y18 → iv 0 40 y19 → iv 0 96 y20 → y20.toInt ≤ y18.toInt → y19.toInt ≤ bln y18.toNatClampNeg → 96 < y18.toInt + (n : Int) → lv_has ls 4 [(3, .int y18), (2, .int y19), (1, .int y20), (0, .ref (ad p0))] → W p l e R s m args below meth c H locs 0 0 Q (F0 m 47 ls []) := by
          intro n
          induction n with
          | zero =>
            intro zz21 y18 y19 y20 H locs ls G oo22 kk23 b25 b26 b27 h28 h29 m24 hl
            exact absurd m24 (by have := b25.1; have := b25.2; omega)
          | succ n ih47 =>
            intro zz21 y18 y19 y20 H locs ls G oo22 kk23 b25 b26 b27 h28 h29 m24 hl
            refine lv_iload_n E.1 E.2.1 dX7_readWord_47 rfl (lv_at hl 0 rfl) ?_
            refine t_ldcW E dX7_readWord_48 ?_
            refine t_svi E G hl 0 (by decide) (j_length_0 l D K ad zz21 oo22) rfl 0 rfl mw_code_J0_length_8abf5 mw_ini_J0 mw_ml_7_52 mw_inst_J0_length_8abf5 mw_sel_J0_length_8abf5 hd_J0_length_8abf5 ⟨Nat.le_trans (by decide) hfr, Nat.le_trans (by decide) hlo⟩ rfl rfl rfl (Nat.le_of_ble_eq_true rfl) dX7_readWord_50 (fun r31 zz30 H locs hp32 G => ?_)
            obtain ⟨hz34, b33⟩ := hp32
            rw [hz34] at G
            have e35 := iv_one (y := 96) b33 (by decide)
            subst e35
            refine lv_icmp_ge (tgt := 108) E.1 E.2.1 dX7_readWord_53 (by decide) (fun c36 => ?_) (fun c36 => ?_)
            · skip
              have b37 : iv 96 96 y18 := le_r c36 (iv_lit (lo := 96) (hi := 96) 96 (by decide) (by decide)) b25 (by decide)
              exact RET G ⟨oo22, kk23⟩ dX7_readWord_108
            · skip
              have b38 : iv 0 95 y18 := lt_l (Int32.not_le.mp c36) b25 (iv_lit (lo := 96) (hi := 96) 96 (by decide) (by decide)) (by decide)
              refine t_ldcW E dX7_readWord_56 ?_
              refine lv_iload_n E.1 E.2.1 dX7_readWord_58 rfl (lv_at hl 0 rfl) ?_
              refine t_svi E G hl 0 (by decide) (j_charAt l D K ad zz21 oo22 y18 (iv_mono b38 (by decide) (by decide))) rfl 1 rfl mw_code_J0_charAt_5068e mw_ini_J0 mw_ml_7_58 mw_inst_J0_charAt_5068e mw_sel_J0_charAt_5068e hd_J0_charAt_5068e ⟨Nat.le_trans (by decide) hfr, Nat.le_trans (by decide) hlo⟩ rfl rfl rfl (Nat.le_of_ble_eq_true rfl) dX7_readWord_59 (fun r40 zz39 H locs hp41 G => ?_)
              obtain ⟨hz45, b42, h43, h44⟩ := hp41
              rw [hz45] at G
              refine lv_bipush (v := 32) E.1 E.2.1 dX7_readWord_62 (by decide) ?_
              refine lv_icmp_ne (tgt := 102) E.1 E.2.1 dX7_readWord_64 (by decide) (fun c46 => ?_) (fun c46 => ?_)
              · skip
                obtain ⟨v47, e48⟩ : ∃ w : Int32, w = y18 + (1 : Int32) := ⟨_, rfl⟩
                refine lv_iinc (v := v47) (lv' := [(3, .int v47), (2, .int y19), (1, .int y20), (0, .ref (ad p0))]) E.1 E.2.1 dX7_readWord_102 hl (k := 0) rfl (by rw [e48]; rfl) (by decide) rfl (fun ls hl => ?_)
                have b49 : iv 1 96 v47 := by rw [e48]; exact iv_add b38 (iv_lit (lo := 1) (hi := 1) 1 (by decide) (by decide)) (by decide) (by decide) (by decide) (by decide)
                have t50 : v47.toInt = y18.toInt + 1 := by rw [e48]; exact ti_addc 1 (by decide) b38 (by decide) (by decide)
                refine lv_goto (tgt := 47) E.1 E.2.1 dX7_readWord_105 (by decide) ?_
                exact ih47 zz21 v47 y19 y20 H locs ls G oo22 kk23 (iv_mono b49 (by decide) (by decide)) (iv_mono b26 (by decide) (by decide)) (iv_mono b27 (by decide) (by decide)) (by have h1 := h28; have h2 := t50; omega) (bl_st (iv_mono b38 (by decide) (by decide)) h29 t50) (by have := t50; have := m24; omega) (lv_sub hl [0, 1, 2, 3] rfl)
              · skip
                have b51 : iv 32 32 r40 := iv_eq c46 (iv_lit (lo := 32) (hi := 32) 32 (by decide) (by decide))
                refine lv_iload_n E.1 E.2.1 dX7_readWord_67 rfl (lv_at hl 0 rfl) ?_
                refine lv_iload_n E.1 E.2.1 dX7_readWord_68 rfl (lv_at hl 2 rfl) ?_
                refine lv_isub E.1 E.2.1 dX7_readWord_69 ?_
                refine lv_topi (fun v52 e53 => ?_)
                have b54 : iv (-96) 95 v52 := by rw [e53]; exact iv_sub b38 b27 (by decide) (by decide) (by decide) (by decide)
                refine lv_aload_n E.1 E.2.1 dX7_readWord_70 rfl (lv_at hl 3 rfl) ?_
                refine t_get E G 7 6 (at_ro (i := 0) ap0 (by decide) : ro p0 = 7) (C := RX7) (T := TX7) (N := 7) rfl (by decide) (by decide) (by decide) mw_fl_7_31 (fvl_i rfl) dX7_readWord_71 ?_
                refine lv_topi (fun v55 e56 => ?_)
                have b57 : iv 0 400 v55 := by rw [e56]; exact oo22.i 7 6 (at_ro (i := 0) ap0 (by decide) : ro p0 = 7)
                refine lv_aload_n E.1 E.2.1 dX7_readWord_74 rfl (lv_at hl 3 rfl) ?_
                refine t_get E G 7 5 (at_ro (i := 0) ap0 (by decide) : ro p0 = 7) (C := RX7) (T := TX7) (N := 7) rfl (by decide) (by decide) (by decide) mw_fl_7_28 (fvl_i rfl) dX7_readWord_75 ?_
                refine lv_topi (fun v58 e59 => ?_)
                have b60 : iv 0 400 v58 := by rw [e59]; exact oo22.i 7 5 (at_ro (i := 0) ap0 (by decide) : ro p0 = 7)
                refine lv_isub E.1 E.2.1 dX7_readWord_78 ?_
                refine lv_topi (fun v61 e62 => ?_)
                have b63 : iv (-400) 400 v61 := by rw [e62]; exact iv_sub b57 b60 (by decide) (by decide) (by decide) (by decide)
                refine lv_icmp_ne (tgt := 95) E.1 E.2.1 dX7_readWord_79 (by decide) (fun c64 => ?_) (fun c64 => ?_)
                · skip
                  have b65 : iv 0 20 y19 := bl_iv (w' := 0) (iv_mono b38 (by decide) (by decide)) h29 b26
                  obtain ⟨v66, e67⟩ : ∃ w : Int32, w = y19 + (1 : Int32) := ⟨_, rfl⟩
                  refine lv_iinc (v := v66) (lv' := [(2, .int v66), (3, .int y18), (1, .int y20), (0, .ref (ad p0))]) E.1 E.2.1 dX7_readWord_95 hl (k := 1) rfl (by rw [e67]; rfl) (by decide) rfl (fun ls hl => ?_)
                  have b68 : iv 1 21 v66 := by rw [e67]; exact iv_add b65 (iv_lit (lo := 1) (hi := 1) 1 (by decide) (by decide)) (by decide) (by decide) (by decide) (by decide)
                  have t69 : v66.toInt = y19.toInt + 1 := by rw [e67]; exact ti_addc 1 (by decide) b65 (by decide) (by decide)
                  refine lv_iload_n E.1 E.2.1 dX7_readWord_98 rfl (lv_at hl 1 rfl) ?_
                  refine lv_iconst (v := 1) E.1 E.2.1 dX7_readWord_99 (by decide) ?_
                  refine lv_iadd E.1 E.2.1 dX7_readWord_100 ?_
                  refine lv_topi (fun v70 e71 => ?_)
                  have b72 : iv 1 96 v70 := by rw [e71]; exact iv_add b38 (iv_lit (lo := 1) (hi := 1) 1 (by decide) (by decide)) (by decide) (by decide) (by decide) (by decide)
                  refine lv_istore_n (lv' := [(1, .int v70), (2, .int v66), (3, .int y18), (0, .ref (ad p0))]) E.1 E.2.1 dX7_readWord_101 rfl hl (by decide) rfl (fun ls hl => ?_)
                  obtain ⟨v73, e74⟩ : ∃ w : Int32, w = y18 + (1 : Int32) := ⟨_, rfl⟩
                  refine lv_iinc (v := v73) (lv' := [(3, .int v73), (1, .int v70), (2, .int v66), (0, .ref (ad p0))]) E.1 E.2.1 dX7_readWord_102 hl (k := 2) rfl (by rw [e74]; rfl) (by decide) rfl (fun ls hl => ?_)
                  have b75 : iv 1 96 v73 := by rw [e74]; exact iv_add b38 (iv_lit (lo := 1) (hi := 1) 1 (by decide) (by decide)) (by decide) (by decide) (by decide) (by decide)
                  have t76 : v73.toInt = y18.toInt + 1 := by rw [e74]; exact ti_addc 1 (by decide) b38 (by decide) (by decide)
                  refine lv_goto (tgt := 47) E.1 E.2.1 dX7_readWord_105 (by decide) ?_
                  exact ih47 zz21 v73 v66 v70 H locs ls G oo22 kk23 (iv_mono b75 (by decide) (by decide)) (iv_mono b68 (by decide) (by decide)) (iv_mono b72 (by decide) (by decide)) (by have h2 := t76; have h3 : v70.toInt = y18.toInt + 1 := (by rw [e71]; exact ti_addc 1 (by decide) b38 (by decide) (by decide)); omega) (bl_up (iv_mono b38 (by decide) (by decide)) h29 h44 c46 t76 t69) (by have := t76; have := m24; omega) (lv_sub hl [0, 2, 1, 3] rfl)
                · skip
                  refine lv_aload_n E.1 E.2.1 dX7_readWord_82 rfl (lv_at hl 3 rfl) ?_
                  refine lv_iload_n E.1 E.2.1 dX7_readWord_83 rfl (lv_at hl 2 rfl) ?_
                  have b77 : iv 0 95 y20 := ⟨b27.1, by have h1 := h28; have h2 := b38.2; omega⟩
                  refine t_vi E G hl (tp_isWordAt l D K ad zz21 oo22 p0 ap0 y20 (iv_mono b77 (by decide) (by decide)) (by rw [← e56, ← e59]; exact rw_1 (iv_mono b38 (by decide) (by decide)) (iv_mono b77 (by decide) (by decide)) (iv_mono b57 (by decide) (by decide)) (iv_mono b60 (by decide) (by decide)) e53 e62 c64)) 7 (at_ro (i := 0) ap0 (by decide) : ro p0 = 7) (by decide) rfl rfl 1 rfl mw_code_X7_isWordAt mw_ini_7 mw_ml_7_62 mw_inst_X7_isWordAt mw_sel_X7_isWordAt hd_X7_isWordAt ⟨Nat.le_trans (by decide) hfr, Nat.le_trans (by decide) hlo⟩ rfl rfl rfl (Nat.le_of_ble_eq_true rfl) dX7_readWord_84 (fun r79 zz78 H locs hp80 G => ?_)
                  obtain ⟨hz82, b81⟩ := hp80
                  rw [hz82] at G
                  refine lv_if_eq (tgt := 95) E.1 E.2.1 dX7_readWord_87 (by decide) (fun c83 => ?_) (fun c83 => ?_)
                  · skip
                    have b84 : iv 0 0 r79 := iv_eq c83 (iv_lit (lo := 0) (hi := 0) 0 (by decide) (by decide))
                    have b85 : iv 0 20 y19 := bl_iv (w' := 0) (iv_mono b38 (by decide) (by decide)) h29 b26
                    obtain ⟨v86, e87⟩ : ∃ w : Int32, w = y19 + (1 : Int32) := ⟨_, rfl⟩
                    refine lv_iinc (v := v86) (lv' := [(2, .int v86), (3, .int y18), (1, .int y20), (0, .ref (ad p0))]) E.1 E.2.1 dX7_readWord_95 hl (k := 1) rfl (by rw [e87]; rfl) (by decide) rfl (fun ls hl => ?_)
                    have b88 : iv 1 21 v86 := by rw [e87]; exact iv_add b85 (iv_lit (lo := 1) (hi := 1) 1 (by decide) (by decide)) (by decide) (by decide) (by decide) (by decide)
                    have t89 : v86.toInt = y19.toInt + 1 := by rw [e87]; exact ti_addc 1 (by decide) b85 (by decide) (by decide)
                    refine lv_iload_n E.1 E.2.1 dX7_readWord_98 rfl (lv_at hl 1 rfl) ?_
                    refine lv_iconst (v := 1) E.1 E.2.1 dX7_readWord_99 (by decide) ?_
                    refine lv_iadd E.1 E.2.1 dX7_readWord_100 ?_
                    refine lv_topi (fun v90 e91 => ?_)
                    have b92 : iv 1 96 v90 := by rw [e91]; exact iv_add b38 (iv_lit (lo := 1) (hi := 1) 1 (by decide) (by decide)) (by decide) (by decide) (by decide) (by decide)
                    refine lv_istore_n (lv' := [(1, .int v90), (2, .int v86), (3, .int y18), (0, .ref (ad p0))]) E.1 E.2.1 dX7_readWord_101 rfl hl (by decide) rfl (fun ls hl => ?_)
                    obtain ⟨v93, e94⟩ : ∃ w : Int32, w = y18 + (1 : Int32) := ⟨_, rfl⟩
                    refine lv_iinc (v := v93) (lv' := [(3, .int v93), (1, .int v90), (2, .int v86), (0, .ref (ad p0))]) E.1 E.2.1 dX7_readWord_102 hl (k := 2) rfl (by rw [e94]; rfl) (by decide) rfl (fun ls hl => ?_)
                    have b95 : iv 1 96 v93 := by rw [e94]; exact iv_add b38 (iv_lit (lo := 1) (hi := 1) 1 (by decide) (by decide)) (by decide) (by decide) (by decide) (by decide)
                    have t96 : v93.toInt = y18.toInt + 1 := by rw [e94]; exact ti_addc 1 (by decide) b38 (by decide) (by decide)
                    refine lv_goto (tgt := 47) E.1 E.2.1 dX7_readWord_105 (by decide) ?_
                    exact ih47 zz21 v93 v86 v90 H locs ls G oo22 kk23 (iv_mono b95 (by decide) (by decide)) (iv_mono b88 (by decide) (by decide)) (iv_mono b92 (by decide) (by decide)) (by have h2 := t96; have h3 : v90.toInt = y18.toInt + 1 := (by rw [e91]; exact ti_addc 1 (by decide) b38 (by decide) (by decide)); omega) (bl_up (iv_mono b38 (by decide) (by decide)) h29 h44 c46 t96 t89) (by have := t96; have := m24; omega) (lv_sub hl [0, 2, 1, 3] rfl)
                  · skip
                    have b97 : iv 1 1 r79 := ne_lo c83 b81 (by decide) (by decide)
                    refine lv_aload_n E.1 E.2.1 dX7_readWord_90 rfl (lv_at hl 3 rfl) ?_
                    refine lv_iload_n E.1 E.2.1 dX7_readWord_91 rfl (lv_at hl 1 rfl) ?_
                    refine t_puti E G 7 3 (at_ro (i := 0) ap0 (by decide) : ro p0 = 7) (C := RX7) (T := TX7) (N := 7) rfl (by decide) (by decide) (by decide) rfl rfl mw_fl_7_22 rfl dX7_readWord_92 (fun H locs G => ?_)
                    obtain ⟨zz98, G, oo99, kk100, h101, h102, h103⟩ : ∃ u : TS, mG D A s H locs (wd K ad u) ∧ Ok u ∧ KT z u ∧ tI u p0 6 = v55 ∧ tI u p0 5 = v58 ∧ tI u p0 3 = y19 := ⟨_, G, ok_i oo22 7 (at_ro (i := 0) ap0 (by decide) : ro p0 = 7) (iv_mono b26 (by decide) (by decide)) (by decide), KF.tr kk23 (KF_i 7 (at_ro (i := 0) ap0 (by decide) : ro p0 = 7) (by decide)), (sI_k e56.symm (by decide)), (sI_k e59.symm (by decide)), sI_self⟩
                    have b104 : iv 0 20 y19 := bl_iv (w' := 0) (iv_mono b38 (by decide) (by decide)) h29 b26
                    obtain ⟨v105, e106⟩ : ∃ w : Int32, w = y19 + (1 : Int32) := ⟨_, rfl⟩
                    refine lv_iinc (v := v105) (lv' := [(2, .int v105), (3, .int y18), (1, .int y20), (0, .ref (ad p0))]) E.1 E.2.1 dX7_readWord_95 hl (k := 1) rfl (by rw [e106]; rfl) (by decide) rfl (fun ls hl => ?_)
                    have b107 : iv 1 21 v105 := by rw [e106]; exact iv_add b104 (iv_lit (lo := 1) (hi := 1) 1 (by decide) (by decide)) (by decide) (by decide) (by decide) (by decide)
                    have t108 : v105.toInt = y19.toInt + 1 := by rw [e106]; exact ti_addc 1 (by decide) b104 (by decide) (by decide)
                    refine lv_iload_n E.1 E.2.1 dX7_readWord_98 rfl (lv_at hl 1 rfl) ?_
                    refine lv_iconst (v := 1) E.1 E.2.1 dX7_readWord_99 (by decide) ?_
                    refine lv_iadd E.1 E.2.1 dX7_readWord_100 ?_
                    refine lv_topi (fun v109 e110 => ?_)
                    have b111 : iv 1 96 v109 := by rw [e110]; exact iv_add b38 (iv_lit (lo := 1) (hi := 1) 1 (by decide) (by decide)) (by decide) (by decide) (by decide) (by decide)
                    refine lv_istore_n (lv' := [(1, .int v109), (2, .int v105), (3, .int y18), (0, .ref (ad p0))]) E.1 E.2.1 dX7_readWord_101 rfl hl (by decide) rfl (fun ls hl => ?_)
                    obtain ⟨v112, e113⟩ : ∃ w : Int32, w = y18 + (1 : Int32) := ⟨_, rfl⟩
                    refine lv_iinc (v := v112) (lv' := [(3, .int v112), (1, .int v109), (2, .int v105), (0, .ref (ad p0))]) E.1 E.2.1 dX7_readWord_102 hl (k := 2) rfl (by rw [e113]; rfl) (by decide) rfl (fun ls hl => ?_)
                    have b114 : iv 1 96 v112 := by rw [e113]; exact iv_add b38 (iv_lit (lo := 1) (hi := 1) 1 (by decide) (by decide)) (by decide) (by decide) (by decide) (by decide)
                    have t115 : v112.toInt = y18.toInt + 1 := by rw [e113]; exact ti_addc 1 (by decide) b38 (by decide) (by decide)
                    refine lv_goto (tgt := 47) E.1 E.2.1 dX7_readWord_105 (by decide) ?_
                    exact ih47 zz98 v112 v105 v109 H locs ls G oo99 kk100 (iv_mono b114 (by decide) (by decide)) (iv_mono b107 (by decide) (by decide)) (iv_mono b111 (by decide) (by decide)) (by have h2 := t115; have h3 : v109.toInt = y18.toInt + 1 := (by rw [e110]; exact ti_addc 1 (by decide) b38 (by decide) (by decide)); omega) (bl_up (iv_mono b38 (by decide) (by decide)) h29 h44 c46 t115 t108) (by have := t115; have := m24; omega) (lv_sub hl [0, 2, 1, 3] rfl)
        exact LOOP47 97 zz12 0 0 0 H locs ls G oo13 kk14 (iv_mono (iv_lit (lo := 0) (hi := 0) 0 (by decide) (by decide)) (by decide) (by decide)) (iv_mono (iv_lit (lo := 0) (hi := 0) 0 (by decide) (by decide)) (by decide) (by decide)) (iv_mono (iv_lit (lo := 0) (hi := 0) 0 (by decide) (by decide)) (by decide) (by decide)) (Int.le_refl _) bl_0 (by have := (iv_lit (lo := 0) (hi := 0) 0 (by decide) (by decide)).1; omega) (lv_sub hl [0, 1, 2, 3] rfl)
      · skip
        have b116 : iv 0 399 v5 := lt_l (Int32.not_le.mp c11) b7 b10 (by decide)
        have b117 : iv 1 400 v8 := lt_r (Int32.not_le.mp c11) b7 b10 (by decide)
        refine lv_aload_n E.1 E.2.1 dX7_readWord_11 rfl (lv_at hl 0 rfl) ?_
        refine lv_aload_n E.1 E.2.1 dX7_readWord_12 rfl (lv_at hl 0 rfl) ?_
        refine t_get E G 7 6 (at_ro (i := 0) ap0 (by decide) : ro p0 = 7) (C := RX7) (T := TX7) (N := 7) rfl (by decide) (by decide) (by decide) mw_fl_7_31 (fvl_i rfl) dX7_readWord_13 ?_
        refine m_ci v5 e6.symm ?_
        refine t_vi E G hl (tp_letterAt l D K ad zz1 oo2 p0 ap0 v5 (iv_mono b116 (by decide) (by decide))) 7 (at_ro (i := 0) ap0 (by decide) : ro p0 = 7) (by decide) rfl rfl 1 rfl mw_code_X7_letterAt mw_ini_7 mw_ml_7_41 mw_inst_X7_letterAt mw_sel_X7_letterAt hd_X7_letterAt ⟨Nat.le_trans (by decide) hfr, Nat.le_trans (by decide) hlo⟩ rfl rfl rfl (Nat.le_of_ble_eq_true rfl) dX7_readWord_16 (fun r119 zz118 H locs hp120 G => ?_)
        obtain ⟨hz123, b121, h122⟩ := hp120
        rw [hz123] at G
        refine lv_if_eq (tgt := 35) E.1 E.2.1 dX7_readWord_19 (by decide) (fun c124 => ?_) (fun c124 => ?_)
        · skip
          have b125 : iv 0 0 r119 := iv_eq c124 (iv_lit (lo := 0) (hi := 0) 0 (by decide) (by decide))
          refine lv_aload_n E.1 E.2.1 dX7_readWord_35 rfl (lv_at hl 0 rfl) ?_
          refine lv_bipush (v := 41) E.1 E.2.1 dX7_readWord_36 (by decide) ?_
          refine t_puti E G 7 3 (at_ro (i := 0) ap0 (by decide) : ro p0 = 7) (C := RX7) (T := TX7) (N := 7) rfl (by decide) (by decide) (by decide) rfl rfl mw_fl_7_22 rfl dX7_readWord_38 (fun H locs G => ?_)
          obtain ⟨zz126, G, oo127, kk128, h129, h130, h131⟩ : ∃ u : TS, mG D A s H locs (wd K ad u) ∧ Ok u ∧ KT z u ∧ tI u p0 6 = v5 ∧ tI u p0 1 = v8 ∧ tI u p0 3 = 41 := ⟨_, G, ok_i oo2 7 (at_ro (i := 0) ap0 (by decide) : ro p0 = 7) (iv_mono (iv_lit (lo := 41) (hi := 41) 41 (by decide) (by decide)) (by decide) (by decide)) (by decide), KF.tr kk3 (KF_i 7 (at_ro (i := 0) ap0 (by decide) : ro p0 = 7) (by decide)), (sI_k e6.symm (by decide)), (sI_k e9.symm (by decide)), sI_self⟩
          refine lv_iconst (v := 0) E.1 E.2.1 dX7_readWord_41 (by decide) ?_
          refine lv_istore_n (lv' := [(1, .int 0), (0, .ref (ad p0))]) E.1 E.2.1 dX7_readWord_42 rfl hl (by decide) rfl (fun ls hl => ?_)
          refine lv_iconst (v := 0) E.1 E.2.1 dX7_readWord_43 (by decide) ?_
          refine lv_istore_n (lv' := [(2, .int 0), (1, .int 0), (0, .ref (ad p0))]) E.1 E.2.1 dX7_readWord_44 rfl hl (by decide) rfl (fun ls hl => ?_)
          refine lv_iconst (v := 0) E.1 E.2.1 dX7_readWord_45 (by decide) ?_
          refine lv_istore_n (lv' := [(3, .int 0), (2, .int 0), (1, .int 0), (0, .ref (ad p0))]) E.1 E.2.1 dX7_readWord_46 rfl hl (by decide) rfl (fun ls hl => ?_)
          have LOOP47 : ∀ n : Nat, ∀ (zz135 : TS) (y132 : Int32) (y133 : Int32) (y134 : Int32) (H : Heap) (locs : List Loc) (ls : Array Slot), mG D A s H locs (wd K ad zz135) → Ok zz135 → KT z zz135 → iv 0 96 y132 → iv 0 40 y133 → iv 0 96 y134 → y134.toInt ≤ y132.toInt → y133.toInt ≤ bln y132.toNatClampNeg → 96 < y132.toInt + (n : Int) → lv_has ls 4 [(3, .int y132), (2, .int y133), (1, .int y134), (0, .ref (ad p0))] → W p l e R s m args below meth c H locs 0 0 Q (F0 m 47 ls []) := by
            intro n
            induction n with
            | zero =>
              intro zz135 y132 y133 y134 H locs ls G oo136 kk137 b139 b140 b141 h142 h143 m138 hl
              exact absurd m138 (by have := b139.1; have := b139.2; omega)
            | succ n ih47 =>
              intro zz135 y132 y133 y134 H locs ls G oo136 kk137 b139 b140 b141 h142 h143 m138 hl
              refine lv_iload_n E.1 E.2.1 dX7_readWord_47 rfl (lv_at hl 0 rfl) ?_
              refine t_ldcW E dX7_readWord_48 ?_
              refine t_svi E G hl 0 (by decide) (j_length_0 l D K ad zz135 oo136) rfl 0 rfl mw_code_J0_length_8abf5 mw_ini_J0 mw_ml_7_52 mw_inst_J0_length_8abf5 mw_sel_J0_length_8abf5 hd_J0_length_8abf5 ⟨Nat.le_trans (by decide) hfr, Nat.le_trans (by decide) hlo⟩ rfl rfl rfl (Nat.le_of_ble_eq_true rfl) dX7_readWord_50 (fun r145 zz144 H locs hp146 G => ?_)
              obtain ⟨hz148, b147⟩ := hp146
              rw [hz148] at G
              have e149 := iv_one (y := 96) b147 (by decide)
              subst e149
              refine lv_icmp_ge (tgt := 108) E.1 E.2.1 dX7_readWord_53 (by decide) (fun c150 => ?_) (fun c150 => ?_)
              · skip
                have b151 : iv 96 96 y132 := le_r c150 (iv_lit (lo := 96) (hi := 96) 96 (by decide) (by decide)) b139 (by decide)
                exact RET G ⟨oo136, kk137⟩ dX7_readWord_108
              · skip
                have b152 : iv 0 95 y132 := lt_l (Int32.not_le.mp c150) b139 (iv_lit (lo := 96) (hi := 96) 96 (by decide) (by decide)) (by decide)
                refine t_ldcW E dX7_readWord_56 ?_
                refine lv_iload_n E.1 E.2.1 dX7_readWord_58 rfl (lv_at hl 0 rfl) ?_
                refine t_svi E G hl 0 (by decide) (j_charAt l D K ad zz135 oo136 y132 (iv_mono b152 (by decide) (by decide))) rfl 1 rfl mw_code_J0_charAt_5068e mw_ini_J0 mw_ml_7_58 mw_inst_J0_charAt_5068e mw_sel_J0_charAt_5068e hd_J0_charAt_5068e ⟨Nat.le_trans (by decide) hfr, Nat.le_trans (by decide) hlo⟩ rfl rfl rfl (Nat.le_of_ble_eq_true rfl) dX7_readWord_59 (fun r154 zz153 H locs hp155 G => ?_)
                obtain ⟨hz159, b156, h157, h158⟩ := hp155
                rw [hz159] at G
                refine lv_bipush (v := 32) E.1 E.2.1 dX7_readWord_62 (by decide) ?_
                refine lv_icmp_ne (tgt := 102) E.1 E.2.1 dX7_readWord_64 (by decide) (fun c160 => ?_) (fun c160 => ?_)
                · skip
                  obtain ⟨v161, e162⟩ : ∃ w : Int32, w = y132 + (1 : Int32) := ⟨_, rfl⟩
                  refine lv_iinc (v := v161) (lv' := [(3, .int v161), (2, .int y133), (1, .int y134), (0, .ref (ad p0))]) E.1 E.2.1 dX7_readWord_102 hl (k := 0) rfl (by rw [e162]; rfl) (by decide) rfl (fun ls hl => ?_)
                  have b163 : iv 1 96 v161 := by rw [e162]; exact iv_add b152 (iv_lit (lo := 1) (hi := 1) 1 (by decide) (by decide)) (by decide) (by decide) (by decide) (by decide)
                  have t164 : v161.toInt = y132.toInt + 1 := by rw [e162]; exact ti_addc 1 (by decide) b152 (by decide) (by decide)
                  refine lv_goto (tgt := 47) E.1 E.2.1 dX7_readWord_105 (by decide) ?_
                  exact ih47 zz135 v161 y133 y134 H locs ls G oo136 kk137 (iv_mono b163 (by decide) (by decide)) (iv_mono b140 (by decide) (by decide)) (iv_mono b141 (by decide) (by decide)) (by have h1 := h142; have h2 := t164; omega) (bl_st (iv_mono b152 (by decide) (by decide)) h143 t164) (by have := t164; have := m138; omega) (lv_sub hl [0, 1, 2, 3] rfl)
                · skip
                  have b165 : iv 32 32 r154 := iv_eq c160 (iv_lit (lo := 32) (hi := 32) 32 (by decide) (by decide))
                  refine lv_iload_n E.1 E.2.1 dX7_readWord_67 rfl (lv_at hl 0 rfl) ?_
                  refine lv_iload_n E.1 E.2.1 dX7_readWord_68 rfl (lv_at hl 2 rfl) ?_
                  refine lv_isub E.1 E.2.1 dX7_readWord_69 ?_
                  refine lv_topi (fun v166 e167 => ?_)
                  have b168 : iv (-96) 95 v166 := by rw [e167]; exact iv_sub b152 b141 (by decide) (by decide) (by decide) (by decide)
                  refine lv_aload_n E.1 E.2.1 dX7_readWord_70 rfl (lv_at hl 3 rfl) ?_
                  refine t_get E G 7 6 (at_ro (i := 0) ap0 (by decide) : ro p0 = 7) (C := RX7) (T := TX7) (N := 7) rfl (by decide) (by decide) (by decide) mw_fl_7_31 (fvl_i rfl) dX7_readWord_71 ?_
                  refine lv_topi (fun v169 e170 => ?_)
                  have b171 : iv 0 400 v169 := by rw [e170]; exact oo136.i 7 6 (at_ro (i := 0) ap0 (by decide) : ro p0 = 7)
                  refine lv_aload_n E.1 E.2.1 dX7_readWord_74 rfl (lv_at hl 3 rfl) ?_
                  refine t_get E G 7 5 (at_ro (i := 0) ap0 (by decide) : ro p0 = 7) (C := RX7) (T := TX7) (N := 7) rfl (by decide) (by decide) (by decide) mw_fl_7_28 (fvl_i rfl) dX7_readWord_75 ?_
                  refine lv_topi (fun v172 e173 => ?_)
                  have b174 : iv 0 400 v172 := by rw [e173]; exact oo136.i 7 5 (at_ro (i := 0) ap0 (by decide) : ro p0 = 7)
                  refine lv_isub E.1 E.2.1 dX7_readWord_78 ?_
                  refine lv_topi (fun v175 e176 => ?_)
                  have b177 : iv (-400) 400 v175 := by rw [e176]; exact iv_sub b171 b174 (by decide) (by decide) (by decide) (by decide)
                  refine lv_icmp_ne (tgt := 95) E.1 E.2.1 dX7_readWord_79 (by decide) (fun c178 => ?_) (fun c178 => ?_)
                  · skip
                    have b179 : iv 0 20 y133 := bl_iv (w' := 0) (iv_mono b152 (by decide) (by decide)) h143 b140
                    obtain ⟨v180, e181⟩ : ∃ w : Int32, w = y133 + (1 : Int32) := ⟨_, rfl⟩
                    refine lv_iinc (v := v180) (lv' := [(2, .int v180), (3, .int y132), (1, .int y134), (0, .ref (ad p0))]) E.1 E.2.1 dX7_readWord_95 hl (k := 1) rfl (by rw [e181]; rfl) (by decide) rfl (fun ls hl => ?_)
                    have b182 : iv 1 21 v180 := by rw [e181]; exact iv_add b179 (iv_lit (lo := 1) (hi := 1) 1 (by decide) (by decide)) (by decide) (by decide) (by decide) (by decide)
                    have t183 : v180.toInt = y133.toInt + 1 := by rw [e181]; exact ti_addc 1 (by decide) b179 (by decide) (by decide)
                    refine lv_iload_n E.1 E.2.1 dX7_readWord_98 rfl (lv_at hl 1 rfl) ?_
                    refine lv_iconst (v := 1) E.1 E.2.1 dX7_readWord_99 (by decide) ?_
                    refine lv_iadd E.1 E.2.1 dX7_readWord_100 ?_
                    refine lv_topi (fun v184 e185 => ?_)
                    have b186 : iv 1 96 v184 := by rw [e185]; exact iv_add b152 (iv_lit (lo := 1) (hi := 1) 1 (by decide) (by decide)) (by decide) (by decide) (by decide) (by decide)
                    refine lv_istore_n (lv' := [(1, .int v184), (2, .int v180), (3, .int y132), (0, .ref (ad p0))]) E.1 E.2.1 dX7_readWord_101 rfl hl (by decide) rfl (fun ls hl => ?_)
                    obtain ⟨v187, e188⟩ : ∃ w : Int32, w = y132 + (1 : Int32) := ⟨_, rfl⟩
                    refine lv_iinc (v := v187) (lv' := [(3, .int v187), (1, .int v184), (2, .int v180), (0, .ref (ad p0))]) E.1 E.2.1 dX7_readWord_102 hl (k := 2) rfl (by rw [e188]; rfl) (by decide) rfl (fun ls hl => ?_)
                    have b189 : iv 1 96 v187 := by rw [e188]; exact iv_add b152 (iv_lit (lo := 1) (hi := 1) 1 (by decide) (by decide)) (by decide) (by decide) (by decide) (by decide)
                    have t190 : v187.toInt = y132.toInt + 1 := by rw [e188]; exact ti_addc 1 (by decide) b152 (by decide) (by decide)
                    refine lv_goto (tgt := 47) E.1 E.2.1 dX7_readWord_105 (by decide) ?_
                    exact ih47 zz135 v187 v180 v184 H locs ls G oo136 kk137 (iv_mono b189 (by decide) (by decide)) (iv_mono b182 (by decide) (by decide)) (iv_mono b186 (by decide) (by decide)) (by have h2 := t190; have h3 : v184.toInt = y132.toInt + 1 := (by rw [e185]; exact ti_addc 1 (by decide) b152 (by decide) (by decide)); omega) (bl_up (iv_mono b152 (by decide) (by decide)) h143 h158 c160 t190 t183) (by have := t190; have := m138; omega) (lv_sub hl [0, 2, 1, 3] rfl)
                  · skip
                    refine lv_aload_n E.1 E.2.1 dX7_readWord_82 rfl (lv_at hl 3 rfl) ?_
                    refine lv_iload_n E.1 E.2.1 dX7_readWord_83 rfl (lv_at hl 2 rfl) ?_
                    have b191 : iv 0 95 y134 := ⟨b141.1, by have h1 := h142; have h2 := b152.2; omega⟩
                    refine t_vi E G hl (tp_isWordAt l D K ad zz135 oo136 p0 ap0 y134 (iv_mono b191 (by decide) (by decide)) (by rw [← e170, ← e173]; exact rw_1 (iv_mono b152 (by decide) (by decide)) (iv_mono b191 (by decide) (by decide)) (iv_mono b171 (by decide) (by decide)) (iv_mono b174 (by decide) (by decide)) e167 e176 c178)) 7 (at_ro (i := 0) ap0 (by decide) : ro p0 = 7) (by decide) rfl rfl 1 rfl mw_code_X7_isWordAt mw_ini_7 mw_ml_7_62 mw_inst_X7_isWordAt mw_sel_X7_isWordAt hd_X7_isWordAt ⟨Nat.le_trans (by decide) hfr, Nat.le_trans (by decide) hlo⟩ rfl rfl rfl (Nat.le_of_ble_eq_true rfl) dX7_readWord_84 (fun r193 zz192 H locs hp194 G => ?_)
                    obtain ⟨hz196, b195⟩ := hp194
                    rw [hz196] at G
                    refine lv_if_eq (tgt := 95) E.1 E.2.1 dX7_readWord_87 (by decide) (fun c197 => ?_) (fun c197 => ?_)
                    · skip
                      have b198 : iv 0 0 r193 := iv_eq c197 (iv_lit (lo := 0) (hi := 0) 0 (by decide) (by decide))
                      have b199 : iv 0 20 y133 := bl_iv (w' := 0) (iv_mono b152 (by decide) (by decide)) h143 b140
                      obtain ⟨v200, e201⟩ : ∃ w : Int32, w = y133 + (1 : Int32) := ⟨_, rfl⟩
                      refine lv_iinc (v := v200) (lv' := [(2, .int v200), (3, .int y132), (1, .int y134), (0, .ref (ad p0))]) E.1 E.2.1 dX7_readWord_95 hl (k := 1) rfl (by rw [e201]; rfl) (by decide) rfl (fun ls hl => ?_)
                      have b202 : iv 1 21 v200 := by rw [e201]; exact iv_add b199 (iv_lit (lo := 1) (hi := 1) 1 (by decide) (by decide)) (by decide) (by decide) (by decide) (by decide)
                      have t203 : v200.toInt = y133.toInt + 1 := by rw [e201]; exact ti_addc 1 (by decide) b199 (by decide) (by decide)
                      refine lv_iload_n E.1 E.2.1 dX7_readWord_98 rfl (lv_at hl 1 rfl) ?_
                      refine lv_iconst (v := 1) E.1 E.2.1 dX7_readWord_99 (by decide) ?_
                      refine lv_iadd E.1 E.2.1 dX7_readWord_100 ?_
                      refine lv_topi (fun v204 e205 => ?_)
                      have b206 : iv 1 96 v204 := by rw [e205]; exact iv_add b152 (iv_lit (lo := 1) (hi := 1) 1 (by decide) (by decide)) (by decide) (by decide) (by decide) (by decide)
                      refine lv_istore_n (lv' := [(1, .int v204), (2, .int v200), (3, .int y132), (0, .ref (ad p0))]) E.1 E.2.1 dX7_readWord_101 rfl hl (by decide) rfl (fun ls hl => ?_)
                      obtain ⟨v207, e208⟩ : ∃ w : Int32, w = y132 + (1 : Int32) := ⟨_, rfl⟩
                      refine lv_iinc (v := v207) (lv' := [(3, .int v207), (1, .int v204), (2, .int v200), (0, .ref (ad p0))]) E.1 E.2.1 dX7_readWord_102 hl (k := 2) rfl (by rw [e208]; rfl) (by decide) rfl (fun ls hl => ?_)
                      have b209 : iv 1 96 v207 := by rw [e208]; exact iv_add b152 (iv_lit (lo := 1) (hi := 1) 1 (by decide) (by decide)) (by decide) (by decide) (by decide) (by decide)
                      have t210 : v207.toInt = y132.toInt + 1 := by rw [e208]; exact ti_addc 1 (by decide) b152 (by decide) (by decide)
                      refine lv_goto (tgt := 47) E.1 E.2.1 dX7_readWord_105 (by decide) ?_
                      exact ih47 zz135 v207 v200 v204 H locs ls G oo136 kk137 (iv_mono b209 (by decide) (by decide)) (iv_mono b202 (by decide) (by decide)) (iv_mono b206 (by decide) (by decide)) (by have h2 := t210; have h3 : v204.toInt = y132.toInt + 1 := (by rw [e205]; exact ti_addc 1 (by decide) b152 (by decide) (by decide)); omega) (bl_up (iv_mono b152 (by decide) (by decide)) h143 h158 c160 t210 t203) (by have := t210; have := m138; omega) (lv_sub hl [0, 2, 1, 3] rfl)
                    · skip
                      have b211 : iv 1 1 r193 := ne_lo c197 b195 (by decide) (by decide)
                      refine lv_aload_n E.1 E.2.1 dX7_readWord_90 rfl (lv_at hl 3 rfl) ?_
                      refine lv_iload_n E.1 E.2.1 dX7_readWord_91 rfl (lv_at hl 1 rfl) ?_
                      refine t_puti E G 7 3 (at_ro (i := 0) ap0 (by decide) : ro p0 = 7) (C := RX7) (T := TX7) (N := 7) rfl (by decide) (by decide) (by decide) rfl rfl mw_fl_7_22 rfl dX7_readWord_92 (fun H locs G => ?_)
                      obtain ⟨zz212, G, oo213, kk214, h215, h216, h217⟩ : ∃ u : TS, mG D A s H locs (wd K ad u) ∧ Ok u ∧ KT z u ∧ tI u p0 6 = v169 ∧ tI u p0 5 = v172 ∧ tI u p0 3 = y133 := ⟨_, G, ok_i oo136 7 (at_ro (i := 0) ap0 (by decide) : ro p0 = 7) (iv_mono b140 (by decide) (by decide)) (by decide), KF.tr kk137 (KF_i 7 (at_ro (i := 0) ap0 (by decide) : ro p0 = 7) (by decide)), (sI_k e170.symm (by decide)), (sI_k e173.symm (by decide)), sI_self⟩
                      have b218 : iv 0 20 y133 := bl_iv (w' := 0) (iv_mono b152 (by decide) (by decide)) h143 b140
                      obtain ⟨v219, e220⟩ : ∃ w : Int32, w = y133 + (1 : Int32) := ⟨_, rfl⟩
                      refine lv_iinc (v := v219) (lv' := [(2, .int v219), (3, .int y132), (1, .int y134), (0, .ref (ad p0))]) E.1 E.2.1 dX7_readWord_95 hl (k := 1) rfl (by rw [e220]; rfl) (by decide) rfl (fun ls hl => ?_)
                      have b221 : iv 1 21 v219 := by rw [e220]; exact iv_add b218 (iv_lit (lo := 1) (hi := 1) 1 (by decide) (by decide)) (by decide) (by decide) (by decide) (by decide)
                      have t222 : v219.toInt = y133.toInt + 1 := by rw [e220]; exact ti_addc 1 (by decide) b218 (by decide) (by decide)
                      refine lv_iload_n E.1 E.2.1 dX7_readWord_98 rfl (lv_at hl 1 rfl) ?_
                      refine lv_iconst (v := 1) E.1 E.2.1 dX7_readWord_99 (by decide) ?_
                      refine lv_iadd E.1 E.2.1 dX7_readWord_100 ?_
                      refine lv_topi (fun v223 e224 => ?_)
                      have b225 : iv 1 96 v223 := by rw [e224]; exact iv_add b152 (iv_lit (lo := 1) (hi := 1) 1 (by decide) (by decide)) (by decide) (by decide) (by decide) (by decide)
                      refine lv_istore_n (lv' := [(1, .int v223), (2, .int v219), (3, .int y132), (0, .ref (ad p0))]) E.1 E.2.1 dX7_readWord_101 rfl hl (by decide) rfl (fun ls hl => ?_)
                      obtain ⟨v226, e227⟩ : ∃ w : Int32, w = y132 + (1 : Int32) := ⟨_, rfl⟩
                      refine lv_iinc (v := v226) (lv' := [(3, .int v226), (1, .int v223), (2, .int v219), (0, .ref (ad p0))]) E.1 E.2.1 dX7_readWord_102 hl (k := 2) rfl (by rw [e227]; rfl) (by decide) rfl (fun ls hl => ?_)
                      have b228 : iv 1 96 v226 := by rw [e227]; exact iv_add b152 (iv_lit (lo := 1) (hi := 1) 1 (by decide) (by decide)) (by decide) (by decide) (by decide) (by decide)
                      have t229 : v226.toInt = y132.toInt + 1 := by rw [e227]; exact ti_addc 1 (by decide) b152 (by decide) (by decide)
                      refine lv_goto (tgt := 47) E.1 E.2.1 dX7_readWord_105 (by decide) ?_
                      exact ih47 zz212 v226 v219 v223 H locs ls G oo213 kk214 (iv_mono b228 (by decide) (by decide)) (iv_mono b221 (by decide) (by decide)) (iv_mono b225 (by decide) (by decide)) (by have h2 := t229; have h3 : v223.toInt = y132.toInt + 1 := (by rw [e224]; exact ti_addc 1 (by decide) b152 (by decide) (by decide)); omega) (bl_up (iv_mono b152 (by decide) (by decide)) h143 h158 c160 t229 t222) (by have := t229; have := m138; omega) (lv_sub hl [0, 2, 1, 3] rfl)
          exact LOOP47 97 zz126 0 0 0 H locs ls G oo127 kk128 (iv_mono (iv_lit (lo := 0) (hi := 0) 0 (by decide) (by decide)) (by decide) (by decide)) (iv_mono (iv_lit (lo := 0) (hi := 0) 0 (by decide) (by decide)) (by decide) (by decide)) (iv_mono (iv_lit (lo := 0) (hi := 0) 0 (by decide) (by decide)) (by decide) (by decide)) (Int.le_refl _) bl_0 (by have := (iv_lit (lo := 0) (hi := 0) 0 (by decide) (by decide)).1; omega) (lv_sub hl [0, 1, 2, 3] rfl)
        · skip
          have b230 : iv 1 1 r119 := ne_lo c124 b121 (by decide) (by decide)
          refine lv_aload_n E.1 E.2.1 dX7_readWord_22 rfl (lv_at hl 0 rfl) ?_
          refine lv_dup E.1 E.2.1 dX7_readWord_23 rfl ?_
          refine t_get E G 7 6 (at_ro (i := 0) ap0 (by decide) : ro p0 = 7) (C := RX7) (T := TX7) (N := 7) rfl (by decide) (by decide) (by decide) mw_fl_7_31 (fvl_i rfl) dX7_readWord_24 ?_
          refine m_ci v5 e6.symm ?_
          refine lv_iconst (v := 1) E.1 E.2.1 dX7_readWord_27 (by decide) ?_
          refine lv_iadd E.1 E.2.1 dX7_readWord_28 ?_
          refine lv_topi (fun v231 e232 => ?_)
          have b233 : iv 1 400 v231 := by rw [e232]; exact iv_add b116 (iv_lit (lo := 1) (hi := 1) 1 (by decide) (by decide)) (by decide) (by decide) (by decide) (by decide)
          refine t_puti E G 7 6 (at_ro (i := 0) ap0 (by decide) : ro p0 = 7) (C := RX7) (T := TX7) (N := 7) rfl (by decide) (by decide) (by decide) rfl rfl mw_fl_7_31 rfl dX7_readWord_29 (fun H locs G => ?_)
          obtain ⟨zz234, G, oo235, kk236, h237, h238⟩ : ∃ u : TS, mG D A s H locs (wd K ad u) ∧ Ok u ∧ KT z u ∧ tI u p0 1 = v8 ∧ tI u p0 6 = v231 := ⟨_, G, ok_i oo2 7 (at_ro (i := 0) ap0 (by decide) : ro p0 = 7) (iv_mono b233 (by decide) (by decide)) (by decide), KF.tr kk3 (KF_i 7 (at_ro (i := 0) ap0 (by decide) : ro p0 = 7) (by decide)), (sI_k e9.symm (by decide)), sI_self⟩
          refine lv_goto (tgt := 0) E.1 E.2.1 dX7_readWord_32 (by decide) ?_
          exact ih0 zz234 H locs ls G oo235 kk236 (by rw [h238, e232, ti_addc 1 (by decide) b116 (by decide) (by decide), e6]; have := m4; omega) (lv_sub hl [0] rfl)
  exact LOOP0 401 z H locs ls G o KF.rf (by have := (iv_mono (o.i (j := p0) 7 6 (at_ro (i := 0) ap0 (by decide) : ro p0 = 7)) (show (0 : Int) ≤ ilo 7 6 by decide) (show ihi 7 6 ≤ 400 by decide)).1; omega) (lv_sub hl [0] rfl)
