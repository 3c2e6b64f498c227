set_option maxHeartbeats 4000000 in
set_option maxRecDepth 100000 in
theorem law_safe {p : Program} {e : Env} {s : State} {m : MethodId} {below : List Frame} {meth : Method} {c : Code} (l : Launch) {b L : Nat} {xs : Nat → Int32} {D : va_G} {K : Nat → ClassId} {A : Nat → Prop} {ad : Nat → Nat} {z : TS} {v : Int32} (hL : L ≤ 3072) (E : mE p s m meth c code #[Value.ref b] 4 RL D K A) (hX : va_X b L xs s s.heap) (hbl : b < s.heap.size) (hbA : ¬ A b) (j : JJ z) (h0 : 0 ≤ v.toInt) (h6 : v.toInt + 6 ≤ (L : Int)) (KK : ∀ (z : TS) (H : Heap) (locs : List Loc) (ls : Array Slot), mG D A s H locs (wd K ad z) → JJ z → lv_has ls 4 [(3, .int v), (2, .ref (ad 386)), (1, .ref (ad 0)), (0, .ref b)] → W p l e room_1 s m #[Value.ref b] below meth c H locs 600000 7302250 (lw_Z below #[Value.ref b] s) (F0 m 1250 ls [])) {H : Heap} {locs : List Loc} {ls : Array Slot} (G : mG D A s H locs (wd K ad z)) (hl : lv_has ls 4 [(3, .int v), (2, .ref (ad 386)), (1, .ref (ad 0)), (0, .ref b)]) : W p l e room_1 s m #[Value.ref b] below meth c H locs 600000 7302250 (lw_Z below #[Value.ref b] s) (F0 m 696 ls []) := by
  refine lv_aload_n E.1 E.2.1 dL_law_696 rfl (lv_at hl 2 rfl) ?_
  refine lv_aload_n E.1 E.2.1 dL_law_697 rfl (lv_at hl 3 rfl) ?_
  refine lv_iload_n E.1 E.2.1 dL_law_698 rfl (lv_at hl 0 rfl) ?_
  refine lv_iconst (v := 1) E.1 E.2.1 dL_law_699 (by decide) ?_
  refine lv_iadd E.1 E.2.1 dL_law_700 ?_
  refine va_sld E.1 E.2.1 hX hbl hbA G.2.2 (law_in h0 h6 hL 1 (iv_lit 1 (by decide) (by decide))) dL_law_701 ?_
  refine lv_topi (fun x1 ex1 => ?_)
  refine l_vi E G hl (k_safe l D K ad z j.1 x1) 10 (rfl : ro 0 = 10) (by decide) rfl rfl 1 rfl mw_code_X10_safe mw_ini_10 mw_ml_L_90 mw_inst_X10_safe mw_sel_X10_safe hd_X10_safe ⟨by decide, by decide⟩ rfl rfl ⟨by decide, by decide⟩ rfl (Nat.le_of_ble_eq_true rfl) dL_law_702 (fun ra ua H locs hpa G => ?_)
  refine lv_pop E.1 E.2.1 dL_law_705 rfl ?_
  rw [hpa] at G
  refine lv_aload_n E.1 E.2.1 dL_law_706 rfl (lv_at hl 1 rfl) ?_
  refine lv_aload_n E.1 E.2.1 dL_law_707 rfl (lv_at hl 3 rfl) ?_
  refine lv_iload_n E.1 E.2.1 dL_law_708 rfl (lv_at hl 0 rfl) ?_
  refine lv_iconst (v := 1) E.1 E.2.1 dL_law_709 (by decide) ?_
  refine lv_iadd E.1 E.2.1 dL_law_710 ?_
  refine va_sld E.1 E.2.1 hX hbl hbA G.2.2 (law_in h0 h6 hL 1 (iv_lit 1 (by decide) (by decide))) dL_law_711 ?_
  refine m_ci x1 ex1.symm ?_
  refine l_vi E G hl (v_safe l D K ad z j.1 x1) 11 (rfl : ro 386 = 11) (by decide) rfl rfl 1 rfl mw_code_X11_safe mw_ini_11 mw_ml_L_93 mw_inst_X11_safe mw_sel_X11_safe hd_X11_safe ⟨by decide, by decide⟩ rfl rfl ⟨by decide, by decide⟩ rfl (Nat.le_of_ble_eq_true rfl) dL_law_712 (fun rb ub H locs hpb G => ?_)
  rw [hpb] at G
  refine lv_pop E.1 E.2.1 dL_law_715 rfl ?_
  refine lv_goto (tgt := 1250) E.1 E.2.1 dL_law_716 (by decide) ?_
  exact KK _ _ _ _ G j hl
set_option maxHeartbeats 4000000 in
set_option maxRecDepth 100000 in
theorem law_stuck {p : Program} {e : Env} {s : State} {m : MethodId} {below : List Frame} {meth : Method} {c : Code} (l : Launch) {b L : Nat} {xs : Nat → Int32} {D : va_G} {K : Nat → ClassId} {A : Nat → Prop} {ad : Nat → Nat} {z : TS} {v : Int32} (hL : L ≤ 3072) (E : mE p s m meth c code #[Value.ref b] 4 RL D K A) (hX : va_X b L xs s s.heap) (hbl : b < s.heap.size) (hbA : ¬ A b) (j : JJ z) (h0 : 0 ≤ v.toInt) (h6 : v.toInt + 6 ≤ (L : Int)) (KK : ∀ (z : TS) (H : Heap) (locs : List Loc) (ls : Array Slot), mG D A s H locs (wd K ad z) → JJ z → lv_has ls 4 [(3, .int v), (2, .ref (ad 386)), (1, .ref (ad 0)), (0, .ref b)] → W p l e room_1 s m #[Value.ref b] below meth c H locs 600000 7302250 (lw_Z below #[Value.ref b] s) (F0 m 1250 ls [])) {H : Heap} {locs : List Loc} {ls : Array Slot} (G : mG D A s H locs (wd K ad z)) (hl : lv_has ls 4 [(3, .int v), (2, .ref (ad 386)), (1, .ref (ad 0)), (0, .ref b)]) : W p l e room_1 s m #[Value.ref b] below meth c H locs 600000 7302250 (lw_Z below #[Value.ref b] s) (F0 m 719 ls []) := by
  refine lv_aload_n E.1 E.2.1 dL_law_719 rfl (lv_at hl 2 rfl) ?_
  refine lv_aload_n E.1 E.2.1 dL_law_720 rfl (lv_at hl 3 rfl) ?_
  refine lv_iload_n E.1 E.2.1 dL_law_721 rfl (lv_at hl 0 rfl) ?_
  refine lv_iconst (v := 1) E.1 E.2.1 dL_law_722 (by decide) ?_
  refine lv_iadd E.1 E.2.1 dL_law_723 ?_
  refine va_sld E.1 E.2.1 hX hbl hbA G.2.2 (law_in h0 h6 hL 1 (iv_lit 1 (by decide) (by decide))) dL_law_724 ?_
  refine lv_topi (fun x1 ex1 => ?_)
  refine l_vi E G hl (k_stuck l D K ad z j.1 x1) 10 (rfl : ro 0 = 10) (by decide) rfl rfl 1 rfl mw_code_X10_stuck mw_ini_10 mw_ml_L_94 mw_inst_X10_stuck mw_sel_X10_stuck hd_X10_stuck ⟨by decide, by decide⟩ rfl rfl ⟨by decide, by decide⟩ rfl (Nat.le_of_ble_eq_true rfl) dL_law_725 (fun ra ua H locs hpa G => ?_)
  refine lv_pop E.1 E.2.1 dL_law_728 rfl ?_
  rw [hpa] at G
  refine lv_aload_n E.1 E.2.1 dL_law_729 rfl (lv_at hl 1 rfl) ?_
  refine lv_aload_n E.1 E.2.1 dL_law_730 rfl (lv_at hl 3 rfl) ?_
  refine lv_iload_n E.1 E.2.1 dL_law_731 rfl (lv_at hl 0 rfl) ?_
  refine lv_iconst (v := 1) E.1 E.2.1 dL_law_732 (by decide) ?_
  refine lv_iadd E.1 E.2.1 dL_law_733 ?_
  refine va_sld E.1 E.2.1 hX hbl hbA G.2.2 (law_in h0 h6 hL 1 (iv_lit 1 (by decide) (by decide))) dL_law_734 ?_
  refine m_ci x1 ex1.symm ?_
  refine l_vi E G hl (v_stuck l D K ad z j.1 x1) 11 (rfl : ro 386 = 11) (by decide) rfl rfl 1 rfl mw_code_X11_stuck mw_ini_11 mw_ml_L_97 mw_inst_X11_stuck mw_sel_X11_stuck hd_X11_stuck ⟨by decide, by decide⟩ rfl rfl ⟨by decide, by decide⟩ rfl (Nat.le_of_ble_eq_true rfl) dL_law_735 (fun rb ub H locs hpb G => ?_)
  rw [hpb] at G
  refine lv_pop E.1 E.2.1 dL_law_738 rfl ?_
  refine lv_goto (tgt := 1250) E.1 E.2.1 dL_law_739 (by decide) ?_
  exact KK _ _ _ _ G j hl
set_option maxHeartbeats 4000000 in
set_option maxRecDepth 100000 in
theorem law_best {p : Program} {e : Env} {s : State} {m : MethodId} {below : List Frame} {meth : Method} {c : Code} (l : Launch) {b L : Nat} {xs : Nat → Int32} {D : va_G} {K : Nat → ClassId} {A : Nat → Prop} {ad : Nat → Nat} {z : TS} {v : Int32} (hL : L ≤ 3072) (E : mE p s m meth c code #[Value.ref b] 4 RL D K A) (hX : va_X b L xs s s.heap) (hbl : b < s.heap.size) (hbA : ¬ A b) (j : JJ z) (h0 : 0 ≤ v.toInt) (h6 : v.toInt + 6 ≤ (L : Int)) (KK : ∀ (z : TS) (H : Heap) (locs : List Loc) (ls : Array Slot), mG D A s H locs (wd K ad z) → JJ z → lv_has ls 4 [(3, .int v), (2, .ref (ad 386)), (1, .ref (ad 0)), (0, .ref b)] → W p l e room_1 s m #[Value.ref b] below meth c H locs 600000 7302250 (lw_Z below #[Value.ref b] s) (F0 m 1250 ls [])) {H : Heap} {locs : List Loc} {ls : Array Slot} (G : mG D A s H locs (wd K ad z)) (hl : lv_has ls 4 [(3, .int v), (2, .ref (ad 386)), (1, .ref (ad 0)), (0, .ref b)]) : W p l e room_1 s m #[Value.ref b] below meth c H locs 600000 7302250 (lw_Z below #[Value.ref b] s) (F0 m 742 ls []) := by
  refine lv_aload_n E.1 E.2.1 dL_law_742 rfl (lv_at hl 2 rfl) ?_
  refine lv_aload_n E.1 E.2.1 dL_law_743 rfl (lv_at hl 3 rfl) ?_
  refine lv_iload_n E.1 E.2.1 dL_law_744 rfl (lv_at hl 0 rfl) ?_
  refine lv_iconst (v := 1) E.1 E.2.1 dL_law_745 (by decide) ?_
  refine lv_iadd E.1 E.2.1 dL_law_746 ?_
  refine va_sld E.1 E.2.1 hX hbl hbA G.2.2 (law_in h0 h6 hL 1 (iv_lit 1 (by decide) (by decide))) dL_law_747 ?_
  refine lv_topi (fun x1 ex1 => ?_)
  refine lv_aload_n E.1 E.2.1 dL_law_748 rfl (lv_at hl 3 rfl) ?_
  refine lv_iload_n E.1 E.2.1 dL_law_749 rfl (lv_at hl 0 rfl) ?_
  refine lv_iconst (v := 2) E.1 E.2.1 dL_law_750 (by decide) ?_
  refine lv_iadd E.1 E.2.1 dL_law_751 ?_
  refine va_sld E.1 E.2.1 hX hbl hbA G.2.2 (law_in h0 h6 hL 2 (iv_lit 2 (by decide) (by decide))) dL_law_752 ?_
  refine lv_topi (fun x2 ex2 => ?_)
  refine lv_aload_n E.1 E.2.1 dL_law_753 rfl (lv_at hl 3 rfl) ?_
  refine lv_iload_n E.1 E.2.1 dL_law_754 rfl (lv_at hl 0 rfl) ?_
  refine lv_iconst (v := 3) E.1 E.2.1 dL_law_755 (by decide) ?_
  refine lv_iadd E.1 E.2.1 dL_law_756 ?_
  refine va_sld E.1 E.2.1 hX hbl hbA G.2.2 (law_in h0 h6 hL 3 (iv_lit 3 (by decide) (by decide))) dL_law_757 ?_
  refine lv_topi (fun x3 ex3 => ?_)
  refine l_vi E G hl (k_best l D K ad z j.1 x1 x2 x3) 10 (rfl : ro 0 = 10) (by decide) rfl rfl 3 rfl mw_code_X10_best mw_ini_10 mw_ml_L_98 mw_inst_X10_best mw_sel_X10_best hd_X10_best ⟨by decide, by decide⟩ rfl rfl ⟨by decide, by decide⟩ rfl (Nat.le_of_ble_eq_true rfl) dL_law_758 (fun ra ua H locs hpa G => ?_)
  refine lv_pop E.1 E.2.1 dL_law_761 rfl ?_
  have ja : JJ ua := JJ.c j hpa.1 hpa.2
  refine lv_aload_n E.1 E.2.1 dL_law_762 rfl (lv_at hl 1 rfl) ?_
  refine lv_aload_n E.1 E.2.1 dL_law_763 rfl (lv_at hl 3 rfl) ?_
  refine lv_iload_n E.1 E.2.1 dL_law_764 rfl (lv_at hl 0 rfl) ?_
  refine lv_iconst (v := 1) E.1 E.2.1 dL_law_765 (by decide) ?_
  refine lv_iadd E.1 E.2.1 dL_law_766 ?_
  refine va_sld E.1 E.2.1 hX hbl hbA G.2.2 (law_in h0 h6 hL 1 (iv_lit 1 (by decide) (by decide))) dL_law_767 ?_
  refine m_ci x1 ex1.symm ?_
  refine lv_aload_n E.1 E.2.1 dL_law_768 rfl (lv_at hl 3 rfl) ?_
  refine lv_iload_n E.1 E.2.1 dL_law_769 rfl (lv_at hl 0 rfl) ?_
  refine lv_iconst (v := 2) E.1 E.2.1 dL_law_770 (by decide) ?_
  refine lv_iadd E.1 E.2.1 dL_law_771 ?_
  refine va_sld E.1 E.2.1 hX hbl hbA G.2.2 (law_in h0 h6 hL 2 (iv_lit 2 (by decide) (by decide))) dL_law_772 ?_
  refine m_ci x2 ex2.symm ?_
  refine lv_aload_n E.1 E.2.1 dL_law_773 rfl (lv_at hl 3 rfl) ?_
  refine lv_iload_n E.1 E.2.1 dL_law_774 rfl (lv_at hl 0 rfl) ?_
  refine lv_iconst (v := 3) E.1 E.2.1 dL_law_775 (by decide) ?_
  refine lv_iadd E.1 E.2.1 dL_law_776 ?_
  refine va_sld E.1 E.2.1 hX hbl hbA G.2.2 (law_in h0 h6 hL 3 (iv_lit 3 (by decide) (by decide))) dL_law_777 ?_
  refine m_ci x3 ex3.symm ?_
  refine l_vi E G hl (v_best l D K ad ua ja.1 x1 x2 x3 ja.2.1) 11 (rfl : ro 386 = 11) (by decide) rfl rfl 3 rfl mw_code_X11_best mw_ini_11 mw_ml_L_101 mw_inst_X11_best mw_sel_X11_best hd_X11_best ⟨by decide, by decide⟩ rfl rfl ⟨by decide, by decide⟩ rfl (Nat.le_of_ble_eq_true rfl) dL_law_778 (fun rb ub H locs hpb G => ?_)
  have jb : JJ ub := JJ.r ja hpb.1 (KM.r hpb.2) (wf_ka ja.2.1 hpb.2.2.1 rfl rfl rfl rfl)
  refine lv_pop E.1 E.2.1 dL_law_781 rfl ?_
  refine lv_goto (tgt := 1250) E.1 E.2.1 dL_law_782 (by decide) ?_
  exact KK _ _ _ _ G jb hl
set_option maxHeartbeats 4000000 in
set_option maxRecDepth 100000 in
theorem law_kind {p : Program} {e : Env} {s : State} {m : MethodId} {below : List Frame} {meth : Method} {c : Code} (l : Launch) {b L : Nat} {xs : Nat → Int32} {D : va_G} {K : Nat → ClassId} {A : Nat → Prop} {ad : Nat → Nat} {z : TS} {v : Int32} (hL : L ≤ 3072) (E : mE p s m meth c code #[Value.ref b] 4 RL D K A) (hX : va_X b L xs s s.heap) (hbl : b < s.heap.size) (hbA : ¬ A b) (j : JJ z) (h0 : 0 ≤ v.toInt) (h6 : v.toInt + 6 ≤ (L : Int)) (KK : ∀ (z : TS) (H : Heap) (locs : List Loc) (ls : Array Slot), mG D A s H locs (wd K ad z) → JJ z → lv_has ls 4 [(3, .int v), (2, .ref (ad 386)), (1, .ref (ad 0)), (0, .ref b)] → W p l e room_1 s m #[Value.ref b] below meth c H locs 600000 7302250 (lw_Z below #[Value.ref b] s) (F0 m 1250 ls [])) {H : Heap} {locs : List Loc} {ls : Array Slot} (G : mG D A s H locs (wd K ad z)) (hl : lv_has ls 4 [(3, .int v), (2, .ref (ad 386)), (1, .ref (ad 0)), (0, .ref b)]) : W p l e room_1 s m #[Value.ref b] below meth c H locs 600000 7302250 (lw_Z below #[Value.ref b] s) (F0 m 785 ls []) := by
  refine lv_aload_n E.1 E.2.1 dL_law_785 rfl (lv_at hl 2 rfl) ?_
  refine lv_aload_n E.1 E.2.1 dL_law_786 rfl (lv_at hl 3 rfl) ?_
  refine lv_iload_n E.1 E.2.1 dL_law_787 rfl (lv_at hl 0 rfl) ?_
  refine lv_iconst (v := 1) E.1 E.2.1 dL_law_788 (by decide) ?_
  refine lv_iadd E.1 E.2.1 dL_law_789 ?_
  refine va_sld E.1 E.2.1 hX hbl hbA G.2.2 (law_in h0 h6 hL 1 (iv_lit 1 (by decide) (by decide))) dL_law_790 ?_
  refine lv_topi (fun x1 ex1 => ?_)
  refine lv_aload_n E.1 E.2.1 dL_law_791 rfl (lv_at hl 3 rfl) ?_
  refine lv_iload_n E.1 E.2.1 dL_law_792 rfl (lv_at hl 0 rfl) ?_
  refine lv_iconst (v := 2) E.1 E.2.1 dL_law_793 (by decide) ?_
  refine lv_iadd E.1 E.2.1 dL_law_794 ?_
  refine va_sld E.1 E.2.1 hX hbl hbA G.2.2 (law_in h0 h6 hL 2 (iv_lit 2 (by decide) (by decide))) dL_law_795 ?_
  refine lv_topi (fun x2 ex2 => ?_)
  refine lv_aload_n E.1 E.2.1 dL_law_796 rfl (lv_at hl 3 rfl) ?_
  refine lv_iload_n E.1 E.2.1 dL_law_797 rfl (lv_at hl 0 rfl) ?_
  refine lv_iconst (v := 3) E.1 E.2.1 dL_law_798 (by decide) ?_
  refine lv_iadd E.1 E.2.1 dL_law_799 ?_
  refine va_sld E.1 E.2.1 hX hbl hbA G.2.2 (law_in h0 h6 hL 3 (iv_lit 3 (by decide) (by decide))) dL_law_800 ?_
  refine lv_topi (fun x3 ex3 => ?_)
  refine l_vi E G hl (k_kind l D K ad z j.1 x1 x2 x3) 10 (rfl : ro 0 = 10) (by decide) rfl rfl 3 rfl mw_code_X10_kind mw_ini_10 mw_ml_L_102 mw_inst_X10_kind mw_sel_X10_kind hd_X10_kind ⟨by decide, by decide⟩ rfl rfl ⟨by decide, by decide⟩ rfl (Nat.le_of_ble_eq_true rfl) dL_law_801 (fun ra ua H locs hpa G => ?_)
  refine lv_pop E.1 E.2.1 dL_law_804 rfl ?_
  have ja : JJ ua := JJ.c j hpa.1 hpa.2
  refine lv_aload_n E.1 E.2.1 dL_law_805 rfl (lv_at hl 1 rfl) ?_
  refine lv_aload_n E.1 E.2.1 dL_law_806 rfl (lv_at hl 3 rfl) ?_
  refine lv_iload_n E.1 E.2.1 dL_law_807 rfl (lv_at hl 0 rfl) ?_
  refine lv_iconst (v := 1) E.1 E.2.1 dL_law_808 (by decide) ?_
  refine lv_iadd E.1 E.2.1 dL_law_809 ?_
  refine va_sld E.1 E.2.1 hX hbl hbA G.2.2 (law_in h0 h6 hL 1 (iv_lit 1 (by decide) (by decide))) dL_law_810 ?_
  refine m_ci x1 ex1.symm ?_
  refine lv_aload_n E.1 E.2.1 dL_law_811 rfl (lv_at hl 3 rfl) ?_
  refine lv_iload_n E.1 E.2.1 dL_law_812 rfl (lv_at hl 0 rfl) ?_
  refine lv_iconst (v := 2) E.1 E.2.1 dL_law_813 (by decide) ?_
  refine lv_iadd E.1 E.2.1 dL_law_814 ?_
  refine va_sld E.1 E.2.1 hX hbl hbA G.2.2 (law_in h0 h6 hL 2 (iv_lit 2 (by decide) (by decide))) dL_law_815 ?_
  refine m_ci x2 ex2.symm ?_
  refine lv_aload_n E.1 E.2.1 dL_law_816 rfl (lv_at hl 3 rfl) ?_
  refine lv_iload_n E.1 E.2.1 dL_law_817 rfl (lv_at hl 0 rfl) ?_
  refine lv_iconst (v := 3) E.1 E.2.1 dL_law_818 (by decide) ?_
  refine lv_iadd E.1 E.2.1 dL_law_819 ?_
  refine va_sld E.1 E.2.1 hX hbl hbA G.2.2 (law_in h0 h6 hL 3 (iv_lit 3 (by decide) (by decide))) dL_law_820 ?_
  refine m_ci x3 ex3.symm ?_
  refine l_vi E G hl (v_kind l D K ad ua ja.1 x1 x2 x3 ja.2.1) 11 (rfl : ro 386 = 11) (by decide) rfl rfl 3 rfl mw_code_X11_kind mw_ini_11 mw_ml_L_105 mw_inst_X11_kind mw_sel_X11_kind hd_X11_kind ⟨by decide, by decide⟩ rfl rfl ⟨by decide, by decide⟩ rfl (Nat.le_of_ble_eq_true rfl) dL_law_821 (fun rb ub H locs hpb G => ?_)
  have jb : JJ ub := JJ.r ja hpb.1 (KM.r hpb.2) (wf_ka ja.2.1 hpb.2.2.1 rfl rfl rfl rfl)
  refine lv_pop E.1 E.2.1 dL_law_824 rfl ?_
  refine lv_goto (tgt := 1250) E.1 E.2.1 dL_law_825 (by decide) ?_
  exact KK _ _ _ _ G jb hl
set_option maxHeartbeats 4000000 in
set_option maxRecDepth 100000 in
theorem law_cover {p : Program} {e : Env} {s : State} {m : MethodId} {below : List Frame} {meth : Method} {c : Code} (l : Launch) {b L : Nat} {xs : Nat → Int32} {D : va_G} {K : Nat → ClassId} {A : Nat → Prop} {ad : Nat → Nat} {z : TS} {v : Int32} (hL : L ≤ 3072) (E : mE p s m meth c code #[Value.ref b] 4 RL D K A) (hX : va_X b L xs s s.heap) (hbl : b < s.heap.size) (hbA : ¬ A b) (j : JJ z) (h0 : 0 ≤ v.toInt) (h6 : v.toInt + 6 ≤ (L : Int)) (KK : ∀ (z : TS) (H : Heap) (locs : List Loc) (ls : Array Slot), mG D A s H locs (wd K ad z) → JJ z → lv_has ls 4 [(3, .int v), (2, .ref (ad 386)), (1, .ref (ad 0)), (0, .ref b)] → W p l e room_1 s m #[Value.ref b] below meth c H locs 600000 7302250 (lw_Z below #[Value.ref b] s) (F0 m 1250 ls [])) {H : Heap} {locs : List Loc} {ls : Array Slot} (G : mG D A s H locs (wd K ad z)) (hl : lv_has ls 4 [(3, .int v), (2, .ref (ad 386)), (1, .ref (ad 0)), (0, .ref b)]) : W p l e room_1 s m #[Value.ref b] below meth c H locs 600000 7302250 (lw_Z below #[Value.ref b] s) (F0 m 828 ls []) := by
  refine lv_aload_n E.1 E.2.1 dL_law_828 rfl (lv_at hl 2 rfl) ?_
  refine lv_aload_n E.1 E.2.1 dL_law_829 rfl (lv_at hl 3 rfl) ?_
  refine lv_iload_n E.1 E.2.1 dL_law_830 rfl (lv_at hl 0 rfl) ?_
  refine lv_iconst (v := 1) E.1 E.2.1 dL_law_831 (by decide) ?_
  refine lv_iadd E.1 E.2.1 dL_law_832 ?_
  refine va_sld E.1 E.2.1 hX hbl hbA G.2.2 (law_in h0 h6 hL 1 (iv_lit 1 (by decide) (by decide))) dL_law_833 ?_
  refine lv_topi (fun x1 ex1 => ?_)
  refine l_vi E G hl (k_cover l D K ad z j.1 x1) 10 (rfl : ro 0 = 10) (by decide) rfl rfl 1 rfl mw_code_X10_cover mw_ini_10 mw_ml_L_106 mw_inst_X10_cover mw_sel_X10_cover hd_X10_cover ⟨by decide, by decide⟩ rfl rfl ⟨by decide, by decide⟩ rfl (Nat.le_of_ble_eq_true rfl) dL_law_834 (fun ra ua H locs hpa G => ?_)
  refine lv_pop E.1 E.2.1 dL_law_837 rfl ?_
  rw [hpa] at G
  refine lv_aload_n E.1 E.2.1 dL_law_838 rfl (lv_at hl 1 rfl) ?_
  refine lv_aload_n E.1 E.2.1 dL_law_839 rfl (lv_at hl 3 rfl) ?_
  refine lv_iload_n E.1 E.2.1 dL_law_840 rfl (lv_at hl 0 rfl) ?_
  refine lv_iconst (v := 1) E.1 E.2.1 dL_law_841 (by decide) ?_
  refine lv_iadd E.1 E.2.1 dL_law_842 ?_
  refine va_sld E.1 E.2.1 hX hbl hbA G.2.2 (law_in h0 h6 hL 1 (iv_lit 1 (by decide) (by decide))) dL_law_843 ?_
  refine m_ci x1 ex1.symm ?_
  refine l_vi E G hl (v_cover l D K ad z j.1 x1) 11 (rfl : ro 386 = 11) (by decide) rfl rfl 1 rfl mw_code_X11_cover mw_ini_11 mw_ml_L_109 mw_inst_X11_cover mw_sel_X11_cover hd_X11_cover ⟨by decide, by decide⟩ rfl rfl ⟨by decide, by decide⟩ rfl (Nat.le_of_ble_eq_true rfl) dL_law_844 (fun rb ub H locs hpb G => ?_)
  rw [hpb] at G
  refine lv_pop E.1 E.2.1 dL_law_847 rfl ?_
  refine lv_goto (tgt := 1250) E.1 E.2.1 dL_law_848 (by decide) ?_
  exact KK _ _ _ _ G j hl
set_option maxHeartbeats 4000000 in
set_option maxRecDepth 100000 in
theorem law_hearts {p : Program} {e : Env} {s : State} {m : MethodId} {below : List Frame} {meth : Method} {c : Code} (l : Launch) {b L : Nat} {xs : Nat → Int32} {D : va_G} {K : Nat → ClassId} {A : Nat → Prop} {ad : Nat → Nat} {z : TS} {v : Int32} (hL : L ≤ 3072) (E : mE p s m meth c code #[Value.ref b] 4 RL D K A) (hX : va_X b L xs s s.heap) (hbl : b < s.heap.size) (hbA : ¬ A b) (j : JJ z) (h0 : 0 ≤ v.toInt) (h6 : v.toInt + 6 ≤ (L : Int)) (KK : ∀ (z : TS) (H : Heap) (locs : List Loc) (ls : Array Slot), mG D A s H locs (wd K ad z) → JJ z → lv_has ls 4 [(3, .int v), (2, .ref (ad 386)), (1, .ref (ad 0)), (0, .ref b)] → W p l e room_1 s m #[Value.ref b] below meth c H locs 600000 7302250 (lw_Z below #[Value.ref b] s) (F0 m 1250 ls [])) {H : Heap} {locs : List Loc} {ls : Array Slot} (G : mG D A s H locs (wd K ad z)) (hl : lv_has ls 4 [(3, .int v), (2, .ref (ad 386)), (1, .ref (ad 0)), (0, .ref b)]) : W p l e room_1 s m #[Value.ref b] below meth c H locs 600000 7302250 (lw_Z below #[Value.ref b] s) (F0 m 851 ls []) := by
  refine lv_aload_n E.1 E.2.1 dL_law_851 rfl (lv_at hl 2 rfl) ?_
  refine lv_aload_n E.1 E.2.1 dL_law_852 rfl (lv_at hl 3 rfl) ?_
  refine lv_iload_n E.1 E.2.1 dL_law_853 rfl (lv_at hl 0 rfl) ?_
  refine lv_iconst (v := 1) E.1 E.2.1 dL_law_854 (by decide) ?_
  refine lv_iadd E.1 E.2.1 dL_law_855 ?_
  refine va_sld E.1 E.2.1 hX hbl hbA G.2.2 (law_in h0 h6 hL 1 (iv_lit 1 (by decide) (by decide))) dL_law_856 ?_
  refine lv_topi (fun x1 ex1 => ?_)
  refine l_vi E G hl (k_hearts l D K ad z j.1 x1) 10 (rfl : ro 0 = 10) (by decide) rfl rfl 1 rfl mw_code_X10_hearts mw_ini_10 mw_ml_L_110 mw_inst_X10_hearts mw_sel_X10_hearts hd_X10_hearts ⟨by decide, by decide⟩ rfl rfl ⟨by decide, by decide⟩ rfl (Nat.le_of_ble_eq_true rfl) dL_law_857 (fun ra ua H locs hpa G => ?_)
  refine lv_pop E.1 E.2.1 dL_law_860 rfl ?_
  have ja : JJ ua := JJ.c j hpa.1 hpa.2
  refine lv_aload_n E.1 E.2.1 dL_law_861 rfl (lv_at hl 1 rfl) ?_
  refine lv_aload_n E.1 E.2.1 dL_law_862 rfl (lv_at hl 3 rfl) ?_
  refine lv_iload_n E.1 E.2.1 dL_law_863 rfl (lv_at hl 0 rfl) ?_
  refine lv_iconst (v := 1) E.1 E.2.1 dL_law_864 (by decide) ?_
  refine lv_iadd E.1 E.2.1 dL_law_865 ?_
  refine va_sld E.1 E.2.1 hX hbl hbA G.2.2 (law_in h0 h6 hL 1 (iv_lit 1 (by decide) (by decide))) dL_law_866 ?_
  refine m_ci x1 ex1.symm ?_
  refine l_vi E G hl (v_hearts l D K ad ua ja.1 x1 ja.2.1) 11 (rfl : ro 386 = 11) (by decide) rfl rfl 1 rfl mw_code_X11_hearts mw_ini_11 mw_ml_L_113 mw_inst_X11_hearts mw_sel_X11_hearts hd_X11_hearts ⟨by decide, by decide⟩ rfl rfl ⟨by decide, by decide⟩ rfl (Nat.le_of_ble_eq_true rfl) dL_law_867 (fun rb ub H locs hpb G => ?_)
  have jb : JJ ub := JJ.r ja hpb.1 (KM.r hpb.2) (wf_ka ja.2.1 hpb.2.2.1 rfl rfl rfl rfl)
  refine lv_pop E.1 E.2.1 dL_law_870 rfl ?_
  refine lv_goto (tgt := 1250) E.1 E.2.1 dL_law_871 (by decide) ?_
  exact KK _ _ _ _ G jb hl
set_option maxHeartbeats 4000000 in
set_option maxRecDepth 100000 in
theorem law_waries {p : Program} {e : Env} {s : State} {m : MethodId} {below : List Frame} {meth : Method} {c : Code} (l : Launch) {b L : Nat} {xs : Nat → Int32} {D : va_G} {K : Nat → ClassId} {A : Nat → Prop} {ad : Nat → Nat} {z : TS} {v : Int32} (hL : L ≤ 3072) (E : mE p s m meth c code #[Value.ref b] 4 RL D K A) (hX : va_X b L xs s s.heap) (hbl : b < s.heap.size) (hbA : ¬ A b) (j : JJ z) (h0 : 0 ≤ v.toInt) (h6 : v.toInt + 6 ≤ (L : Int)) (KK : ∀ (z : TS) (H : Heap) (locs : List Loc) (ls : Array Slot), mG D A s H locs (wd K ad z) → JJ z → lv_has ls 4 [(3, .int v), (2, .ref (ad 386)), (1, .ref (ad 0)), (0, .ref b)] → W p l e room_1 s m #[Value.ref b] below meth c H locs 600000 7302250 (lw_Z below #[Value.ref b] s) (F0 m 1250 ls [])) {H : Heap} {locs : List Loc} {ls : Array Slot} (G : mG D A s H locs (wd K ad z)) (hl : lv_has ls 4 [(3, .int v), (2, .ref (ad 386)), (1, .ref (ad 0)), (0, .ref b)]) : W p l e room_1 s m #[Value.ref b] below meth c H locs 600000 7302250 (lw_Z below #[Value.ref b] s) (F0 m 874 ls []) := by
  refine lv_aload_n E.1 E.2.1 dL_law_874 rfl (lv_at hl 2 rfl) ?_
  refine lv_aload_n E.1 E.2.1 dL_law_875 rfl (lv_at hl 3 rfl) ?_
  refine lv_iload_n E.1 E.2.1 dL_law_876 rfl (lv_at hl 0 rfl) ?_
  refine lv_iconst (v := 1) E.1 E.2.1 dL_law_877 (by decide) ?_
  refine lv_iadd E.1 E.2.1 dL_law_878 ?_
  refine va_sld E.1 E.2.1 hX hbl hbA G.2.2 (law_in h0 h6 hL 1 (iv_lit 1 (by decide) (by decide))) dL_law_879 ?_
  refine lv_topi (fun x1 ex1 => ?_)
  refine l_vi E G hl (k_waries l D K ad z j.1 x1) 10 (rfl : ro 0 = 10) (by decide) rfl rfl 1 rfl mw_code_X10_waries mw_ini_10 mw_ml_L_114 mw_inst_X10_waries mw_sel_X10_waries hd_X10_waries ⟨by decide, by decide⟩ rfl rfl ⟨by decide, by decide⟩ rfl (Nat.le_of_ble_eq_true rfl) dL_law_880 (fun ra ua H locs hpa G => ?_)
  refine lv_pop E.1 E.2.1 dL_law_883 rfl ?_
  have ja : JJ ua := JJ.c j hpa.1 hpa.2
  refine lv_aload_n E.1 E.2.1 dL_law_884 rfl (lv_at hl 1 rfl) ?_
  refine lv_aload_n E.1 E.2.1 dL_law_885 rfl (lv_at hl 3 rfl) ?_
  refine lv_iload_n E.1 E.2.1 dL_law_886 rfl (lv_at hl 0 rfl) ?_
  refine lv_iconst (v := 1) E.1 E.2.1 dL_law_887 (by decide) ?_
  refine lv_iadd E.1 E.2.1 dL_law_888 ?_
  refine va_sld E.1 E.2.1 hX hbl hbA G.2.2 (law_in h0 h6 hL 1 (iv_lit 1 (by decide) (by decide))) dL_law_889 ?_
  refine m_ci x1 ex1.symm ?_
  refine l_vi E G hl (v_waries l D K ad ua ja.1 x1 ja.2.1) 11 (rfl : ro 386 = 11) (by decide) rfl rfl 1 rfl mw_code_X11_waries mw_ini_11 mw_ml_L_117 mw_inst_X11_waries mw_sel_X11_waries hd_X11_waries ⟨by decide, by decide⟩ rfl rfl ⟨by decide, by decide⟩ rfl (Nat.le_of_ble_eq_true rfl) dL_law_890 (fun rb ub H locs hpb G => ?_)
  have jb : JJ ub := JJ.r ja hpb.1 (KM.r hpb.2) (wf_ka ja.2.1 hpb.2.2.1 rfl rfl rfl rfl)
  refine lv_pop E.1 E.2.1 dL_law_893 rfl ?_
  refine lv_goto (tgt := 1250) E.1 E.2.1 dL_law_894 (by decide) ?_
  exact KK _ _ _ _ G jb hl
set_option maxHeartbeats 4000000 in
set_option maxRecDepth 100000 in
theorem law_rests {p : Program} {e : Env} {s : State} {m : MethodId} {below : List Frame} {meth : Method} {c : Code} (l : Launch) {b L : Nat} {xs : Nat → Int32} {D : va_G} {K : Nat → ClassId} {A : Nat → Prop} {ad : Nat → Nat} {z : TS} {v : Int32} (hL : L ≤ 3072) (E : mE p s m meth c code #[Value.ref b] 4 RL D K A) (hX : va_X b L xs s s.heap) (hbl : b < s.heap.size) (hbA : ¬ A b) (j : JJ z) (h0 : 0 ≤ v.toInt) (h6 : v.toInt + 6 ≤ (L : Int)) (KK : ∀ (z : TS) (H : Heap) (locs : List Loc) (ls : Array Slot), mG D A s H locs (wd K ad z) → JJ z → lv_has ls 4 [(3, .int v), (2, .ref (ad 386)), (1, .ref (ad 0)), (0, .ref b)] → W p l e room_1 s m #[Value.ref b] below meth c H locs 600000 7302250 (lw_Z below #[Value.ref b] s) (F0 m 1250 ls [])) {H : Heap} {locs : List Loc} {ls : Array Slot} (G : mG D A s H locs (wd K ad z)) (hl : lv_has ls 4 [(3, .int v), (2, .ref (ad 386)), (1, .ref (ad 0)), (0, .ref b)]) : W p l e room_1 s m #[Value.ref b] below meth c H locs 600000 7302250 (lw_Z below #[Value.ref b] s) (F0 m 897 ls []) := by
  refine lv_aload_n E.1 E.2.1 dL_law_897 rfl (lv_at hl 2 rfl) ?_
  refine lv_aload_n E.1 E.2.1 dL_law_898 rfl (lv_at hl 3 rfl) ?_
  refine lv_iload_n E.1 E.2.1 dL_law_899 rfl (lv_at hl 0 rfl) ?_
  refine lv_iconst (v := 1) E.1 E.2.1 dL_law_900 (by decide) ?_
  refine lv_iadd E.1 E.2.1 dL_law_901 ?_
  refine va_sld E.1 E.2.1 hX hbl hbA G.2.2 (law_in h0 h6 hL 1 (iv_lit 1 (by decide) (by decide))) dL_law_902 ?_
  refine lv_topi (fun x1 ex1 => ?_)
  refine lv_aload_n E.1 E.2.1 dL_law_903 rfl (lv_at hl 3 rfl) ?_
  refine lv_iload_n E.1 E.2.1 dL_law_904 rfl (lv_at hl 0 rfl) ?_
  refine lv_iconst (v := 2) E.1 E.2.1 dL_law_905 (by decide) ?_
  refine lv_iadd E.1 E.2.1 dL_law_906 ?_
  refine va_sld E.1 E.2.1 hX hbl hbA G.2.2 (law_in h0 h6 hL 2 (iv_lit 2 (by decide) (by decide))) dL_law_907 ?_
  refine lv_topi (fun x2 ex2 => ?_)
  refine lv_aload_n E.1 E.2.1 dL_law_908 rfl (lv_at hl 3 rfl) ?_
  refine lv_iload_n E.1 E.2.1 dL_law_909 rfl (lv_at hl 0 rfl) ?_
  refine lv_iconst (v := 3) E.1 E.2.1 dL_law_910 (by decide) ?_
  refine lv_iadd E.1 E.2.1 dL_law_911 ?_
  refine va_sld E.1 E.2.1 hX hbl hbA G.2.2 (law_in h0 h6 hL 3 (iv_lit 3 (by decide) (by decide))) dL_law_912 ?_
  refine lv_topi (fun x3 ex3 => ?_)
  refine lv_aload_n E.1 E.2.1 dL_law_913 rfl (lv_at hl 3 rfl) ?_
  refine lv_iload_n E.1 E.2.1 dL_law_914 rfl (lv_at hl 0 rfl) ?_
  refine lv_iconst (v := 4) E.1 E.2.1 dL_law_915 (by decide) ?_
  refine lv_iadd E.1 E.2.1 dL_law_916 ?_
  refine va_sld E.1 E.2.1 hX hbl hbA G.2.2 (law_in h0 h6 hL 4 (iv_lit 4 (by decide) (by decide))) dL_law_917 ?_
  refine lv_topi (fun x4 ex4 => ?_)
  refine l_vi E G hl (k_rests l D K ad z j.1 x1 x2 x3 x4) 10 (rfl : ro 0 = 10) (by decide) rfl rfl 4 rfl mw_code_X10_rests mw_ini_10 mw_ml_L_118 mw_inst_X10_rests mw_sel_X10_rests hd_X10_rests ⟨by decide, by decide⟩ rfl rfl ⟨by decide, by decide⟩ rfl (Nat.le_of_ble_eq_true rfl) dL_law_918 (fun ra ua H locs hpa G => ?_)
  refine lv_pop E.1 E.2.1 dL_law_921 rfl ?_
  have ja : JJ ua := JJ.c j hpa.1 hpa.2
  refine lv_aload_n E.1 E.2.1 dL_law_922 rfl (lv_at hl 1 rfl) ?_
  refine lv_aload_n E.1 E.2.1 dL_law_923 rfl (lv_at hl 3 rfl) ?_
  refine lv_iload_n E.1 E.2.1 dL_law_924 rfl (lv_at hl 0 rfl) ?_
  refine lv_iconst (v := 1) E.1 E.2.1 dL_law_925 (by decide) ?_
  refine lv_iadd E.1 E.2.1 dL_law_926 ?_
  refine va_sld E.1 E.2.1 hX hbl hbA G.2.2 (law_in h0 h6 hL 1 (iv_lit 1 (by decide) (by decide))) dL_law_927 ?_
  refine m_ci x1 ex1.symm ?_
  refine lv_aload_n E.1 E.2.1 dL_law_928 rfl (lv_at hl 3 rfl) ?_
  refine lv_iload_n E.1 E.2.1 dL_law_929 rfl (lv_at hl 0 rfl) ?_
  refine lv_iconst (v := 2) E.1 E.2.1 dL_law_930 (by decide) ?_
  refine lv_iadd E.1 E.2.1 dL_law_931 ?_
  refine va_sld E.1 E.2.1 hX hbl hbA G.2.2 (law_in h0 h6 hL 2 (iv_lit 2 (by decide) (by decide))) dL_law_932 ?_
  refine m_ci x2 ex2.symm ?_
  refine lv_aload_n E.1 E.2.1 dL_law_933 rfl (lv_at hl 3 rfl) ?_
  refine lv_iload_n E.1 E.2.1 dL_law_934 rfl (lv_at hl 0 rfl) ?_
  refine lv_iconst (v := 3) E.1 E.2.1 dL_law_935 (by decide) ?_
  refine lv_iadd E.1 E.2.1 dL_law_936 ?_
  refine va_sld E.1 E.2.1 hX hbl hbA G.2.2 (law_in h0 h6 hL 3 (iv_lit 3 (by decide) (by decide))) dL_law_937 ?_
  refine m_ci x3 ex3.symm ?_
  refine lv_aload_n E.1 E.2.1 dL_law_938 rfl (lv_at hl 3 rfl) ?_
  refine lv_iload_n E.1 E.2.1 dL_law_939 rfl (lv_at hl 0 rfl) ?_
  refine lv_iconst (v := 4) E.1 E.2.1 dL_law_940 (by decide) ?_
  refine lv_iadd E.1 E.2.1 dL_law_941 ?_
  refine va_sld E.1 E.2.1 hX hbl hbA G.2.2 (law_in h0 h6 hL 4 (iv_lit 4 (by decide) (by decide))) dL_law_942 ?_
  refine m_ci x4 ex4.symm ?_
  refine l_vi E G hl (v_rests l D K ad ua ja.1 x1 x2 x3 x4 ja.2.1) 11 (rfl : ro 386 = 11) (by decide) rfl rfl 4 rfl mw_code_X11_rests mw_ini_11 mw_ml_L_122 mw_inst_X11_rests mw_sel_X11_rests hd_X11_rests ⟨by decide, by decide⟩ rfl rfl ⟨by decide, by decide⟩ rfl (Nat.le_of_ble_eq_true rfl) dL_law_943 (fun rb ub H locs hpb G => ?_)
  have jb : JJ ub := JJ.r ja hpb.1 (KM.r hpb.2) (wf_ka ja.2.1 hpb.2.2.1 rfl rfl rfl rfl)
  refine lv_pop E.1 E.2.1 dL_law_946 rfl ?_
  refine lv_goto (tgt := 1250) E.1 E.2.1 dL_law_947 (by decide) ?_
  exact KK _ _ _ _ G jb hl
set_option maxHeartbeats 4000000 in
set_option maxRecDepth 100000 in
theorem law_ring {p : Program} {e : Env} {s : State} {m : MethodId} {below : List Frame} {meth : Method} {c : Code} (l : Launch) {b L : Nat} {xs : Nat → Int32} {D : va_G} {K : Nat → ClassId} {A : Nat → Prop} {ad : Nat → Nat} {z : TS} {v : Int32} (hL : L ≤ 3072) (E : mE p s m meth c code #[Value.ref b] 4 RL D K A) (hX : va_X b L xs s s.heap) (hbl : b < s.heap.size) (hbA : ¬ A b) (j : JJ z) (h0 : 0 ≤ v.toInt) (h6 : v.toInt + 6 ≤ (L : Int)) (KK : ∀ (z : TS) (H : Heap) (locs : List Loc) (ls : Array Slot), mG D A s H locs (wd K ad z) → JJ z → lv_has ls 4 [(3, .int v), (2, .ref (ad 386)), (1, .ref (ad 0)), (0, .ref b)] → W p l e room_1 s m #[Value.ref b] below meth c H locs 600000 7302250 (lw_Z below #[Value.ref b] s) (F0 m 1250 ls [])) {H : Heap} {locs : List Loc} {ls : Array Slot} (G : mG D A s H locs (wd K ad z)) (hl : lv_has ls 4 [(3, .int v), (2, .ref (ad 386)), (1, .ref (ad 0)), (0, .ref b)]) : W p l e room_1 s m #[Value.ref b] below meth c H locs 600000 7302250 (lw_Z below #[Value.ref b] s) (F0 m 950 ls []) := by
  refine lv_aload_n E.1 E.2.1 dL_law_950 rfl (lv_at hl 2 rfl) ?_
  refine lv_aload_n E.1 E.2.1 dL_law_951 rfl (lv_at hl 3 rfl) ?_
  refine lv_iload_n E.1 E.2.1 dL_law_952 rfl (lv_at hl 0 rfl) ?_
  refine lv_iconst (v := 1) E.1 E.2.1 dL_law_953 (by decide) ?_
  refine lv_iadd E.1 E.2.1 dL_law_954 ?_
  refine va_sld E.1 E.2.1 hX hbl hbA G.2.2 (law_in h0 h6 hL 1 (iv_lit 1 (by decide) (by decide))) dL_law_955 ?_
  refine lv_topi (fun x1 ex1 => ?_)
  refine l_vi E G hl (k_ring l D K ad z j.1 x1) 10 (rfl : ro 0 = 10) (by decide) rfl rfl 1 rfl mw_code_X10_ring mw_ini_10 mw_ml_L_123 mw_inst_X10_ring mw_sel_X10_ring hd_X10_ring ⟨by decide, by decide⟩ rfl rfl ⟨by decide, by decide⟩ rfl (Nat.le_of_ble_eq_true rfl) dL_law_956 (fun ra ua H locs hpa G => ?_)
  refine lv_pop E.1 E.2.1 dL_law_959 rfl ?_
  have ja : JJ ua := JJ.c j hpa.1 hpa.2
  refine lv_aload_n E.1 E.2.1 dL_law_960 rfl (lv_at hl 1 rfl) ?_
  refine lv_aload_n E.1 E.2.1 dL_law_961 rfl (lv_at hl 3 rfl) ?_
  refine lv_iload_n E.1 E.2.1 dL_law_962 rfl (lv_at hl 0 rfl) ?_
  refine lv_iconst (v := 1) E.1 E.2.1 dL_law_963 (by decide) ?_
  refine lv_iadd E.1 E.2.1 dL_law_964 ?_
  refine va_sld E.1 E.2.1 hX hbl hbA G.2.2 (law_in h0 h6 hL 1 (iv_lit 1 (by decide) (by decide))) dL_law_965 ?_
  refine m_ci x1 ex1.symm ?_
  refine l_vi E G hl (v_ring l D K ad ua ja.1 x1 ja.2.1) 11 (rfl : ro 386 = 11) (by decide) rfl rfl 1 rfl mw_code_X11_ring mw_ini_11 mw_ml_L_126 mw_inst_X11_ring mw_sel_X11_ring hd_X11_ring ⟨by decide, by decide⟩ rfl rfl ⟨by decide, by decide⟩ rfl (Nat.le_of_ble_eq_true rfl) dL_law_966 (fun rb ub H locs hpb G => ?_)
  have jb : JJ ub := JJ.r ja hpb.1 (KM.r hpb.2) (wf_ka ja.2.1 hpb.2.2.1 rfl rfl rfl rfl)
  refine lv_pop E.1 E.2.1 dL_law_969 rfl ?_
  refine lv_goto (tgt := 1250) E.1 E.2.1 dL_law_970 (by decide) ?_
  exact KK _ _ _ _ G jb hl
