set_option maxHeartbeats 4000000 in
set_option maxRecDepth 100000 in
theorem law_pence {p : Program} {e : Env} {s : State} {m : MethodId} {below : List Frame} {meth : Method} {c : Code} (l : Launch) {b L : Nat} {xs : Nat → Int32} {D : va_G} {K : Nat → ClassId} {A : Nat → Prop} {ad : Nat → Nat} {z : TS} {v : Int32} (hL : L ≤ 3072) (E : mE p s m meth c code #[Value.ref b] 4 RL D K A) (hX : va_X b L xs s s.heap) (hbl : b < s.heap.size) (hbA : ¬ A b) (j : JJ z) (h0 : 0 ≤ v.toInt) (h6 : v.toInt + 6 ≤ (L : Int)) (KK : ∀ (z : TS) (H : Heap) (locs : List Loc) (ls : Array Slot), mG D A s H locs (wd K ad z) → JJ z → lv_has ls 4 [(3, .int v), (2, .ref (ad 386)), (1, .ref (ad 0)), (0, .ref b)] → W p l e room_1 s m #[Value.ref b] below meth c H locs 600000 7302250 (lw_Z below #[Value.ref b] s) (F0 m 1250 ls [])) {H : Heap} {locs : List Loc} {ls : Array Slot} (G : mG D A s H locs (wd K ad z)) (hl : lv_has ls 4 [(3, .int v), (2, .ref (ad 386)), (1, .ref (ad 0)), (0, .ref b)]) : W p l e room_1 s m #[Value.ref b] below meth c H locs 600000 7302250 (lw_Z below #[Value.ref b] s) (F0 m 973 ls []) := by
  refine lv_aload_n E.1 E.2.1 dL_law_973 rfl (lv_at hl 2 rfl) ?_
  refine lv_aload_n E.1 E.2.1 dL_law_974 rfl (lv_at hl 3 rfl) ?_
  refine lv_iload_n E.1 E.2.1 dL_law_975 rfl (lv_at hl 0 rfl) ?_
  refine lv_iconst (v := 1) E.1 E.2.1 dL_law_976 (by decide) ?_
  refine lv_iadd E.1 E.2.1 dL_law_977 ?_
  refine va_sld E.1 E.2.1 hX hbl hbA G.2.2 (law_in h0 h6 hL 1 (iv_lit 1 (by decide) (by decide))) dL_law_978 ?_
  refine lv_topi (fun x1 ex1 => ?_)
  refine lv_aload_n E.1 E.2.1 dL_law_979 rfl (lv_at hl 3 rfl) ?_
  refine lv_iload_n E.1 E.2.1 dL_law_980 rfl (lv_at hl 0 rfl) ?_
  refine lv_iconst (v := 2) E.1 E.2.1 dL_law_981 (by decide) ?_
  refine lv_iadd E.1 E.2.1 dL_law_982 ?_
  refine va_sld E.1 E.2.1 hX hbl hbA G.2.2 (law_in h0 h6 hL 2 (iv_lit 2 (by decide) (by decide))) dL_law_983 ?_
  refine lv_topi (fun x2 ex2 => ?_)
  refine l_vi E G hl (k_pence l D K ad z j.1 x1 x2) 10 (rfl : ro 0 = 10) (by decide) rfl rfl 2 rfl mw_code_X10_pence mw_ini_10 mw_ml_L_127 mw_inst_X10_pence mw_sel_X10_pence hd_X10_pence ⟨by decide, by decide⟩ rfl rfl ⟨by decide, by decide⟩ rfl (Nat.le_of_ble_eq_true rfl) dL_law_984 (fun ra ua H locs hpa G => ?_)
  refine lv_pop E.1 E.2.1 dL_law_987 rfl ?_
  rw [hpa] at G
  refine lv_aload_n E.1 E.2.1 dL_law_988 rfl (lv_at hl 1 rfl) ?_
  refine lv_aload_n E.1 E.2.1 dL_law_989 rfl (lv_at hl 3 rfl) ?_
  refine lv_iload_n E.1 E.2.1 dL_law_990 rfl (lv_at hl 0 rfl) ?_
  refine lv_iconst (v := 1) E.1 E.2.1 dL_law_991 (by decide) ?_
  refine lv_iadd E.1 E.2.1 dL_law_992 ?_
  refine va_sld E.1 E.2.1 hX hbl hbA G.2.2 (law_in h0 h6 hL 1 (iv_lit 1 (by decide) (by decide))) dL_law_993 ?_
  refine m_ci x1 ex1.symm ?_
  refine lv_aload_n E.1 E.2.1 dL_law_994 rfl (lv_at hl 3 rfl) ?_
  refine lv_iload_n E.1 E.2.1 dL_law_995 rfl (lv_at hl 0 rfl) ?_
  refine lv_iconst (v := 2) E.1 E.2.1 dL_law_996 (by decide) ?_
  refine lv_iadd E.1 E.2.1 dL_law_997 ?_
  refine va_sld E.1 E.2.1 hX hbl hbA G.2.2 (law_in h0 h6 hL 2 (iv_lit 2 (by decide) (by decide))) dL_law_998 ?_
  refine m_ci x2 ex2.symm ?_
  refine l_vi E G hl (v_pence l D K ad z j.1 x1 x2) 11 (rfl : ro 386 = 11) (by decide) rfl rfl 2 rfl mw_code_X11_pence mw_ini_11 mw_ml_L_130 mw_inst_X11_pence mw_sel_X11_pence hd_X11_pence ⟨by decide, by decide⟩ rfl rfl ⟨by decide, by decide⟩ rfl (Nat.le_of_ble_eq_true rfl) dL_law_999 (fun rb ub H locs hpb G => ?_)
  rw [hpb] at G
  refine lv_pop E.1 E.2.1 dL_law_1002 rfl ?_
  refine lv_goto (tgt := 1250) E.1 E.2.1 dL_law_1003 (by decide) ?_
  exact KK _ _ _ _ G j hl
set_option maxHeartbeats 4000000 in
set_option maxRecDepth 100000 in
theorem law_note {p : Program} {e : Env} {s : State} {m : MethodId} {below : List Frame} {meth : Method} {c : Code} (l : Launch) {b L : Nat} {xs : Nat → Int32} {D : va_G} {K : Nat → ClassId} {A : Nat → Prop} {ad : Nat → Nat} {z : TS} {v : Int32} (hL : L ≤ 3072) (E : mE p s m meth c code #[Value.ref b] 4 RL D K A) (hX : va_X b L xs s s.heap) (hbl : b < s.heap.size) (hbA : ¬ A b) (j : JJ z) (h0 : 0 ≤ v.toInt) (h6 : v.toInt + 6 ≤ (L : Int)) (KK : ∀ (z : TS) (H : Heap) (locs : List Loc) (ls : Array Slot), mG D A s H locs (wd K ad z) → JJ z → lv_has ls 4 [(3, .int v), (2, .ref (ad 386)), (1, .ref (ad 0)), (0, .ref b)] → W p l e room_1 s m #[Value.ref b] below meth c H locs 600000 7302250 (lw_Z below #[Value.ref b] s) (F0 m 1250 ls [])) {H : Heap} {locs : List Loc} {ls : Array Slot} (G : mG D A s H locs (wd K ad z)) (hl : lv_has ls 4 [(3, .int v), (2, .ref (ad 386)), (1, .ref (ad 0)), (0, .ref b)]) : W p l e room_1 s m #[Value.ref b] below meth c H locs 600000 7302250 (lw_Z below #[Value.ref b] s) (F0 m 1006 ls []) := by
  refine lv_aload_n E.1 E.2.1 dL_law_1006 rfl (lv_at hl 2 rfl) ?_
  refine lv_aload_n E.1 E.2.1 dL_law_1007 rfl (lv_at hl 3 rfl) ?_
  refine lv_iload_n E.1 E.2.1 dL_law_1008 rfl (lv_at hl 0 rfl) ?_
  refine lv_iconst (v := 1) E.1 E.2.1 dL_law_1009 (by decide) ?_
  refine lv_iadd E.1 E.2.1 dL_law_1010 ?_
  refine va_sld E.1 E.2.1 hX hbl hbA G.2.2 (law_in h0 h6 hL 1 (iv_lit 1 (by decide) (by decide))) dL_law_1011 ?_
  refine lv_topi (fun x1 ex1 => ?_)
  refine lv_aload_n E.1 E.2.1 dL_law_1012 rfl (lv_at hl 3 rfl) ?_
  refine lv_iload_n E.1 E.2.1 dL_law_1013 rfl (lv_at hl 0 rfl) ?_
  refine lv_iconst (v := 2) E.1 E.2.1 dL_law_1014 (by decide) ?_
  refine lv_iadd E.1 E.2.1 dL_law_1015 ?_
  refine va_sld E.1 E.2.1 hX hbl hbA G.2.2 (law_in h0 h6 hL 2 (iv_lit 2 (by decide) (by decide))) dL_law_1016 ?_
  refine lv_topi (fun x2 ex2 => ?_)
  refine lv_aload_n E.1 E.2.1 dL_law_1017 rfl (lv_at hl 3 rfl) ?_
  refine lv_iload_n E.1 E.2.1 dL_law_1018 rfl (lv_at hl 0 rfl) ?_
  refine lv_iconst (v := 3) E.1 E.2.1 dL_law_1019 (by decide) ?_
  refine lv_iadd E.1 E.2.1 dL_law_1020 ?_
  refine va_sld E.1 E.2.1 hX hbl hbA G.2.2 (law_in h0 h6 hL 3 (iv_lit 3 (by decide) (by decide))) dL_law_1021 ?_
  refine lv_topi (fun x3 ex3 => ?_)
  refine l_vi E G hl (k_note l D K ad z j.1 x1 x2 x3) 10 (rfl : ro 0 = 10) (by decide) rfl rfl 3 rfl mw_code_X10_note mw_ini_10 mw_ml_L_131 mw_inst_X10_note mw_sel_X10_note hd_X10_note ⟨by decide, by decide⟩ rfl rfl ⟨by decide, by decide⟩ rfl (Nat.le_of_ble_eq_true rfl) dL_law_1022 (fun ra ua H locs hpa G => ?_)
  refine lv_pop E.1 E.2.1 dL_law_1025 rfl ?_
  have ja : JJ ua := JJ.c j hpa.1 hpa.2
  refine lv_aload_n E.1 E.2.1 dL_law_1026 rfl (lv_at hl 1 rfl) ?_
  refine lv_aload_n E.1 E.2.1 dL_law_1027 rfl (lv_at hl 3 rfl) ?_
  refine lv_iload_n E.1 E.2.1 dL_law_1028 rfl (lv_at hl 0 rfl) ?_
  refine lv_iconst (v := 1) E.1 E.2.1 dL_law_1029 (by decide) ?_
  refine lv_iadd E.1 E.2.1 dL_law_1030 ?_
  refine va_sld E.1 E.2.1 hX hbl hbA G.2.2 (law_in h0 h6 hL 1 (iv_lit 1 (by decide) (by decide))) dL_law_1031 ?_
  refine m_ci x1 ex1.symm ?_
  refine lv_aload_n E.1 E.2.1 dL_law_1032 rfl (lv_at hl 3 rfl) ?_
  refine lv_iload_n E.1 E.2.1 dL_law_1033 rfl (lv_at hl 0 rfl) ?_
  refine lv_iconst (v := 2) E.1 E.2.1 dL_law_1034 (by decide) ?_
  refine lv_iadd E.1 E.2.1 dL_law_1035 ?_
  refine va_sld E.1 E.2.1 hX hbl hbA G.2.2 (law_in h0 h6 hL 2 (iv_lit 2 (by decide) (by decide))) dL_law_1036 ?_
  refine m_ci x2 ex2.symm ?_
  refine lv_aload_n E.1 E.2.1 dL_law_1037 rfl (lv_at hl 3 rfl) ?_
  refine lv_iload_n E.1 E.2.1 dL_law_1038 rfl (lv_at hl 0 rfl) ?_
  refine lv_iconst (v := 3) E.1 E.2.1 dL_law_1039 (by decide) ?_
  refine lv_iadd E.1 E.2.1 dL_law_1040 ?_
  refine va_sld E.1 E.2.1 hX hbl hbA G.2.2 (law_in h0 h6 hL 3 (iv_lit 3 (by decide) (by decide))) dL_law_1041 ?_
  refine m_ci x3 ex3.symm ?_
  refine l_vi E G hl (v_note l D K ad ua ja.1 x1 x2 x3) 11 (rfl : ro 386 = 11) (by decide) rfl rfl 3 rfl mw_code_X11_note mw_ini_11 mw_ml_L_134 mw_inst_X11_note mw_sel_X11_note hd_X11_note ⟨by decide, by decide⟩ rfl rfl ⟨by decide, by decide⟩ rfl (Nat.le_of_ble_eq_true rfl) dL_law_1042 (fun rb ub H locs hpb G => ?_)
  have jb : JJ ub := JJ.r ja hpb.1 (KM.r hpb.2) (wf_ka ja.2.1 hpb.2.2.1 rfl rfl rfl rfl)
  refine lv_pop E.1 E.2.1 dL_law_1045 rfl ?_
  refine lv_goto (tgt := 1250) E.1 E.2.1 dL_law_1046 (by decide) ?_
  exact KK _ _ _ _ G jb hl
set_option maxHeartbeats 4000000 in
set_option maxRecDepth 100000 in
theorem law_ruled {p : Program} {e : Env} {s : State} {m : MethodId} {below : List Frame} {meth : Method} {c : Code} (l : Launch) {b L : Nat} {xs : Nat → Int32} {D : va_G} {K : Nat → ClassId} {A : Nat → Prop} {ad : Nat → Nat} {z : TS} {v : Int32} (hL : L ≤ 3072) (E : mE p s m meth c code #[Value.ref b] 4 RL D K A) (hX : va_X b L xs s s.heap) (hbl : b < s.heap.size) (hbA : ¬ A b) (j : JJ z) (h0 : 0 ≤ v.toInt) (h6 : v.toInt + 6 ≤ (L : Int)) (KK : ∀ (z : TS) (H : Heap) (locs : List Loc) (ls : Array Slot), mG D A s H locs (wd K ad z) → JJ z → lv_has ls 4 [(3, .int v), (2, .ref (ad 386)), (1, .ref (ad 0)), (0, .ref b)] → W p l e room_1 s m #[Value.ref b] below meth c H locs 600000 7302250 (lw_Z below #[Value.ref b] s) (F0 m 1250 ls [])) {H : Heap} {locs : List Loc} {ls : Array Slot} (G : mG D A s H locs (wd K ad z)) (hl : lv_has ls 4 [(3, .int v), (2, .ref (ad 386)), (1, .ref (ad 0)), (0, .ref b)]) : W p l e room_1 s m #[Value.ref b] below meth c H locs 600000 7302250 (lw_Z below #[Value.ref b] s) (F0 m 1049 ls []) := by
  refine lv_aload_n E.1 E.2.1 dL_law_1049 rfl (lv_at hl 2 rfl) ?_
  refine lv_aload_n E.1 E.2.1 dL_law_1050 rfl (lv_at hl 3 rfl) ?_
  refine lv_iload_n E.1 E.2.1 dL_law_1051 rfl (lv_at hl 0 rfl) ?_
  refine lv_iconst (v := 1) E.1 E.2.1 dL_law_1052 (by decide) ?_
  refine lv_iadd E.1 E.2.1 dL_law_1053 ?_
  refine va_sld E.1 E.2.1 hX hbl hbA G.2.2 (law_in h0 h6 hL 1 (iv_lit 1 (by decide) (by decide))) dL_law_1054 ?_
  refine lv_topi (fun x1 ex1 => ?_)
  refine l_vi E G hl (k_ruled l D K ad z j.1 x1) 10 (rfl : ro 0 = 10) (by decide) rfl rfl 1 rfl mw_code_X10_ruled mw_ini_10 mw_ml_L_135 mw_inst_X10_ruled mw_sel_X10_ruled hd_X10_ruled ⟨by decide, by decide⟩ rfl rfl ⟨by decide, by decide⟩ rfl (Nat.le_of_ble_eq_true rfl) dL_law_1055 (fun ra ua H locs hpa G => ?_)
  refine lv_pop E.1 E.2.1 dL_law_1058 rfl ?_
  have ja : JJ ua := JJ.c j hpa.1 hpa.2
  refine lv_aload_n E.1 E.2.1 dL_law_1059 rfl (lv_at hl 1 rfl) ?_
  refine lv_aload_n E.1 E.2.1 dL_law_1060 rfl (lv_at hl 3 rfl) ?_
  refine lv_iload_n E.1 E.2.1 dL_law_1061 rfl (lv_at hl 0 rfl) ?_
  refine lv_iconst (v := 1) E.1 E.2.1 dL_law_1062 (by decide) ?_
  refine lv_iadd E.1 E.2.1 dL_law_1063 ?_
  refine va_sld E.1 E.2.1 hX hbl hbA G.2.2 (law_in h0 h6 hL 1 (iv_lit 1 (by decide) (by decide))) dL_law_1064 ?_
  refine m_ci x1 ex1.symm ?_
  refine l_vi E G hl (v_ruled l D K ad ua ja.1 x1 ja.2.1) 11 (rfl : ro 386 = 11) (by decide) rfl rfl 1 rfl mw_code_X11_ruled mw_ini_11 mw_ml_L_138 mw_inst_X11_ruled mw_sel_X11_ruled hd_X11_ruled ⟨by decide, by decide⟩ rfl rfl ⟨by decide, by decide⟩ rfl (Nat.le_of_ble_eq_true rfl) dL_law_1065 (fun rb ub H locs hpb G => ?_)
  have jb : JJ ub := JJ.r ja hpb.1 (KM.r hpb.2) (wf_ka ja.2.1 hpb.2.2.1 rfl rfl rfl rfl)
  refine lv_pop E.1 E.2.1 dL_law_1068 rfl ?_
  refine lv_goto (tgt := 1250) E.1 E.2.1 dL_law_1069 (by decide) ?_
  exact KK _ _ _ _ G jb hl
set_option maxHeartbeats 4000000 in
set_option maxRecDepth 100000 in
theorem law_look {p : Program} {e : Env} {s : State} {m : MethodId} {below : List Frame} {meth : Method} {c : Code} (l : Launch) {b L : Nat} {xs : Nat → Int32} {D : va_G} {K : Nat → ClassId} {A : Nat → Prop} {ad : Nat → Nat} {z : TS} {v : Int32} (hL : L ≤ 3072) (E : mE p s m meth c code #[Value.ref b] 4 RL D K A) (hX : va_X b L xs s s.heap) (hbl : b < s.heap.size) (hbA : ¬ A b) (j : JJ z) (h0 : 0 ≤ v.toInt) (h6 : v.toInt + 6 ≤ (L : Int)) (KK : ∀ (z : TS) (H : Heap) (locs : List Loc) (ls : Array Slot), mG D A s H locs (wd K ad z) → JJ z → lv_has ls 4 [(3, .int v), (2, .ref (ad 386)), (1, .ref (ad 0)), (0, .ref b)] → W p l e room_1 s m #[Value.ref b] below meth c H locs 600000 7302250 (lw_Z below #[Value.ref b] s) (F0 m 1250 ls [])) {H : Heap} {locs : List Loc} {ls : Array Slot} (G : mG D A s H locs (wd K ad z)) (hl : lv_has ls 4 [(3, .int v), (2, .ref (ad 386)), (1, .ref (ad 0)), (0, .ref b)]) : W p l e room_1 s m #[Value.ref b] below meth c H locs 600000 7302250 (lw_Z below #[Value.ref b] s) (F0 m 1072 ls []) := by
  refine lv_aload_n E.1 E.2.1 dL_law_1072 rfl (lv_at hl 2 rfl) ?_
  refine lv_aload_n E.1 E.2.1 dL_law_1073 rfl (lv_at hl 3 rfl) ?_
  refine lv_iload_n E.1 E.2.1 dL_law_1074 rfl (lv_at hl 0 rfl) ?_
  refine lv_iconst (v := 1) E.1 E.2.1 dL_law_1075 (by decide) ?_
  refine lv_iadd E.1 E.2.1 dL_law_1076 ?_
  refine va_sld E.1 E.2.1 hX hbl hbA G.2.2 (law_in h0 h6 hL 1 (iv_lit 1 (by decide) (by decide))) dL_law_1077 ?_
  refine lv_topi (fun x1 ex1 => ?_)
  refine lv_aload_n E.1 E.2.1 dL_law_1078 rfl (lv_at hl 3 rfl) ?_
  refine lv_iload_n E.1 E.2.1 dL_law_1079 rfl (lv_at hl 0 rfl) ?_
  refine lv_iconst (v := 2) E.1 E.2.1 dL_law_1080 (by decide) ?_
  refine lv_iadd E.1 E.2.1 dL_law_1081 ?_
  refine va_sld E.1 E.2.1 hX hbl hbA G.2.2 (law_in h0 h6 hL 2 (iv_lit 2 (by decide) (by decide))) dL_law_1082 ?_
  refine lv_topi (fun x2 ex2 => ?_)
  refine l_vi E G hl (k_look l D K ad z j.1 x1 x2) 10 (rfl : ro 0 = 10) (by decide) rfl rfl 2 rfl mw_code_X10_look mw_ini_10 mw_ml_L_139 mw_inst_X10_look mw_sel_X10_look hd_X10_look ⟨by decide, by decide⟩ rfl rfl ⟨by decide, by decide⟩ rfl (Nat.le_of_ble_eq_true rfl) dL_law_1083 (fun ra ua H locs hpa G => ?_)
  refine lv_pop E.1 E.2.1 dL_law_1086 rfl ?_
  have ja : JJ ua := JJ.c j hpa.1 hpa.2
  refine lv_aload_n E.1 E.2.1 dL_law_1087 rfl (lv_at hl 1 rfl) ?_
  refine lv_aload_n E.1 E.2.1 dL_law_1088 rfl (lv_at hl 3 rfl) ?_
  refine lv_iload_n E.1 E.2.1 dL_law_1089 rfl (lv_at hl 0 rfl) ?_
  refine lv_iconst (v := 1) E.1 E.2.1 dL_law_1090 (by decide) ?_
  refine lv_iadd E.1 E.2.1 dL_law_1091 ?_
  refine va_sld E.1 E.2.1 hX hbl hbA G.2.2 (law_in h0 h6 hL 1 (iv_lit 1 (by decide) (by decide))) dL_law_1092 ?_
  refine m_ci x1 ex1.symm ?_
  refine lv_aload_n E.1 E.2.1 dL_law_1093 rfl (lv_at hl 3 rfl) ?_
  refine lv_iload_n E.1 E.2.1 dL_law_1094 rfl (lv_at hl 0 rfl) ?_
  refine lv_iconst (v := 2) E.1 E.2.1 dL_law_1095 (by decide) ?_
  refine lv_iadd E.1 E.2.1 dL_law_1096 ?_
  refine va_sld E.1 E.2.1 hX hbl hbA G.2.2 (law_in h0 h6 hL 2 (iv_lit 2 (by decide) (by decide))) dL_law_1097 ?_
  refine m_ci x2 ex2.symm ?_
  refine l_vi E G hl (v_look l D K ad ua ja.1 x1 x2 ja.2.1) 11 (rfl : ro 386 = 11) (by decide) rfl rfl 2 rfl mw_code_X11_look mw_ini_11 mw_ml_L_142 mw_inst_X11_look mw_sel_X11_look hd_X11_look ⟨by decide, by decide⟩ rfl rfl ⟨by decide, by decide⟩ rfl (Nat.le_of_ble_eq_true rfl) dL_law_1098 (fun rb ub H locs hpb G => ?_)
  have jb : JJ ub := JJ.r ja hpb.1 (KM.r hpb.2) (wf_ka ja.2.1 hpb.2.2.1 rfl rfl rfl rfl)
  refine lv_pop E.1 E.2.1 dL_law_1101 rfl ?_
  refine lv_goto (tgt := 1250) E.1 E.2.1 dL_law_1102 (by decide) ?_
  exact KK _ _ _ _ G jb hl
set_option maxHeartbeats 4000000 in
set_option maxRecDepth 100000 in
theorem law_seed {p : Program} {e : Env} {s : State} {m : MethodId} {below : List Frame} {meth : Method} {c : Code} (l : Launch) {b L : Nat} {xs : Nat → Int32} {D : va_G} {K : Nat → ClassId} {A : Nat → Prop} {ad : Nat → Nat} {z : TS} {v : Int32} (hL : L ≤ 3072) (E : mE p s m meth c code #[Value.ref b] 4 RL D K A) (hX : va_X b L xs s s.heap) (hbl : b < s.heap.size) (hbA : ¬ A b) (j : JJ z) (h0 : 0 ≤ v.toInt) (h6 : v.toInt + 6 ≤ (L : Int)) (KK : ∀ (z : TS) (H : Heap) (locs : List Loc) (ls : Array Slot), mG D A s H locs (wd K ad z) → JJ z → lv_has ls 4 [(3, .int v), (2, .ref (ad 386)), (1, .ref (ad 0)), (0, .ref b)] → W p l e room_1 s m #[Value.ref b] below meth c H locs 600000 7302250 (lw_Z below #[Value.ref b] s) (F0 m 1250 ls [])) {H : Heap} {locs : List Loc} {ls : Array Slot} (G : mG D A s H locs (wd K ad z)) (hl : lv_has ls 4 [(3, .int v), (2, .ref (ad 386)), (1, .ref (ad 0)), (0, .ref b)]) : W p l e room_1 s m #[Value.ref b] below meth c H locs 600000 7302250 (lw_Z below #[Value.ref b] s) (F0 m 1105 ls []) := by
  refine lv_aload_n E.1 E.2.1 dL_law_1105 rfl (lv_at hl 2 rfl) ?_
  refine lv_aload_n E.1 E.2.1 dL_law_1106 rfl (lv_at hl 3 rfl) ?_
  refine lv_iload_n E.1 E.2.1 dL_law_1107 rfl (lv_at hl 0 rfl) ?_
  refine lv_iconst (v := 1) E.1 E.2.1 dL_law_1108 (by decide) ?_
  refine lv_iadd E.1 E.2.1 dL_law_1109 ?_
  refine va_sld E.1 E.2.1 hX hbl hbA G.2.2 (law_in h0 h6 hL 1 (iv_lit 1 (by decide) (by decide))) dL_law_1110 ?_
  refine lv_topi (fun x1 ex1 => ?_)
  rcases Int.lt_or_le x1.toInt 0 with hx | hx
  · have bx : iv (-2147483648) (-1) x1 := ⟨(iv_full _).1, by omega⟩
    refine l_vi E G hl (k_seed_n l D K ad z j.1 x1 bx) 10 (rfl : ro 0 = 10) (by decide) rfl rfl 1 rfl mw_code_X10_seed mw_ini_10 mw_ml_L_143 mw_inst_X10_seed mw_sel_X10_seed hd_X10_seed ⟨by decide, by decide⟩ rfl rfl ⟨by decide, by decide⟩ rfl (Nat.le_of_ble_eq_true rfl) dL_law_1111 (fun ra ua H locs hpa G => ?_)
    rw [hpa.1] at G
    refine lv_aload_n E.1 E.2.1 dL_law_1114 rfl (lv_at hl 1 rfl) ?_
    refine lv_aload_n E.1 E.2.1 dL_law_1115 rfl (lv_at hl 3 rfl) ?_
    refine lv_iload_n E.1 E.2.1 dL_law_1116 rfl (lv_at hl 0 rfl) ?_
    refine lv_iconst (v := 1) E.1 E.2.1 dL_law_1117 (by decide) ?_
    refine lv_iadd E.1 E.2.1 dL_law_1118 ?_
    refine va_sld E.1 E.2.1 hX hbl hbA G.2.2 (law_in h0 h6 hL 1 (iv_lit 1 (by decide) (by decide))) dL_law_1119 ?_
    refine m_ci x1 ex1.symm ?_
    refine l_vi E G hl (v_seed_n l D K ad z j.1 x1 bx) 11 (rfl : ro 386 = 11) (by decide) rfl rfl 1 rfl mw_code_X11_seed mw_ini_11 mw_ml_L_146 mw_inst_X11_seed mw_sel_X11_seed hd_X11_seed ⟨by decide, by decide⟩ rfl rfl ⟨by decide, by decide⟩ rfl (Nat.le_of_ble_eq_true rfl) dL_law_1120 (fun rb ub H locs hpb G => ?_)
    refine lv_icmp_eq (tgt := 1250) E.1 E.2.1 dL_law_1123 (by decide) (fun _ => ?_) (fun h => absurd (Int32.toInt_inj.mp (by have h1 := hpa.2.1; have h2 := hpa.2.2; have h3 := hpb.2.1; have h4 := hpb.2.2; omega)) h)
    rw [hpb.1] at G
    exact KK _ _ _ _ G j hl
  · have bx : iv 0 2147483647 x1 := ⟨hx, (iv_full _).2⟩
    refine l_vi E G hl (k_seed l D K ad z j.1 x1 bx) 10 (rfl : ro 0 = 10) (by decide) rfl rfl 1 rfl mw_code_X10_seed mw_ini_10 mw_ml_L_143 mw_inst_X10_seed mw_sel_X10_seed hd_X10_seed ⟨by decide, by decide⟩ rfl rfl ⟨by decide, by decide⟩ rfl (Nat.le_of_ble_eq_true rfl) dL_law_1111 (fun ra ua H locs hpa G => ?_)
    refine lv_aload_n E.1 E.2.1 dL_law_1114 rfl (lv_at hl 1 rfl) ?_
    refine lv_aload_n E.1 E.2.1 dL_law_1115 rfl (lv_at hl 3 rfl) ?_
    refine lv_iload_n E.1 E.2.1 dL_law_1116 rfl (lv_at hl 0 rfl) ?_
    refine lv_iconst (v := 1) E.1 E.2.1 dL_law_1117 (by decide) ?_
    refine lv_iadd E.1 E.2.1 dL_law_1118 ?_
    refine va_sld E.1 E.2.1 hX hbl hbA G.2.2 (law_in h0 h6 hL 1 (iv_lit 1 (by decide) (by decide))) dL_law_1119 ?_
    refine m_ci x1 ex1.symm ?_
    refine l_vi E G hl (v_seed l D K ad ua hpa.1 x1 bx) 11 (rfl : ro 386 = 11) (by decide) rfl rfl 1 rfl mw_code_X11_seed mw_ini_11 mw_ml_L_146 mw_inst_X11_seed mw_sel_X11_seed hd_X11_seed ⟨by decide, by decide⟩ rfl rfl ⟨by decide, by decide⟩ rfl (Nat.le_of_ble_eq_true rfl) dL_law_1120 (fun rb ub H locs hpb G => ?_)
    have jb := JJ.seed j hpa.2.2 hpb.1 hpb.2.2
    refine lv_icmp_eq (tgt := 1250) E.1 E.2.1 dL_law_1123 (by decide) (fun _ => ?_) (fun h => absurd (by rw [hpa.2.1, hpb.2.1]; exact sd_eq j hpa.2.2) h)
    exact KK _ _ _ _ G jb hl
set_option maxHeartbeats 4000000 in
set_option maxRecDepth 100000 in
theorem law_nights {p : Program} {e : Env} {s : State} {m : MethodId} {below : List Frame} {meth : Method} {c : Code} (l : Launch) {b L : Nat} {xs : Nat → Int32} {D : va_G} {K : Nat → ClassId} {A : Nat → Prop} {ad : Nat → Nat} {z : TS} {v : Int32} (hL : L ≤ 3072) (E : mE p s m meth c code #[Value.ref b] 4 RL D K A) (hX : va_X b L xs s s.heap) (hbl : b < s.heap.size) (hbA : ¬ A b) (j : JJ z) (h0 : 0 ≤ v.toInt) (h6 : v.toInt + 6 ≤ (L : Int)) (KK : ∀ (z : TS) (H : Heap) (locs : List Loc) (ls : Array Slot), mG D A s H locs (wd K ad z) → JJ z → lv_has ls 4 [(3, .int v), (2, .ref (ad 386)), (1, .ref (ad 0)), (0, .ref b)] → W p l e room_1 s m #[Value.ref b] below meth c H locs 600000 7302250 (lw_Z below #[Value.ref b] s) (F0 m 1250 ls [])) {H : Heap} {locs : List Loc} {ls : Array Slot} (G : mG D A s H locs (wd K ad z)) (hl : lv_has ls 4 [(3, .int v), (2, .ref (ad 386)), (1, .ref (ad 0)), (0, .ref b)]) : W p l e room_1 s m #[Value.ref b] below meth c H locs 600000 7302250 (lw_Z below #[Value.ref b] s) (F0 m 1128 ls []) := by
  refine lv_aload_n E.1 E.2.1 dL_law_1128 rfl (lv_at hl 2 rfl) ?_
  refine lv_aload_n E.1 E.2.1 dL_law_1129 rfl (lv_at hl 3 rfl) ?_
  refine lv_iload_n E.1 E.2.1 dL_law_1130 rfl (lv_at hl 0 rfl) ?_
  refine lv_iconst (v := 1) E.1 E.2.1 dL_law_1131 (by decide) ?_
  refine lv_iadd E.1 E.2.1 dL_law_1132 ?_
  refine va_sld E.1 E.2.1 hX hbl hbA G.2.2 (law_in h0 h6 hL 1 (iv_lit 1 (by decide) (by decide))) dL_law_1133 ?_
  refine lv_topi (fun x1 ex1 => ?_)
  refine lv_aload_n E.1 E.2.1 dL_law_1134 rfl (lv_at hl 3 rfl) ?_
  refine lv_iload_n E.1 E.2.1 dL_law_1135 rfl (lv_at hl 0 rfl) ?_
  refine lv_iconst (v := 2) E.1 E.2.1 dL_law_1136 (by decide) ?_
  refine lv_iadd E.1 E.2.1 dL_law_1137 ?_
  refine va_sld E.1 E.2.1 hX hbl hbA G.2.2 (law_in h0 h6 hL 2 (iv_lit 2 (by decide) (by decide))) dL_law_1138 ?_
  refine lv_topi (fun x2 ex2 => ?_)
  refine lv_aload_n E.1 E.2.1 dL_law_1139 rfl (lv_at hl 3 rfl) ?_
  refine lv_iload_n E.1 E.2.1 dL_law_1140 rfl (lv_at hl 0 rfl) ?_
  refine lv_iconst (v := 3) E.1 E.2.1 dL_law_1141 (by decide) ?_
  refine lv_iadd E.1 E.2.1 dL_law_1142 ?_
  refine va_sld E.1 E.2.1 hX hbl hbA G.2.2 (law_in h0 h6 hL 3 (iv_lit 3 (by decide) (by decide))) dL_law_1143 ?_
  refine lv_topi (fun x3 ex3 => ?_)
  refine lv_aload_n E.1 E.2.1 dL_law_1144 rfl (lv_at hl 3 rfl) ?_
  refine lv_iload_n E.1 E.2.1 dL_law_1145 rfl (lv_at hl 0 rfl) ?_
  refine lv_iconst (v := 4) E.1 E.2.1 dL_law_1146 (by decide) ?_
  refine lv_iadd E.1 E.2.1 dL_law_1147 ?_
  refine va_sld E.1 E.2.1 hX hbl hbA G.2.2 (law_in h0 h6 hL 4 (iv_lit 4 (by decide) (by decide))) dL_law_1148 ?_
  refine lv_topi (fun x4 ex4 => ?_)
  refine l_vi E G hl (k_nights l D K ad z j.1 x1 x2 x3 x4) 10 (rfl : ro 0 = 10) (by decide) rfl rfl 4 rfl mw_code_X10_nights mw_ini_10 mw_ml_L_147 mw_inst_X10_nights mw_sel_X10_nights hd_X10_nights ⟨by decide, by decide⟩ rfl rfl ⟨by decide, by decide⟩ rfl (Nat.le_of_ble_eq_true rfl) dL_law_1149 (fun ra ua H locs hpa G => ?_)
  refine lv_pop E.1 E.2.1 dL_law_1152 rfl ?_
  have ja : JJ ua := JJ.c j hpa.1 hpa.2
  refine lv_aload_n E.1 E.2.1 dL_law_1153 rfl (lv_at hl 1 rfl) ?_
  refine lv_aload_n E.1 E.2.1 dL_law_1154 rfl (lv_at hl 3 rfl) ?_
  refine lv_iload_n E.1 E.2.1 dL_law_1155 rfl (lv_at hl 0 rfl) ?_
  refine lv_iconst (v := 1) E.1 E.2.1 dL_law_1156 (by decide) ?_
  refine lv_iadd E.1 E.2.1 dL_law_1157 ?_
  refine va_sld E.1 E.2.1 hX hbl hbA G.2.2 (law_in h0 h6 hL 1 (iv_lit 1 (by decide) (by decide))) dL_law_1158 ?_
  refine m_ci x1 ex1.symm ?_
  refine lv_aload_n E.1 E.2.1 dL_law_1159 rfl (lv_at hl 3 rfl) ?_
  refine lv_iload_n E.1 E.2.1 dL_law_1160 rfl (lv_at hl 0 rfl) ?_
  refine lv_iconst (v := 2) E.1 E.2.1 dL_law_1161 (by decide) ?_
  refine lv_iadd E.1 E.2.1 dL_law_1162 ?_
  refine va_sld E.1 E.2.1 hX hbl hbA G.2.2 (law_in h0 h6 hL 2 (iv_lit 2 (by decide) (by decide))) dL_law_1163 ?_
  refine m_ci x2 ex2.symm ?_
  refine lv_aload_n E.1 E.2.1 dL_law_1164 rfl (lv_at hl 3 rfl) ?_
  refine lv_iload_n E.1 E.2.1 dL_law_1165 rfl (lv_at hl 0 rfl) ?_
  refine lv_iconst (v := 3) E.1 E.2.1 dL_law_1166 (by decide) ?_
  refine lv_iadd E.1 E.2.1 dL_law_1167 ?_
  refine va_sld E.1 E.2.1 hX hbl hbA G.2.2 (law_in h0 h6 hL 3 (iv_lit 3 (by decide) (by decide))) dL_law_1168 ?_
  refine m_ci x3 ex3.symm ?_
  refine lv_aload_n E.1 E.2.1 dL_law_1169 rfl (lv_at hl 3 rfl) ?_
  refine lv_iload_n E.1 E.2.1 dL_law_1170 rfl (lv_at hl 0 rfl) ?_
  refine lv_iconst (v := 4) E.1 E.2.1 dL_law_1171 (by decide) ?_
  refine lv_iadd E.1 E.2.1 dL_law_1172 ?_
  refine va_sld E.1 E.2.1 hX hbl hbA G.2.2 (law_in h0 h6 hL 4 (iv_lit 4 (by decide) (by decide))) dL_law_1173 ?_
  refine m_ci x4 ex4.symm ?_
  refine l_vi E G hl (v_nights l D K ad ua ja.1 x1 x2 x3 x4 ja.2.1) 11 (rfl : ro 386 = 11) (by decide) rfl rfl 4 rfl mw_code_X11_nights mw_ini_11 mw_ml_L_150 mw_inst_X11_nights mw_sel_X11_nights hd_X11_nights ⟨by decide, by decide⟩ rfl rfl ⟨by decide, by decide⟩ rfl (Nat.le_of_ble_eq_true rfl) dL_law_1174 (fun rb ub H locs hpb G => ?_)
  have jb : JJ ub := JJ.r ja hpb.1 (KD.r hpb.2) (wf_ka ja.2.1 hpb.2.2.1 rfl rfl rfl rfl)
  refine lv_pop E.1 E.2.1 dL_law_1177 rfl ?_
  refine lv_goto (tgt := 1250) E.1 E.2.1 dL_law_1178 (by decide) ?_
  exact KK _ _ _ _ G jb hl
set_option maxHeartbeats 4000000 in
set_option maxRecDepth 100000 in
theorem law_count {p : Program} {e : Env} {s : State} {m : MethodId} {below : List Frame} {meth : Method} {c : Code} (l : Launch) {b L : Nat} {xs : Nat → Int32} {D : va_G} {K : Nat → ClassId} {A : Nat → Prop} {ad : Nat → Nat} {z : TS} {v : Int32} (hL : L ≤ 3072) (E : mE p s m meth c code #[Value.ref b] 4 RL D K A) (hX : va_X b L xs s s.heap) (hbl : b < s.heap.size) (hbA : ¬ A b) (j : JJ z) (h0 : 0 ≤ v.toInt) (h6 : v.toInt + 6 ≤ (L : Int)) (KK : ∀ (z : TS) (H : Heap) (locs : List Loc) (ls : Array Slot), mG D A s H locs (wd K ad z) → JJ z → lv_has ls 4 [(3, .int v), (2, .ref (ad 386)), (1, .ref (ad 0)), (0, .ref b)] → W p l e room_1 s m #[Value.ref b] below meth c H locs 600000 7302250 (lw_Z below #[Value.ref b] s) (F0 m 1250 ls [])) {H : Heap} {locs : List Loc} {ls : Array Slot} (G : mG D A s H locs (wd K ad z)) (hl : lv_has ls 4 [(3, .int v), (2, .ref (ad 386)), (1, .ref (ad 0)), (0, .ref b)]) : W p l e room_1 s m #[Value.ref b] below meth c H locs 600000 7302250 (lw_Z below #[Value.ref b] s) (F0 m 1181 ls []) := by
  refine lv_aload_n E.1 E.2.1 dL_law_1181 rfl (lv_at hl 2 rfl) ?_
  refine lv_aload_n E.1 E.2.1 dL_law_1182 rfl (lv_at hl 3 rfl) ?_
  refine lv_iload_n E.1 E.2.1 dL_law_1183 rfl (lv_at hl 0 rfl) ?_
  refine lv_iconst (v := 1) E.1 E.2.1 dL_law_1184 (by decide) ?_
  refine lv_iadd E.1 E.2.1 dL_law_1185 ?_
  refine va_sld E.1 E.2.1 hX hbl hbA G.2.2 (law_in h0 h6 hL 1 (iv_lit 1 (by decide) (by decide))) dL_law_1186 ?_
  refine lv_topi (fun x1 ex1 => ?_)
  refine l_vi E G hl (k_count l D K ad z j.1 x1) 10 (rfl : ro 0 = 10) (by decide) rfl rfl 1 rfl mw_code_X10_count mw_ini_10 mw_ml_L_151 mw_inst_X10_count mw_sel_X10_count hd_X10_count ⟨by decide, by decide⟩ rfl rfl ⟨by decide, by decide⟩ rfl (Nat.le_of_ble_eq_true rfl) dL_law_1187 (fun ra ua H locs hpa G => ?_)
  refine lv_pop E.1 E.2.1 dL_law_1190 rfl ?_
  rw [hpa] at G
  refine lv_aload_n E.1 E.2.1 dL_law_1191 rfl (lv_at hl 1 rfl) ?_
  refine lv_aload_n E.1 E.2.1 dL_law_1192 rfl (lv_at hl 3 rfl) ?_
  refine lv_iload_n E.1 E.2.1 dL_law_1193 rfl (lv_at hl 0 rfl) ?_
  refine lv_iconst (v := 1) E.1 E.2.1 dL_law_1194 (by decide) ?_
  refine lv_iadd E.1 E.2.1 dL_law_1195 ?_
  refine va_sld E.1 E.2.1 hX hbl hbA G.2.2 (law_in h0 h6 hL 1 (iv_lit 1 (by decide) (by decide))) dL_law_1196 ?_
  refine m_ci x1 ex1.symm ?_
  refine l_vi E G hl (v_count l D K ad z j.1 x1) 11 (rfl : ro 386 = 11) (by decide) rfl rfl 1 rfl mw_code_X11_count mw_ini_11 mw_ml_L_154 mw_inst_X11_count mw_sel_X11_count hd_X11_count ⟨by decide, by decide⟩ rfl rfl ⟨by decide, by decide⟩ rfl (Nat.le_of_ble_eq_true rfl) dL_law_1197 (fun rb ub H locs hpb G => ?_)
  rw [hpb] at G
  refine lv_pop E.1 E.2.1 dL_law_1200 rfl ?_
  refine lv_goto (tgt := 1250) E.1 E.2.1 dL_law_1201 (by decide) ?_
  exact KK _ _ _ _ G j hl
set_option maxHeartbeats 4000000 in
set_option maxRecDepth 100000 in
theorem law_image {p : Program} {e : Env} {s : State} {m : MethodId} {below : List Frame} {meth : Method} {c : Code} (l : Launch) {b L : Nat} {xs : Nat → Int32} {D : va_G} {K : Nat → ClassId} {A : Nat → Prop} {ad : Nat → Nat} {z : TS} {v : Int32} (hL : L ≤ 3072) (E : mE p s m meth c code #[Value.ref b] 4 RL D K A) (hX : va_X b L xs s s.heap) (hbl : b < s.heap.size) (hbA : ¬ A b) (j : JJ z) (h0 : 0 ≤ v.toInt) (h6 : v.toInt + 6 ≤ (L : Int)) (KK : ∀ (z : TS) (H : Heap) (locs : List Loc) (ls : Array Slot), mG D A s H locs (wd K ad z) → JJ z → lv_has ls 4 [(3, .int v), (2, .ref (ad 386)), (1, .ref (ad 0)), (0, .ref b)] → W p l e room_1 s m #[Value.ref b] below meth c H locs 600000 7302250 (lw_Z below #[Value.ref b] s) (F0 m 1250 ls [])) {H : Heap} {locs : List Loc} {ls : Array Slot} (G : mG D A s H locs (wd K ad z)) (hl : lv_has ls 4 [(3, .int v), (2, .ref (ad 386)), (1, .ref (ad 0)), (0, .ref b)]) : W p l e room_1 s m #[Value.ref b] below meth c H locs 600000 7302250 (lw_Z below #[Value.ref b] s) (F0 m 1204 ls []) := by
  refine lv_aload_n E.1 E.2.1 dL_law_1204 rfl (lv_at hl 2 rfl) ?_
  refine lv_aload_n E.1 E.2.1 dL_law_1205 rfl (lv_at hl 3 rfl) ?_
  refine lv_iload_n E.1 E.2.1 dL_law_1206 rfl (lv_at hl 0 rfl) ?_
  refine lv_iconst (v := 1) E.1 E.2.1 dL_law_1207 (by decide) ?_
  refine lv_iadd E.1 E.2.1 dL_law_1208 ?_
  refine va_sld E.1 E.2.1 hX hbl hbA G.2.2 (law_in h0 h6 hL 1 (iv_lit 1 (by decide) (by decide))) dL_law_1209 ?_
  refine lv_topi (fun x1 ex1 => ?_)
  rcases Int.lt_or_le x1.toInt 0 with hx | hx
  · have bx : iv (-2147483648) (-1) x1 := ⟨(iv_full _).1, by omega⟩
    refine l_vi E G hl (k_image_lo l D K ad z j.1 x1 bx) 10 (rfl : ro 0 = 10) (by decide) rfl rfl 1 rfl mw_code_X10_image mw_ini_10 mw_ml_L_155 mw_inst_X10_image mw_sel_X10_image hd_X10_image ⟨by decide, by decide⟩ rfl rfl ⟨by decide, by decide⟩ rfl (Nat.le_of_ble_eq_true rfl) dL_law_1210 (fun ra ua H locs hpa G => ?_)
    refine lv_pop E.1 E.2.1 dL_law_1213 rfl ?_
    rw [hpa] at G
    refine lv_aload_n E.1 E.2.1 dL_law_1214 rfl (lv_at hl 1 rfl) ?_
    refine lv_aload_n E.1 E.2.1 dL_law_1215 rfl (lv_at hl 3 rfl) ?_
    refine lv_iload_n E.1 E.2.1 dL_law_1216 rfl (lv_at hl 0 rfl) ?_
    refine lv_iconst (v := 1) E.1 E.2.1 dL_law_1217 (by decide) ?_
    refine lv_iadd E.1 E.2.1 dL_law_1218 ?_
    refine va_sld E.1 E.2.1 hX hbl hbA G.2.2 (law_in h0 h6 hL 1 (iv_lit 1 (by decide) (by decide))) dL_law_1219 ?_
    refine m_ci x1 ex1.symm ?_
    refine l_vi E G hl (v_image_lo l D K ad z j.1 x1 bx) 11 (rfl : ro 386 = 11) (by decide) rfl rfl 1 rfl mw_code_X11_image mw_ini_11 mw_ml_L_158 mw_inst_X11_image mw_sel_X11_image hd_X11_image ⟨by decide, by decide⟩ rfl rfl ⟨by decide, by decide⟩ rfl (Nat.le_of_ble_eq_true rfl) dL_law_1220 (fun rb ub H locs hpb G => ?_)
    rw [hpb] at G
    refine lv_pop E.1 E.2.1 dL_law_1223 rfl ?_
    refine lv_goto (tgt := 1250) E.1 E.2.1 dL_law_1224 (by decide) ?_
    exact KK _ _ _ _ G j hl
  rcases Int.lt_or_le 3 x1.toInt with hx2 | hx2
  · have bx : iv 4 2147483647 x1 := ⟨by omega, (iv_full _).2⟩
    refine l_vi E G hl (k_image_hi l D K ad z j.1 x1 bx) 10 (rfl : ro 0 = 10) (by decide) rfl rfl 1 rfl mw_code_X10_image mw_ini_10 mw_ml_L_155 mw_inst_X10_image mw_sel_X10_image hd_X10_image ⟨by decide, by decide⟩ rfl rfl ⟨by decide, by decide⟩ rfl (Nat.le_of_ble_eq_true rfl) dL_law_1210 (fun ra ua H locs hpa G => ?_)
    refine lv_pop E.1 E.2.1 dL_law_1213 rfl ?_
    rw [hpa] at G
    refine lv_aload_n E.1 E.2.1 dL_law_1214 rfl (lv_at hl 1 rfl) ?_
    refine lv_aload_n E.1 E.2.1 dL_law_1215 rfl (lv_at hl 3 rfl) ?_
    refine lv_iload_n E.1 E.2.1 dL_law_1216 rfl (lv_at hl 0 rfl) ?_
    refine lv_iconst (v := 1) E.1 E.2.1 dL_law_1217 (by decide) ?_
    refine lv_iadd E.1 E.2.1 dL_law_1218 ?_
    refine va_sld E.1 E.2.1 hX hbl hbA G.2.2 (law_in h0 h6 hL 1 (iv_lit 1 (by decide) (by decide))) dL_law_1219 ?_
    refine m_ci x1 ex1.symm ?_
    refine l_vi E G hl (v_image_hi l D K ad z j.1 x1 bx) 11 (rfl : ro 386 = 11) (by decide) rfl rfl 1 rfl mw_code_X11_image mw_ini_11 mw_ml_L_158 mw_inst_X11_image mw_sel_X11_image hd_X11_image ⟨by decide, by decide⟩ rfl rfl ⟨by decide, by decide⟩ rfl (Nat.le_of_ble_eq_true rfl) dL_law_1220 (fun rb ub H locs hpb G => ?_)
    rw [hpb] at G
    refine lv_pop E.1 E.2.1 dL_law_1223 rfl ?_
    refine lv_goto (tgt := 1250) E.1 E.2.1 dL_law_1224 (by decide) ?_
    exact KK _ _ _ _ G j hl
  have bx : iv 0 3 x1 := ⟨hx, hx2⟩
  refine l_vi E G hl (k_image l D K ad z j.1 x1 bx) 10 (rfl : ro 0 = 10) (by decide) rfl rfl 1 rfl mw_code_X10_image mw_ini_10 mw_ml_L_155 mw_inst_X10_image mw_sel_X10_image hd_X10_image ⟨by decide, by decide⟩ rfl rfl ⟨by decide, by decide⟩ rfl (Nat.le_of_ble_eq_true rfl) dL_law_1210 (fun ra ua H locs hpa G => ?_)
  refine lv_pop E.1 E.2.1 dL_law_1213 rfl ?_
  refine lv_aload_n E.1 E.2.1 dL_law_1214 rfl (lv_at hl 1 rfl) ?_
  refine lv_aload_n E.1 E.2.1 dL_law_1215 rfl (lv_at hl 3 rfl) ?_
  refine lv_iload_n E.1 E.2.1 dL_law_1216 rfl (lv_at hl 0 rfl) ?_
  refine lv_iconst (v := 1) E.1 E.2.1 dL_law_1217 (by decide) ?_
  refine lv_iadd E.1 E.2.1 dL_law_1218 ?_
  refine va_sld E.1 E.2.1 hX hbl hbA G.2.2 (law_in h0 h6 hL 1 (iv_lit 1 (by decide) (by decide))) dL_law_1219 ?_
  refine m_ci x1 ex1.symm ?_
  refine l_vi E G hl (v_image l D K ad ua hpa.1 x1 bx) 11 (rfl : ro 386 = 11) (by decide) rfl rfl 1 rfl mw_code_X11_image mw_ini_11 mw_ml_L_158 mw_inst_X11_image mw_sel_X11_image hd_X11_image ⟨by decide, by decide⟩ rfl rfl ⟨by decide, by decide⟩ rfl (Nat.le_of_ble_eq_true rfl) dL_law_1220 (fun rb ub H locs hpb G => ?_)
  have jb : JJ ub := JJ.image bx j hpa.2 hpb.1 hpb.2.1 hpb.2.2.2.1 hpb.2.2.2.2
  refine lv_pop E.1 E.2.1 dL_law_1223 rfl ?_
  refine lv_goto (tgt := 1250) E.1 E.2.1 dL_law_1224 (by decide) ?_
  exact KK _ _ _ _ G jb hl
set_option maxHeartbeats 4000000 in
set_option maxRecDepth 100000 in
theorem law_back {p : Program} {e : Env} {s : State} {m : MethodId} {below : List Frame} {meth : Method} {c : Code} (l : Launch) {b L : Nat} {xs : Nat → Int32} {D : va_G} {K : Nat → ClassId} {A : Nat → Prop} {ad : Nat → Nat} {z : TS} {v : Int32} (hL : L ≤ 3072) (E : mE p s m meth c code #[Value.ref b] 4 RL D K A) (hX : va_X b L xs s s.heap) (hbl : b < s.heap.size) (hbA : ¬ A b) (j : JJ z) (h0 : 0 ≤ v.toInt) (h6 : v.toInt + 6 ≤ (L : Int)) (KK : ∀ (z : TS) (H : Heap) (locs : List Loc) (ls : Array Slot), mG D A s H locs (wd K ad z) → JJ z → lv_has ls 4 [(3, .int v), (2, .ref (ad 386)), (1, .ref (ad 0)), (0, .ref b)] → W p l e room_1 s m #[Value.ref b] below meth c H locs 600000 7302250 (lw_Z below #[Value.ref b] s) (F0 m 1250 ls [])) {H : Heap} {locs : List Loc} {ls : Array Slot} (G : mG D A s H locs (wd K ad z)) (hl : lv_has ls 4 [(3, .int v), (2, .ref (ad 386)), (1, .ref (ad 0)), (0, .ref b)]) : W p l e room_1 s m #[Value.ref b] below meth c H locs 600000 7302250 (lw_Z below #[Value.ref b] s) (F0 m 1227 ls []) := by
  refine lv_aload_n E.1 E.2.1 dL_law_1227 rfl (lv_at hl 2 rfl) ?_
  refine lv_aload_n E.1 E.2.1 dL_law_1228 rfl (lv_at hl 3 rfl) ?_
  refine lv_iload_n E.1 E.2.1 dL_law_1229 rfl (lv_at hl 0 rfl) ?_
  refine lv_iconst (v := 1) E.1 E.2.1 dL_law_1230 (by decide) ?_
  refine lv_iadd E.1 E.2.1 dL_law_1231 ?_
  refine va_sld E.1 E.2.1 hX hbl hbA G.2.2 (law_in h0 h6 hL 1 (iv_lit 1 (by decide) (by decide))) dL_law_1232 ?_
  refine lv_topi (fun x1 ex1 => ?_)
  rcases Int.lt_or_le x1.toInt 0 with hx | hx
  · have bx : iv (-2147483648) (-1) x1 := ⟨(iv_full _).1, by omega⟩
    refine l_vi E G hl (k_back_lo l D K ad z j.1 x1 bx) 10 (rfl : ro 0 = 10) (by decide) rfl rfl 1 rfl mw_code_X10_back mw_ini_10 mw_ml_L_159 mw_inst_X10_back mw_sel_X10_back hd_X10_back ⟨by decide, by decide⟩ rfl rfl ⟨by decide, by decide⟩ rfl (Nat.le_of_ble_eq_true rfl) dL_law_1233 (fun ra ua H locs hpa G => ?_)
    refine lv_pop E.1 E.2.1 dL_law_1236 rfl ?_
    rw [hpa] at G
    refine lv_aload_n E.1 E.2.1 dL_law_1237 rfl (lv_at hl 1 rfl) ?_
    refine lv_aload_n E.1 E.2.1 dL_law_1238 rfl (lv_at hl 3 rfl) ?_
    refine lv_iload_n E.1 E.2.1 dL_law_1239 rfl (lv_at hl 0 rfl) ?_
    refine lv_iconst (v := 1) E.1 E.2.1 dL_law_1240 (by decide) ?_
    refine lv_iadd E.1 E.2.1 dL_law_1241 ?_
    refine va_sld E.1 E.2.1 hX hbl hbA G.2.2 (law_in h0 h6 hL 1 (iv_lit 1 (by decide) (by decide))) dL_law_1242 ?_
    refine m_ci x1 ex1.symm ?_
    refine l_vi E G hl (v_back_lo l D K ad z j.1 x1 bx) 11 (rfl : ro 386 = 11) (by decide) rfl rfl 1 rfl mw_code_X11_back mw_ini_11 mw_ml_L_162 mw_inst_X11_back mw_sel_X11_back hd_X11_back ⟨by decide, by decide⟩ rfl rfl ⟨by decide, by decide⟩ rfl (Nat.le_of_ble_eq_true rfl) dL_law_1243 (fun rb ub H locs hpb G => ?_)
    rw [hpb] at G
    refine lv_pop E.1 E.2.1 dL_law_1246 rfl ?_
    refine lv_goto (tgt := 1250) E.1 E.2.1 dL_law_1247 (by decide) ?_
    exact KK _ _ _ _ G j hl
  rcases Int.lt_or_le 3 x1.toInt with hx2 | hx2
  · have bx : iv 4 2147483647 x1 := ⟨by omega, (iv_full _).2⟩
    refine l_vi E G hl (k_back_hi l D K ad z j.1 x1 bx) 10 (rfl : ro 0 = 10) (by decide) rfl rfl 1 rfl mw_code_X10_back mw_ini_10 mw_ml_L_159 mw_inst_X10_back mw_sel_X10_back hd_X10_back ⟨by decide, by decide⟩ rfl rfl ⟨by decide, by decide⟩ rfl (Nat.le_of_ble_eq_true rfl) dL_law_1233 (fun ra ua H locs hpa G => ?_)
    refine lv_pop E.1 E.2.1 dL_law_1236 rfl ?_
    rw [hpa] at G
    refine lv_aload_n E.1 E.2.1 dL_law_1237 rfl (lv_at hl 1 rfl) ?_
    refine lv_aload_n E.1 E.2.1 dL_law_1238 rfl (lv_at hl 3 rfl) ?_
    refine lv_iload_n E.1 E.2.1 dL_law_1239 rfl (lv_at hl 0 rfl) ?_
    refine lv_iconst (v := 1) E.1 E.2.1 dL_law_1240 (by decide) ?_
    refine lv_iadd E.1 E.2.1 dL_law_1241 ?_
    refine va_sld E.1 E.2.1 hX hbl hbA G.2.2 (law_in h0 h6 hL 1 (iv_lit 1 (by decide) (by decide))) dL_law_1242 ?_
    refine m_ci x1 ex1.symm ?_
    refine l_vi E G hl (v_back_hi l D K ad z j.1 x1 bx) 11 (rfl : ro 386 = 11) (by decide) rfl rfl 1 rfl mw_code_X11_back mw_ini_11 mw_ml_L_162 mw_inst_X11_back mw_sel_X11_back hd_X11_back ⟨by decide, by decide⟩ rfl rfl ⟨by decide, by decide⟩ rfl (Nat.le_of_ble_eq_true rfl) dL_law_1243 (fun rb ub H locs hpb G => ?_)
    rw [hpb] at G
    refine lv_pop E.1 E.2.1 dL_law_1246 rfl ?_
    refine lv_goto (tgt := 1250) E.1 E.2.1 dL_law_1247 (by decide) ?_
    exact KK _ _ _ _ G j hl
  have bx : iv 0 3 x1 := ⟨hx, hx2⟩
  by_cases hb : ((tI z 0 9 >>> (x1 &&& 31)) &&& 1) = 0
  · have hm := ((j.2.2.2 x1 bx).1).mp hb
    refine l_vi E G hl (k_back_no l D K ad z j.1 x1 bx hb) 10 (rfl : ro 0 = 10) (by decide) rfl rfl 1 rfl mw_code_X10_back mw_ini_10 mw_ml_L_159 mw_inst_X10_back mw_sel_X10_back hd_X10_back ⟨by decide, by decide⟩ rfl rfl ⟨by decide, by decide⟩ rfl (Nat.le_of_ble_eq_true rfl) dL_law_1233 (fun ra ua H locs hpa G => ?_)
    refine lv_pop E.1 E.2.1 dL_law_1236 rfl ?_
    rw [hpa] at G
    refine lv_aload_n E.1 E.2.1 dL_law_1237 rfl (lv_at hl 1 rfl) ?_
    refine lv_aload_n E.1 E.2.1 dL_law_1238 rfl (lv_at hl 3 rfl) ?_
    refine lv_iload_n E.1 E.2.1 dL_law_1239 rfl (lv_at hl 0 rfl) ?_
    refine lv_iconst (v := 1) E.1 E.2.1 dL_law_1240 (by decide) ?_
    refine lv_iadd E.1 E.2.1 dL_law_1241 ?_
    refine va_sld E.1 E.2.1 hX hbl hbA G.2.2 (law_in h0 h6 hL 1 (iv_lit 1 (by decide) (by decide))) dL_law_1242 ?_
    refine m_ci x1 ex1.symm ?_
    refine l_vi E G hl (v_back_no l D K ad z j.1 x1 bx hm) 11 (rfl : ro 386 = 11) (by decide) rfl rfl 1 rfl mw_code_X11_back mw_ini_11 mw_ml_L_162 mw_inst_X11_back mw_sel_X11_back hd_X11_back ⟨by decide, by decide⟩ rfl rfl ⟨by decide, by decide⟩ rfl (Nat.le_of_ble_eq_true rfl) dL_law_1243 (fun rb ub H locs hpb G => ?_)
    rw [hpb] at G
    refine lv_pop E.1 E.2.1 dL_law_1246 rfl ?_
    refine lv_goto (tgt := 1250) E.1 E.2.1 dL_law_1247 (by decide) ?_
    exact KK _ _ _ _ G j hl
  have hm : ¬ tA z 408 x1.toNatClampNeg = 0 := fun q => hb (((j.2.2.2 x1 bx).1).mpr q)
  refine l_vi E G hl (k_back l D K ad z j.1 x1 bx hb) 10 (rfl : ro 0 = 10) (by decide) rfl rfl 1 rfl mw_code_X10_back mw_ini_10 mw_ml_L_159 mw_inst_X10_back mw_sel_X10_back hd_X10_back ⟨by decide, by decide⟩ rfl rfl ⟨by decide, by decide⟩ rfl (Nat.le_of_ble_eq_true rfl) dL_law_1233 (fun ra ua H locs hpa G => ?_)
  refine lv_pop E.1 E.2.1 dL_law_1236 rfl ?_
  have hm2 : ¬ tA ua 408 x1.toNatClampNeg = 0 := by rw [(hpa.2.2.1 408 rfl).1]; exact hm
  refine lv_aload_n E.1 E.2.1 dL_law_1237 rfl (lv_at hl 1 rfl) ?_
  refine lv_aload_n E.1 E.2.1 dL_law_1238 rfl (lv_at hl 3 rfl) ?_
  refine lv_iload_n E.1 E.2.1 dL_law_1239 rfl (lv_at hl 0 rfl) ?_
  refine lv_iconst (v := 1) E.1 E.2.1 dL_law_1240 (by decide) ?_
  refine lv_iadd E.1 E.2.1 dL_law_1241 ?_
  refine va_sld E.1 E.2.1 hX hbl hbA G.2.2 (law_in h0 h6 hL 1 (iv_lit 1 (by decide) (by decide))) dL_law_1242 ?_
  refine m_ci x1 ex1.symm ?_
  refine l_vi E G hl (v_back l D K ad ua hpa.1 x1 bx hm2) 11 (rfl : ro 386 = 11) (by decide) rfl rfl 1 rfl mw_code_X11_back mw_ini_11 mw_ml_L_162 mw_inst_X11_back mw_sel_X11_back hd_X11_back ⟨by decide, by decide⟩ rfl rfl ⟨by decide, by decide⟩ rfl (Nat.le_of_ble_eq_true rfl) dL_law_1243 (fun rb ub H locs hpb G => ?_)
  have jb : JJ ub := JJ.back bx hm j hpa.2 hpb.1 hpb.2.1 hpb.2.2
  refine lv_pop E.1 E.2.1 dL_law_1246 rfl ?_
  refine lv_goto (tgt := 1250) E.1 E.2.1 dL_law_1247 (by decide) ?_
  exact KK _ _ _ _ G jb hl
