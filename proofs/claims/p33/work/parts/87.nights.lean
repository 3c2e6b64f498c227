theorem mw_cL_11_461 : (Cond.constantLong RX11 461 (10) : Cond) ∈ cw := cw_of (List.mem_append_right _ (List.mem_append_right _ (List.mem_append_right _ (List.mem_append_right _ (List.mem_append_right _ (List.mem_append_right _ (List.mem_append_right _ (List.mem_append_left _ (List.mem_of_getElem? (i := 229) (by decide +kernel)))))))))) (by decide +kernel)
theorem mw_code_X11_draw : (Cond.code yX11_draw cX11_draw 2 (some .int) : Cond) ∈ cw := cw_of (List.mem_append_right _ (List.mem_append_right _ (List.mem_append_right _ (List.mem_append_right _ (List.mem_append_right _ (List.mem_append_right _ (List.mem_append_right _ (List.mem_append_left _ (List.mem_of_getElem? (i := 233) rfl))))))))) (by decide +kernel)
theorem mw_inst_X11_draw : (Cond.instanceMethod yX11_draw : Cond) ∈ cw := cw_of (List.mem_append_right _ (List.mem_append_right _ (List.mem_append_right _ (List.mem_append_right _ (List.mem_append_right _ (List.mem_append_right _ (List.mem_append_right _ (List.mem_append_left _ (List.mem_of_getElem? (i := 232) (by decide +kernel)))))))))) (by decide +kernel)
theorem mw_ml_11_463 : (Cond.methodLink RX11 463 yX11_draw : Cond) ∈ cw := cw_of (List.mem_append_right _ (List.mem_append_right _ (List.mem_append_right _ (List.mem_append_right _ (List.mem_append_right _ (List.mem_append_right _ (List.mem_append_right _ (List.mem_append_left _ (List.mem_of_getElem? (i := 230) (by decide +kernel)))))))))) (by decide +kernel)
theorem mw_sel_X11_draw : (Cond.selects RX11 yX11_draw yX11_draw : Cond) ∈ cw := cw_of (List.mem_append_left _ (List.mem_of_getElem? (i := 124) (by decide +kernel))) (by decide +kernel)
theorem dX11_nights_0 : decode cX11_nights 0 = .ok (.aload_n 0, 1) := by decide +kernel
theorem dX11_nights_1 : decode cX11_nights 1 = .ok (.invokevirtual 359, 3) := by decide +kernel
theorem dX11_nights_4 : decode cX11_nights 4 = .ok (.ifCond .eq 50, 3) := by decide +kernel
theorem dX11_nights_7 : decode cX11_nights 7 = .ok (.iload_n 1, 1) := by decide +kernel
theorem dX11_nights_8 : decode cX11_nights 8 = .ok (.i2l, 1) := by decide +kernel
theorem dX11_nights_9 : decode cX11_nights 9 = .ok (.lconst 1, 1) := by decide +kernel
theorem dX11_nights_10 : decode cX11_nights 10 = .ok (.ldc2_w 461, 3) := by decide +kernel
theorem dX11_nights_13 : decode cX11_nights 13 = .ok (.invokestatic 121, 3) := by decide +kernel
theorem dX11_nights_16 : decode cX11_nights 16 = .ok (.ifCond .eq 38, 3) := by decide +kernel
theorem dX11_nights_19 : decode cX11_nights 19 = .ok (.iload_n 2, 1) := by decide +kernel
theorem dX11_nights_20 : decode cX11_nights 20 = .ok (.i2l, 1) := by decide +kernel
theorem dX11_nights_21 : decode cX11_nights 21 = .ok (.lconst 1, 1) := by decide +kernel
theorem dX11_nights_22 : decode cX11_nights 22 = .ok (.ldc2_w 429, 3) := by decide +kernel
theorem dX11_nights_25 : decode cX11_nights 25 = .ok (.invokestatic 121, 3) := by decide +kernel
theorem dX11_nights_28 : decode cX11_nights 28 = .ok (.ifCond .eq 26, 3) := by decide +kernel
theorem dX11_nights_31 : decode cX11_nights 31 = .ok (.iload_n 3, 1) := by decide +kernel
theorem dX11_nights_32 : decode cX11_nights 32 = .ok (.i2l, 1) := by decide +kernel
theorem dX11_nights_33 : decode cX11_nights 33 = .ok (.lconst 0, 1) := by decide +kernel
theorem dX11_nights_34 : decode cX11_nights 34 = .ok (.ldc2_w 369, 3) := by decide +kernel
theorem dX11_nights_37 : decode cX11_nights 37 = .ok (.invokestatic 121, 3) := by decide +kernel
theorem dX11_nights_40 : decode cX11_nights 40 = .ok (.ifCond .eq 14, 3) := by decide +kernel
theorem dX11_nights_43 : decode cX11_nights 43 = .ok (.iload 4, 2) := by decide +kernel
theorem dX11_nights_45 : decode cX11_nights 45 = .ok (.i2l, 1) := by decide +kernel
theorem dX11_nights_46 : decode cX11_nights 46 = .ok (.lconst 0, 1) := by decide +kernel
theorem dX11_nights_47 : decode cX11_nights 47 = .ok (.lconst 1, 1) := by decide +kernel
theorem dX11_nights_48 : decode cX11_nights 48 = .ok (.invokestatic 121, 3) := by decide +kernel
theorem dX11_nights_51 : decode cX11_nights 51 = .ok (.ifCond .ne 5, 3) := by decide +kernel
theorem dX11_nights_54 : decode cX11_nights 54 = .ok (.iconst (-1), 1) := by decide +kernel
theorem dX11_nights_55 : decode cX11_nights 55 = .ok (.ireturn, 1) := by decide +kernel
theorem dX11_nights_56 : decode cX11_nights 56 = .ok (.aload_n 0, 1) := by decide +kernel
theorem dX11_nights_57 : decode cX11_nights 57 = .ok (.aload_n 0, 1) := by decide +kernel
theorem dX11_nights_58 : decode cX11_nights 58 = .ok (.getfield 446, 3) := by decide +kernel
theorem dX11_nights_61 : decode cX11_nights 61 = .ok (.i2l, 1) := by decide +kernel
theorem dX11_nights_62 : decode cX11_nights 62 = .ok (.putfield 449, 3) := by decide +kernel
theorem dX11_nights_65 : decode cX11_nights 65 = .ok (.iconst 0, 1) := by decide +kernel
theorem dX11_nights_66 : decode cX11_nights 66 = .ok (.istore 5, 2) := by decide +kernel
theorem dX11_nights_68 : decode cX11_nights 68 = .ok (.iconst 0, 1) := by decide +kernel
theorem dX11_nights_69 : decode cX11_nights 69 = .ok (.istore 6, 2) := by decide +kernel
theorem dX11_nights_71 : decode cX11_nights 71 = .ok (.aload_n 0, 1) := by decide +kernel
theorem dX11_nights_72 : decode cX11_nights 72 = .ok (.invokevirtual 373, 3) := by decide +kernel
theorem dX11_nights_75 : decode cX11_nights 75 = .ok (.iconst 0, 1) := by decide +kernel
theorem dX11_nights_76 : decode cX11_nights 76 = .ok (.istore 7, 2) := by decide +kernel
theorem dX11_nights_78 : decode cX11_nights 78 = .ok (.iload 7, 2) := by decide +kernel
theorem dX11_nights_80 : decode cX11_nights 80 = .ok (.iload_n 1, 1) := by decide +kernel
theorem dX11_nights_81 : decode cX11_nights 81 = .ok (.if_icmp .ge 96, 3) := by decide +kernel
theorem dX11_nights_84 : decode cX11_nights 84 = .ok (.iconst 0, 1) := by decide +kernel
theorem dX11_nights_85 : decode cX11_nights 85 = .ok (.istore 8, 2) := by decide +kernel
theorem dX11_nights_87 : decode cX11_nights 87 = .ok (.iload 8, 2) := by decide +kernel
theorem dX11_nights_89 : decode cX11_nights 89 = .ok (.iload_n 2, 1) := by decide +kernel
theorem dX11_nights_90 : decode cX11_nights 90 = .ok (.if_icmp .ge 56, 3) := by decide +kernel
theorem dX11_nights_93 : decode cX11_nights 93 = .ok (.aload_n 0, 1) := by decide +kernel
theorem dX11_nights_94 : decode cX11_nights 94 = .ok (.bipush 100, 2) := by decide +kernel
theorem dX11_nights_96 : decode cX11_nights 96 = .ok (.invokevirtual 463, 3) := by decide +kernel
theorem dX11_nights_99 : decode cX11_nights 99 = .ok (.iload_n 3, 1) := by decide +kernel
theorem dX11_nights_100 : decode cX11_nights 100 = .ok (.if_icmp .ge 35, 3) := by decide +kernel
theorem dX11_nights_103 : decode cX11_nights 103 = .ok (.aload_n 0, 1) := by decide +kernel
theorem dX11_nights_104 : decode cX11_nights 104 = .ok (.getfield 39, 3) := by decide +kernel
theorem dX11_nights_107 : decode cX11_nights 107 = .ok (.iconst 3, 1) := by decide +kernel
theorem dX11_nights_108 : decode cX11_nights 108 = .ok (.iaload, 1) := by decide +kernel
theorem dX11_nights_109 : decode cX11_nights 109 = .ok (.ifCond .le 26, 3) := by decide +kernel
theorem dX11_nights_112 : decode cX11_nights 112 = .ok (.aload_n 0, 1) := by decide +kernel
theorem dX11_nights_113 : decode cX11_nights 113 = .ok (.getfield 39, 3) := by decide +kernel
theorem dX11_nights_116 : decode cX11_nights 116 = .ok (.bipush 11, 2) := by decide +kernel
theorem dX11_nights_118 : decode cX11_nights 118 = .ok (.iconst 3, 1) := by decide +kernel
theorem dX11_nights_119 : decode cX11_nights 119 = .ok (.aload_n 0, 1) := by decide +kernel
theorem dX11_nights_120 : decode cX11_nights 120 = .ok (.aload_n 0, 1) := by decide +kernel
theorem dX11_nights_121 : decode cX11_nights 121 = .ok (.getfield 39, 3) := by decide +kernel
theorem dX11_nights_124 : decode cX11_nights 124 = .ok (.iconst 3, 1) := by decide +kernel
theorem dX11_nights_125 : decode cX11_nights 125 = .ok (.iaload, 1) := by decide +kernel
theorem dX11_nights_126 : decode cX11_nights 126 = .ok (.invokevirtual 463, 3) := by decide +kernel
theorem dX11_nights_129 : decode cX11_nights 129 = .ok (.imul, 1) := by decide +kernel
theorem dX11_nights_130 : decode cX11_nights 130 = .ok (.iadd, 1) := by decide +kernel
theorem dX11_nights_131 : decode cX11_nights 131 = .ok (.iconst 2, 1) := by decide +kernel
theorem dX11_nights_132 : decode cX11_nights 132 = .ok (.iadd, 1) := by decide +kernel
theorem dX11_nights_133 : decode cX11_nights 133 = .ok (.iconst 1, 1) := by decide +kernel
theorem dX11_nights_134 : decode cX11_nights 134 = .ok (.iastore, 1) := by decide +kernel
theorem dX11_nights_135 : decode cX11_nights 135 = .ok (.aload_n 0, 1) := by decide +kernel
theorem dX11_nights_136 : decode cX11_nights 136 = .ok (.invokevirtual 356, 3) := by decide +kernel
theorem dX11_nights_139 : decode cX11_nights 139 = .ok (.pop, 1) := by decide +kernel
theorem dX11_nights_140 : decode cX11_nights 140 = .ok (.iinc 8 1, 3) := by decide +kernel
theorem dX11_nights_143 : decode cX11_nights 143 = .ok (.goto (-56), 3) := by decide +kernel
theorem dX11_nights_146 : decode cX11_nights 146 = .ok (.iload 5, 2) := by decide +kernel
theorem dX11_nights_148 : decode cX11_nights 148 = .ok (.aload_n 0, 1) := by decide +kernel
theorem dX11_nights_149 : decode cX11_nights 149 = .ok (.invokevirtual 394, 3) := by decide +kernel
theorem dX11_nights_152 : decode cX11_nights 152 = .ok (.iadd, 1) := by decide +kernel
theorem dX11_nights_153 : decode cX11_nights 153 = .ok (.istore 5, 2) := by decide +kernel
theorem dX11_nights_155 : decode cX11_nights 155 = .ok (.iload 6, 2) := by decide +kernel
theorem dX11_nights_157 : decode cX11_nights 157 = .ok (.aload_n 0, 1) := by decide +kernel
theorem dX11_nights_158 : decode cX11_nights 158 = .ok (.invokevirtual 379, 3) := by decide +kernel
theorem dX11_nights_161 : decode cX11_nights 161 = .ok (.invokestatic 406, 3) := by decide +kernel
theorem dX11_nights_164 : decode cX11_nights 164 = .ok (.iadd, 1) := by decide +kernel
theorem dX11_nights_165 : decode cX11_nights 165 = .ok (.istore 6, 2) := by decide +kernel
theorem dX11_nights_167 : decode cX11_nights 167 = .ok (.aload_n 0, 1) := by decide +kernel
theorem dX11_nights_168 : decode cX11_nights 168 = .ok (.invokevirtual 382, 3) := by decide +kernel
theorem dX11_nights_171 : decode cX11_nights 171 = .ok (.iinc 7 1, 3) := by decide +kernel
theorem dX11_nights_174 : decode cX11_nights 174 = .ok (.goto (-96), 3) := by decide +kernel
theorem dX11_nights_177 : decode cX11_nights 177 = .ok (.iload 4, 2) := by decide +kernel
theorem dX11_nights_179 : decode cX11_nights 179 = .ok (.ifCond .ne 8, 3) := by decide +kernel
theorem dX11_nights_182 : decode cX11_nights 182 = .ok (.iload 5, 2) := by decide +kernel
theorem dX11_nights_184 : decode cX11_nights 184 = .ok (.goto 5, 3) := by decide +kernel
theorem dX11_nights_187 : decode cX11_nights 187 = .ok (.iload 6, 2) := by decide +kernel
theorem dX11_nights_189 : decode cX11_nights 189 = .ok (.ireturn, 1) := by decide +kernel
theorem hd_X11_draw : yX11_draw.cls ≠ "java/lang/invoke/MethodHandle" ∧ yX11_draw.cls ≠ "java/lang/invoke/VarHandle" ∧ (parseMethodDescriptor yX11_draw.desc).map (fun d => d.parameters.length) = some 1 := ⟨by decide +kernel, by decide +kernel, by decide +kernel⟩
set_option maxHeartbeats 4000000 in
set_option maxRecDepth 100000 in
theorem v_nights (l : Launch) (D : va_G) (K : Nat → ClassId) (ad : Nat → Nat) (z : TS) (o : Ok z) (x1 : Int32) (x2 : Int32) (x3 : Int32) (x4 : Int32) (wf : WFc z) : cI l yX11_nights cX11_nights 9 .int ({ frames := 7, cells := 0, slots := 0, locals := 168 }) D K ad z [.ref (ad 386), .int x1, .int x2, .int x3, .int x4] (fun r u => Ok u ∧ KD z u) := by
  refine t_enterI (by decide) (Nat.le_of_ble_eq_true rfl) rfl rfl ?_
  intro p e s m args below meth c A R Q H locs ls E hfr hlo RET G hl
  have E : mE p s m meth c cX11_nights args 9 RX11 D K A := E
  have hl : lv_has ls 9 [(0, .ref (ad 386)), (1, .int x1), (2, .int x2), (3, .int x3), (4, .int x4)] := hl
  refine lv_aload_n E.1 E.2.1 dX11_nights_0 rfl (lv_at hl 0 rfl) ?_
  refine t_vi E G hl (v_isTown l D K ad z o) 11 (rfl : ro 386 = 11) (by decide) rfl rfl 0 rfl mw_code_X11_isTown mw_ini_11 mw_ml_11_359 mw_inst_X11_isTown mw_sel_X11_isTown hd_X11_isTown ⟨Nat.le_trans (by decide) hfr, Nat.le_trans (by decide) hlo⟩ rfl rfl rfl (Nat.le_of_ble_eq_true rfl) dX11_nights_1 (fun r2 zz1 H locs hp3 G => ?_)
  obtain ⟨hz5, b4⟩ := hp3
  rw [hz5] at G
  refine lv_if_eq (tgt := 54) E.1 E.2.1 dX11_nights_4 (by decide) (fun c6 => ?_) (fun c6 => ?_)
  · skip
    have b7 : iv 0 0 r2 := iv_eq c6 (iv_lit (lo := 0) (hi := 0) 0 (by decide) (by decide))
    refine lv_iconst (v := (-1)) E.1 E.2.1 dX11_nights_54 (by decide) ?_
    exact RET G ⟨o, KD.rf⟩ rfl dX11_nights_55
  · skip
    have b8 : iv 1 1 r2 := ne_lo c6 b4 (by decide) (by decide)
    refine lv_iload_n E.1 E.2.1 dX11_nights_7 rfl (lv_at hl 1 rfl) ?_
    refine lv_i2l E.1 E.2.1 dX11_nights_8 rfl ?_
    refine lv_topl (fun v9 e10 => ?_)
    refine lv_lconst (v := 1) E.1 E.2.1 dX11_nights_9 (by decide) ?_
    refine lv_ldc2 (v := 10) E.1 E.2.1 E.2.2.2.1 (E.2.2.2.2.1 _ mw_cL_11_461) dX11_nights_10 ?_
    refine t_si E G hl (v_in l D K ad z o v9 1 10) 3 rfl mw_code_X11_in mw_ini_11 mw_ml_11_121 mw_stat_X11_in hd_X11_in ⟨Nat.le_trans (by decide) hfr, Nat.le_trans (by decide) hlo⟩ rfl rfl rfl (Nat.le_of_ble_eq_true rfl) dX11_nights_13 (fun r12 zz11 H locs hp13 G => ?_)
    obtain ⟨hz16, b14, h15⟩ := hp13
    rw [hz16] at G
    refine lv_if_eq (tgt := 54) E.1 E.2.1 dX11_nights_16 (by decide) (fun c17 => ?_) (fun c17 => ?_)
    · skip
      have b18 : iv 0 0 r12 := iv_eq c17 (iv_lit (lo := 0) (hi := 0) 0 (by decide) (by decide))
      refine lv_iconst (v := (-1)) E.1 E.2.1 dX11_nights_54 (by decide) ?_
      exact RET G ⟨o, KD.rf⟩ rfl dX11_nights_55
    · skip
      have b19 : iv 1 1 r12 := ne_lo c17 b14 (by decide) (by decide)
      have b20 : iv 1 10 x1 := (fun q => in_iv e10 (h15 q) (by decide) (by decide)) c17
      refine lv_iload_n E.1 E.2.1 dX11_nights_19 rfl (lv_at hl 2 rfl) ?_
      refine lv_i2l E.1 E.2.1 dX11_nights_20 rfl ?_
      refine lv_topl (fun v21 e22 => ?_)
      refine lv_lconst (v := 1) E.1 E.2.1 dX11_nights_21 (by decide) ?_
      refine lv_ldc2 (v := 60) E.1 E.2.1 E.2.2.2.1 (E.2.2.2.2.1 _ mw_cL_11_429) dX11_nights_22 ?_
      refine t_si E G hl (v_in l D K ad z o v21 1 60) 3 rfl mw_code_X11_in mw_ini_11 mw_ml_11_121 mw_stat_X11_in hd_X11_in ⟨Nat.le_trans (by decide) hfr, Nat.le_trans (by decide) hlo⟩ rfl rfl rfl (Nat.le_of_ble_eq_true rfl) dX11_nights_25 (fun r24 zz23 H locs hp25 G => ?_)
      obtain ⟨hz28, b26, h27⟩ := hp25
      rw [hz28] at G
      refine lv_if_eq (tgt := 54) E.1 E.2.1 dX11_nights_28 (by decide) (fun c29 => ?_) (fun c29 => ?_)
      · skip
        have b30 : iv 0 0 r24 := iv_eq c29 (iv_lit (lo := 0) (hi := 0) 0 (by decide) (by decide))
        refine lv_iconst (v := (-1)) E.1 E.2.1 dX11_nights_54 (by decide) ?_
        exact RET G ⟨o, KD.rf⟩ rfl dX11_nights_55
      · skip
        have b31 : iv 1 1 r24 := ne_lo c29 b26 (by decide) (by decide)
        have b32 : iv 1 60 x2 := (fun q => in_iv e22 (h27 q) (by decide) (by decide)) c29
        refine lv_iload_n E.1 E.2.1 dX11_nights_31 rfl (lv_at hl 3 rfl) ?_
        refine lv_i2l E.1 E.2.1 dX11_nights_32 rfl ?_
        refine lv_topl (fun v33 e34 => ?_)
        refine lv_lconst (v := 0) E.1 E.2.1 dX11_nights_33 (by decide) ?_
        refine lv_ldc2 (v := 100) E.1 E.2.1 E.2.2.2.1 (E.2.2.2.2.1 _ mw_cL_11_369) dX11_nights_34 ?_
        refine t_si E G hl (v_in l D K ad z o v33 0 100) 3 rfl mw_code_X11_in mw_ini_11 mw_ml_11_121 mw_stat_X11_in hd_X11_in ⟨Nat.le_trans (by decide) hfr, Nat.le_trans (by decide) hlo⟩ rfl rfl rfl (Nat.le_of_ble_eq_true rfl) dX11_nights_37 (fun r36 zz35 H locs hp37 G => ?_)
        obtain ⟨hz40, b38, h39⟩ := hp37
        rw [hz40] at G
        refine lv_if_eq (tgt := 54) E.1 E.2.1 dX11_nights_40 (by decide) (fun c41 => ?_) (fun c41 => ?_)
        · skip
          have b42 : iv 0 0 r36 := iv_eq c41 (iv_lit (lo := 0) (hi := 0) 0 (by decide) (by decide))
          refine lv_iconst (v := (-1)) E.1 E.2.1 dX11_nights_54 (by decide) ?_
          exact RET G ⟨o, KD.rf⟩ rfl dX11_nights_55
        · skip
          have b43 : iv 1 1 r36 := ne_lo c41 b38 (by decide) (by decide)
          have b44 : iv 0 100 x3 := (fun q => in_iv e34 (h39 q) (by decide) (by decide)) c41
          refine lv_iload E.1 E.2.1 dX11_nights_43 (lv_at hl 4 rfl) ?_
          refine lv_i2l E.1 E.2.1 dX11_nights_45 rfl ?_
          refine lv_topl (fun v45 e46 => ?_)
          refine lv_lconst (v := 0) E.1 E.2.1 dX11_nights_46 (by decide) ?_
          refine lv_lconst (v := 1) E.1 E.2.1 dX11_nights_47 (by decide) ?_
          refine t_si E G hl (v_in l D K ad z o v45 0 1) 3 rfl mw_code_X11_in mw_ini_11 mw_ml_11_121 mw_stat_X11_in hd_X11_in ⟨Nat.le_trans (by decide) hfr, Nat.le_trans (by decide) hlo⟩ rfl rfl rfl (Nat.le_of_ble_eq_true rfl) dX11_nights_48 (fun r48 zz47 H locs hp49 G => ?_)
          obtain ⟨hz52, b50, h51⟩ := hp49
          rw [hz52] at G
          refine lv_if_ne (tgt := 56) E.1 E.2.1 dX11_nights_51 (by decide) (fun c53 => ?_) (fun c53 => ?_)
          · skip
            have b54 : iv 1 1 r48 := ne_lo c53 b50 (by decide) (by decide)
            have b55 : iv 0 1 x4 := (fun q => in_iv e46 (h51 q) (by decide) (by decide)) c53
            refine lv_aload_n E.1 E.2.1 dX11_nights_56 rfl (lv_at hl 0 rfl) ?_
            refine lv_aload_n E.1 E.2.1 dX11_nights_57 rfl (lv_at hl 0 rfl) ?_
            refine t_get E G 11 22 (rfl : ro 386 = 11) (C := RX11) (T := TX11) (N := 37) rfl (by decide) (by decide) (by decide) mw_fl_11_446 (fvl_i rfl) dX11_nights_58 ?_
            refine lv_topi (fun v56 e57 => ?_)
            have b58 : iv 0 2147483647 v56 := by rw [e57]; exact o.i 11 22 (rfl : ro 386 = 11)
            refine lv_i2l E.1 E.2.1 dX11_nights_61 rfl ?_
            refine lv_topl (fun v59 e60 => ?_)
            refine t_putJ E G mw_fl_11_449 dX11_nights_62 (fun H locs G => ?_)
            obtain ⟨zz62, G, oo63, kk64, h65, h61⟩ : ∃ u : TS, mG D A s H locs (wd K ad u) ∧ Ok u ∧ KD z u ∧ tI u 386 22 = v56 ∧ (tJ u = v59) := ⟨_, G, ok_J o, KD.tr KD.rf KD_J, e57.symm, rfl⟩
            have h66 : dj zz62 := dj_x h61 e60 b58
            refine lv_iconst (v := 0) E.1 E.2.1 dX11_nights_65 (by decide) ?_
            refine lv_istore (lv' := [(5, .int 0), (0, .ref (ad 386)), (1, .int x1), (2, .int x2), (3, .int x3), (4, .int x4)]) E.1 E.2.1 dX11_nights_66 hl (by decide) rfl (fun ls hl => ?_)
            refine lv_iconst (v := 0) E.1 E.2.1 dX11_nights_68 (by decide) ?_
            refine lv_istore (lv' := [(6, .int 0), (5, .int 0), (0, .ref (ad 386)), (1, .int x1), (2, .int x2), (3, .int x3), (4, .int x4)]) E.1 E.2.1 dX11_nights_69 hl (by decide) rfl (fun ls hl => ?_)
            refine lv_aload_n E.1 E.2.1 dX11_nights_71 rfl (lv_at hl 2 rfl) ?_
            refine t_vv E G hl (v_keeps l D K ad zz62 oo63) 11 (rfl : ro 386 = 11) (by decide) rfl rfl 0 rfl mw_code_X11_keeps mw_ini_11 mw_ml_11_373 mw_inst_X11_keeps mw_sel_X11_keeps hd_X11_keeps ⟨Nat.le_trans (by decide) hfr, Nat.le_trans (by decide) hlo⟩ rfl rfl rfl (Nat.le_of_ble_eq_true rfl) dX11_nights_72 (fun zz67 H locs hp69 G => ?_)
            obtain ⟨oo70, kk71⟩ := hp69
            have kk72 : KD z zz67 := KD.tr kk64 (KM.d kk71)
            have h73 : tI zz67 386 22 = v56 := KF.i kk71 11 (rfl : ro 386 = 11) (by decide) h65
            have h74 : dj zz67 := dj_k h66 kk71.2.2.1
            refine lv_iconst (v := 0) E.1 E.2.1 dX11_nights_75 (by decide) ?_
            refine lv_istore (lv' := [(7, .int 0), (6, .int 0), (5, .int 0), (0, .ref (ad 386)), (1, .int x1), (2, .int x2), (3, .int x3), (4, .int x4)]) E.1 E.2.1 dX11_nights_76 hl (by decide) rfl (fun ls hl => ?_)
            have LOOP78 : ∀ n : Nat, ∀ (zz78 : TS) (y75 : Int32) (y76 : Int32) (y77 : Int32) (H : Heap) (locs : List Loc) (ls : Array Slot), mG D A s H locs (wd K ad zz78) → Ok zz78 → KD z zz78 → iv 0 10 y75 → dj zz78 → 10 < y75.toInt + (n : Int) → lv_has ls 9 [(7, .int y75), (6, .int y76), (5, .int y77), (0, .ref (ad 386)), (1, .int x1), (2, .int x2), (3, .int x3), (4, .int x4)] → W p l e R s m args below meth c H locs 0 0 Q (F0 m 78 ls []) := by
              intro n
              induction n with
              | zero =>
                intro zz78 y75 y76 y77 H locs ls G oo79 kk80 b82 h83 m81 hl
                exact absurd m81 (by have := b82.1; have := b82.2; omega)
              | succ n ih78 =>
                intro zz78 y75 y76 y77 H locs ls G oo79 kk80 b82 h83 m81 hl
                refine lv_iload E.1 E.2.1 dX11_nights_78 (lv_at hl 0 rfl) ?_
                refine lv_iload_n E.1 E.2.1 dX11_nights_80 rfl (lv_at hl 4 rfl) ?_
                refine lv_icmp_ge (tgt := 177) E.1 E.2.1 dX11_nights_81 (by decide) (fun c84 => ?_) (fun c84 => ?_)
                · skip
                  have b85 : iv 1 10 y75 := le_r c84 b20 b82 (by decide)
                  refine lv_iload E.1 E.2.1 dX11_nights_177 (lv_at hl 7 rfl) ?_
                  refine lv_if_ne (tgt := 187) E.1 E.2.1 dX11_nights_179 (by decide) (fun c86 => ?_) (fun c86 => ?_)
                  · skip
                    have b87 : iv 1 1 x4 := ne_lo c86 b55 (by decide) (by decide)
                    refine lv_iload E.1 E.2.1 dX11_nights_187 (lv_at hl 1 rfl) ?_
                    exact RET G ⟨oo79, kk80⟩ rfl dX11_nights_189
                  · skip
                    have b88 : iv 0 0 x4 := iv_eq c86 (iv_lit (lo := 0) (hi := 0) 0 (by decide) (by decide))
                    refine lv_iload E.1 E.2.1 dX11_nights_182 (lv_at hl 2 rfl) ?_
                    refine lv_goto (tgt := 189) E.1 E.2.1 dX11_nights_184 (by decide) ?_
                    exact RET G ⟨oo79, kk80⟩ rfl dX11_nights_189
                · skip
                  have b89 : iv 0 9 y75 := lt_l (Int32.not_le.mp c84) b82 b20 (by decide)
                  refine lv_iconst (v := 0) E.1 E.2.1 dX11_nights_84 (by decide) ?_
                  refine lv_istore (lv' := [(8, .int 0), (7, .int y75), (6, .int y76), (5, .int y77), (0, .ref (ad 386)), (1, .int x1), (2, .int x2), (3, .int x3), (4, .int x4)]) E.1 E.2.1 dX11_nights_85 hl (by decide) rfl (fun ls hl => ?_)
                  have LOOP87 : ∀ n : Nat, ∀ (zz91 : TS) (y90 : Int32) (H : Heap) (locs : List Loc) (ls : Array Slot), mG D A s H locs (wd K ad zz91) → Ok zz91 → KD z zz91 → iv 0 60 y90 → dj zz91 → 60 < y90.toInt + (n : Int) → lv_has ls 9 [(8, .int y90), (7, .int y75), (6, .int y76), (5, .int y77), (0, .ref (ad 386)), (1, .int x1), (2, .int x2), (3, .int x3), (4, .int x4)] → W p l e R s m args below meth c H locs 0 0 Q (F0 m 87 ls []) := by
                    intro n
                    induction n with
                    | zero =>
                      intro zz91 y90 H locs ls G oo92 kk93 b95 h96 m94 hl
                      exact absurd m94 (by have := b95.1; have := b95.2; omega)
                    | succ n ih87 =>
                      intro zz91 y90 H locs ls G oo92 kk93 b95 h96 m94 hl
                      refine lv_iload E.1 E.2.1 dX11_nights_87 (lv_at hl 0 rfl) ?_
                      refine lv_iload_n E.1 E.2.1 dX11_nights_89 rfl (lv_at hl 6 rfl) ?_
                      refine lv_icmp_ge (tgt := 146) E.1 E.2.1 dX11_nights_90 (by decide) (fun c97 => ?_) (fun c97 => ?_)
                      · skip
                        have b98 : iv 1 60 y90 := le_r c97 b32 b95 (by decide)
                        refine lv_iload E.1 E.2.1 dX11_nights_146 (lv_at hl 3 rfl) ?_
                        refine lv_aload_n E.1 E.2.1 dX11_nights_148 rfl (lv_at hl 4 rfl) ?_
                        refine t_vi E G hl (v_charges l D K ad zz91 oo92) 11 (rfl : ro 386 = 11) (by decide) rfl rfl 0 rfl mw_code_X11_charges mw_ini_11 mw_ml_11_394 mw_inst_X11_charges mw_sel_X11_charges hd_X11_charges ⟨Nat.le_trans (by decide) hfr, Nat.le_trans (by decide) hlo⟩ rfl rfl rfl (Nat.le_of_ble_eq_true rfl) dX11_nights_149 (fun r100 zz99 H locs hp101 G => ?_)
                        have hz102 := hp101
                        rw [hz102] at G
                        refine lv_iadd E.1 E.2.1 dX11_nights_152 ?_
                        refine lv_topi (fun v103 e104 => ?_)
                        refine lv_istore (lv' := [(5, .int v103), (8, .int y90), (7, .int y75), (6, .int y76), (0, .ref (ad 386)), (1, .int x1), (2, .int x2), (3, .int x3), (4, .int x4)]) E.1 E.2.1 dX11_nights_153 hl (by decide) rfl (fun ls hl => ?_)
                        refine lv_iload E.1 E.2.1 dX11_nights_155 (lv_at hl 3 rfl) ?_
                        refine lv_aload_n E.1 E.2.1 dX11_nights_157 rfl (lv_at hl 4 rfl) ?_
                        refine t_vi E G hl (v_laidOnes l D K ad zz91 oo92) 11 (rfl : ro 386 = 11) (by decide) rfl rfl 0 rfl mw_code_X11_laidOnes mw_ini_11 mw_ml_11_379 mw_inst_X11_laidOnes mw_sel_X11_laidOnes hd_X11_laidOnes ⟨Nat.le_trans (by decide) hfr, Nat.le_trans (by decide) hlo⟩ rfl rfl rfl (Nat.le_of_ble_eq_true rfl) dX11_nights_158 (fun r106 zz105 H locs hp107 G => ?_)
                        have hz108 := hp107
                        rw [hz108] at G
                        refine t_si E G hl (v_bits l D K ad zz91 oo92 r106) 1 rfl mw_code_X11_bits mw_ini_11 mw_ml_11_406 mw_stat_X11_bits hd_X11_bits ⟨Nat.le_trans (by decide) hfr, Nat.le_trans (by decide) hlo⟩ rfl rfl rfl (Nat.le_of_ble_eq_true rfl) dX11_nights_161 (fun r110 zz109 H locs hp111 G => ?_)
                        have hz112 := hp111
                        rw [hz112] at G
                        refine lv_iadd E.1 E.2.1 dX11_nights_164 ?_
                        refine lv_topi (fun v113 e114 => ?_)
                        refine lv_istore (lv' := [(6, .int v113), (5, .int v103), (8, .int y90), (7, .int y75), (0, .ref (ad 386)), (1, .int x1), (2, .int x2), (3, .int x3), (4, .int x4)]) E.1 E.2.1 dX11_nights_165 hl (by decide) rfl (fun ls hl => ?_)
                        refine lv_aload_n E.1 E.2.1 dX11_nights_167 rfl (lv_at hl 4 rfl) ?_
                        refine t_vv E G hl (v_laysBack l D K ad zz91 oo92) 11 (rfl : ro 386 = 11) (by decide) rfl rfl 0 rfl mw_code_X11_laysBack mw_ini_11 mw_ml_11_382 mw_inst_X11_laysBack mw_sel_X11_laysBack hd_X11_laysBack ⟨Nat.le_trans (by decide) hfr, Nat.le_trans (by decide) hlo⟩ rfl rfl rfl (Nat.le_of_ble_eq_true rfl) dX11_nights_168 (fun zz115 H locs hp117 G => ?_)
                        obtain ⟨oo118, kk119⟩ := hp117
                        have kk120 : KD z zz115 := KD.tr kk93 (KM.d kk119)
                        have h121 : dj zz115 := dj_k h96 kk119.2.2.1
                        obtain ⟨v122, e123⟩ : ∃ w : Int32, w = y75 + (1 : Int32) := ⟨_, rfl⟩
                        refine lv_iinc (v := v122) (lv' := [(7, .int v122), (6, .int v113), (5, .int v103), (8, .int y90), (0, .ref (ad 386)), (1, .int x1), (2, .int x2), (3, .int x3), (4, .int x4)]) E.1 E.2.1 dX11_nights_171 hl (k := 3) rfl (by rw [e123]; rfl) (by decide) rfl (fun ls hl => ?_)
                        have b124 : iv 1 10 v122 := by rw [e123]; exact iv_add b89 (iv_lit (lo := 1) (hi := 1) 1 (by decide) (by decide)) (by decide) (by decide) (by decide) (by decide)
                        have t125 : v122.toInt = y75.toInt + 1 := by rw [e123]; exact ti_addc 1 (by decide) b89 (by decide) (by decide)
                        refine lv_goto (tgt := 78) E.1 E.2.1 dX11_nights_174 (by decide) ?_
                        exact ih78 zz115 v122 v113 v103 H locs ls G oo118 kk120 (iv_mono b124 (by decide) (by decide)) h121 (by have := t125; have := m81; omega) (lv_sub hl [0, 1, 2, 4, 5, 6, 7, 8] rfl)
                      · skip
                        have b126 : iv 0 59 y90 := lt_l (Int32.not_le.mp c97) b95 b32 (by decide)
                        refine lv_aload_n E.1 E.2.1 dX11_nights_93 rfl (lv_at hl 4 rfl) ?_
                        refine lv_bipush (v := 100) E.1 E.2.1 dX11_nights_94 (by decide) ?_
                        refine t_vi E G hl (v_draw_100 l D K ad zz91 oo92 h96) 11 (rfl : ro 386 = 11) (by decide) rfl rfl 1 rfl mw_code_X11_draw mw_ini_11 mw_ml_11_463 mw_inst_X11_draw mw_sel_X11_draw hd_X11_draw ⟨Nat.le_trans (by decide) hfr, Nat.le_trans (by decide) hlo⟩ rfl rfl rfl (Nat.le_of_ble_eq_true rfl) dX11_nights_96 (fun r128 zz127 H locs hp129 G => ?_)
                        obtain ⟨oo130, kk131, b132, h133⟩ := hp129
                        have kk134 : KD z zz127 := KD.tr kk93 kk131
                        refine lv_iload_n E.1 E.2.1 dX11_nights_99 rfl (lv_at hl 7 rfl) ?_
                        refine lv_icmp_ge (tgt := 135) E.1 E.2.1 dX11_nights_100 (by decide) (fun c135 => ?_) (fun c135 => ?_)
                        · skip
                          have b136 : iv 0 99 x3 := le_l c135 b44 b132 (by decide)
                          refine lv_aload_n E.1 E.2.1 dX11_nights_135 rfl (lv_at hl 4 rfl) ?_
                          refine t_vi E G hl (v_passes l D K ad zz127 oo130 (wf_ka wf kk134.2.1 rfl rfl rfl rfl)) 11 (rfl : ro 386 = 11) (by decide) rfl rfl 0 rfl mw_code_X11_passes mw_ini_11 mw_ml_11_356 mw_inst_X11_passes mw_sel_X11_passes hd_X11_passes ⟨Nat.le_trans (by decide) hfr, Nat.le_trans (by decide) hlo⟩ rfl rfl rfl (Nat.le_of_ble_eq_true rfl) dX11_nights_136 (fun r138 zz137 H locs hp139 G => ?_)
                          obtain ⟨oo140, kk141⟩ := hp139
                          have kk142 : KD z zz137 := KD.tr kk134 (KM.d kk141)
                          have h143 : dj zz137 := dj_k h133 kk141.2.2.1
                          refine lv_pop E.1 E.2.1 dX11_nights_139 rfl ?_
                          obtain ⟨v144, e145⟩ : ∃ w : Int32, w = y90 + (1 : Int32) := ⟨_, rfl⟩
                          refine lv_iinc (v := v144) (lv' := [(8, .int v144), (7, .int y75), (6, .int y76), (5, .int y77), (0, .ref (ad 386)), (1, .int x1), (2, .int x2), (3, .int x3), (4, .int x4)]) E.1 E.2.1 dX11_nights_140 hl (k := 0) rfl (by rw [e145]; rfl) (by decide) rfl (fun ls hl => ?_)
                          have b146 : iv 1 60 v144 := by rw [e145]; exact iv_add b126 (iv_lit (lo := 1) (hi := 1) 1 (by decide) (by decide)) (by decide) (by decide) (by decide) (by decide)
                          have t147 : v144.toInt = y90.toInt + 1 := by rw [e145]; exact ti_addc 1 (by decide) b126 (by decide) (by decide)
                          refine lv_goto (tgt := 87) E.1 E.2.1 dX11_nights_143 (by decide) ?_
                          exact ih87 zz137 v144 H locs ls G oo140 kk142 (iv_mono b146 (by decide) (by decide)) h143 (by have := t147; have := m94; omega) (lv_sub hl [0, 1, 2, 3, 4, 5, 6, 7, 8] rfl)
                        · skip
                          have b148 : iv 1 100 x3 := lt_r (Int32.not_le.mp c135) b132 b44 (by decide)
                          refine lv_aload_n E.1 E.2.1 dX11_nights_103 rfl (lv_at hl 4 rfl) ?_
                          refine t_get E G 11 20 (rfl : ro 386 = 11) (C := RX11) (T := TX11) (N := 37) rfl (by decide) (by decide) (by decide) mw_fl_11_39 (v := .ref (ad 396)) (fvl_o (n := 10) rfl) dX11_nights_104 ?_
                          refine lv_iconst (v := 3) E.1 E.2.1 dX11_nights_107 (by decide) ?_
                          refine t_iald E G 54 (rfl : ro 396 = 54) (by decide) (by decide) rfl (n := 127) rfl (by unfold vp_in; decide) dX11_nights_108 ?_
                          refine lv_topi (fun v149 e150 => ?_)
                          have b151 : iv 0 6 v149 := by rw [e150]; exact iv_mono (oo130.a 54 (rfl : ro 396 = 54) _) (by decide +kernel) (by decide +kernel)
                          refine lv_if_le (tgt := 135) E.1 E.2.1 dX11_nights_109 (by decide) (fun c152 => ?_) (fun c152 => ?_)
                          · skip
                            have b153 : iv 0 0 v149 := le_l c152 b151 (iv_lit (lo := 0) (hi := 0) 0 (by decide) (by decide)) (by decide)
                            refine lv_aload_n E.1 E.2.1 dX11_nights_135 rfl (lv_at hl 4 rfl) ?_
                            refine t_vi E G hl (v_passes l D K ad zz127 oo130 (wf_ka wf kk134.2.1 rfl rfl rfl rfl)) 11 (rfl : ro 386 = 11) (by decide) rfl rfl 0 rfl mw_code_X11_passes mw_ini_11 mw_ml_11_356 mw_inst_X11_passes mw_sel_X11_passes hd_X11_passes ⟨Nat.le_trans (by decide) hfr, Nat.le_trans (by decide) hlo⟩ rfl rfl rfl (Nat.le_of_ble_eq_true rfl) dX11_nights_136 (fun r155 zz154 H locs hp156 G => ?_)
                            obtain ⟨oo157, kk158⟩ := hp156
                            have kk159 : KD z zz154 := KD.tr kk134 (KM.d kk158)
                            have h160 : dj zz154 := dj_k h133 kk158.2.2.1
                            refine lv_pop E.1 E.2.1 dX11_nights_139 rfl ?_
                            obtain ⟨v161, e162⟩ : ∃ w : Int32, w = y90 + (1 : Int32) := ⟨_, rfl⟩
                            refine lv_iinc (v := v161) (lv' := [(8, .int v161), (7, .int y75), (6, .int y76), (5, .int y77), (0, .ref (ad 386)), (1, .int x1), (2, .int x2), (3, .int x3), (4, .int x4)]) E.1 E.2.1 dX11_nights_140 hl (k := 0) rfl (by rw [e162]; rfl) (by decide) rfl (fun ls hl => ?_)
                            have b163 : iv 1 60 v161 := by rw [e162]; exact iv_add b126 (iv_lit (lo := 1) (hi := 1) 1 (by decide) (by decide)) (by decide) (by decide) (by decide) (by decide)
                            have t164 : v161.toInt = y90.toInt + 1 := by rw [e162]; exact ti_addc 1 (by decide) b126 (by decide) (by decide)
                            refine lv_goto (tgt := 87) E.1 E.2.1 dX11_nights_143 (by decide) ?_
                            exact ih87 zz154 v161 H locs ls G oo157 kk159 (iv_mono b163 (by decide) (by decide)) h160 (by have := t164; have := m94; omega) (lv_sub hl [0, 1, 2, 3, 4, 5, 6, 7, 8] rfl)
                          · skip
                            have b165 : iv 1 6 v149 := lt_r (Int32.not_le.mp c152) (iv_lit (lo := 0) (hi := 0) 0 (by decide) (by decide)) b151 (by decide)
                            refine lv_aload_n E.1 E.2.1 dX11_nights_112 rfl (lv_at hl 4 rfl) ?_
                            refine t_get E G 11 20 (rfl : ro 386 = 11) (C := RX11) (T := TX11) (N := 37) rfl (by decide) (by decide) (by decide) mw_fl_11_39 (v := .ref (ad 396)) (fvl_o (n := 10) rfl) dX11_nights_113 ?_
                            refine lv_bipush (v := 11) E.1 E.2.1 dX11_nights_116 (by decide) ?_
                            refine lv_iconst (v := 3) E.1 E.2.1 dX11_nights_118 (by decide) ?_
                            refine lv_aload_n E.1 E.2.1 dX11_nights_119 rfl (lv_at hl 4 rfl) ?_
                            refine lv_aload_n E.1 E.2.1 dX11_nights_120 rfl (lv_at hl 4 rfl) ?_
                            refine t_get E G 11 20 (rfl : ro 386 = 11) (C := RX11) (T := TX11) (N := 37) rfl (by decide) (by decide) (by decide) mw_fl_11_39 (v := .ref (ad 396)) (fvl_o (n := 10) rfl) dX11_nights_121 ?_
                            refine lv_iconst (v := 3) E.1 E.2.1 dX11_nights_124 (by decide) ?_
                            refine t_iald E G 54 (rfl : ro 396 = 54) (by decide) (by decide) rfl (n := 127) rfl (by unfold vp_in; decide) dX11_nights_125 ?_
                            refine m_ci v149 e150.symm ?_
                            refine t_vi E G hl (v_draw_6 l D K ad zz127 oo130 v149 (iv_mono b165 (by decide) (by decide)) h133) 11 (rfl : ro 386 = 11) (by decide) rfl rfl 1 rfl mw_code_X11_draw mw_ini_11 mw_ml_11_463 mw_inst_X11_draw mw_sel_X11_draw hd_X11_draw ⟨Nat.le_trans (by decide) hfr, Nat.le_trans (by decide) hlo⟩ rfl rfl rfl (Nat.le_of_ble_eq_true rfl) dX11_nights_126 (fun r167 zz166 H locs hp168 G => ?_)
                            obtain ⟨oo169, kk170, b171, h172⟩ := hp168
                            have kk173 : KD z zz166 := KD.tr kk134 kk170
                            refine lv_imul E.1 E.2.1 dX11_nights_129 ?_
                            refine lv_topi (fun v174 e175 => ?_)
                            have b176 : iv 0 15 v174 := by rw [e175]; exact iv_mulc' b171 3 (by decide) (by decide) (by decide) (by decide) (by decide) (by decide)
                            have l177 : v174.toInt = 0 + 3 * r167.toInt := (show v174.toInt = 3 * r167.toInt by rw [e175]; exact ti_cmul 3 (by decide) (by decide) b171 (by decide) (by decide)).trans (by omega)
                            refine lv_iadd E.1 E.2.1 dX11_nights_130 ?_
                            refine lv_topi (fun v178 e179 => ?_)
                            have b180 : iv 11 26 v178 := by rw [e179]; exact iv_add (iv_lit (lo := 11) (hi := 11) 11 (by decide) (by decide)) b176 (by decide) (by decide) (by decide) (by decide)
                            have l181 : v178.toInt = 11 + 3 * r167.toInt := (show v178.toInt = 11 + v174.toInt by rw [e179]; exact ti_cadd 11 (by decide) b176 (by decide) (by decide)).trans (by omega)
                            refine lv_iconst (v := 2) E.1 E.2.1 dX11_nights_131 (by decide) ?_
                            refine lv_iadd E.1 E.2.1 dX11_nights_132 ?_
                            refine lv_topi (fun v182 e183 => ?_)
                            have b184 : iv 13 28 v182 := by rw [e183]; exact iv_add b180 (iv_lit (lo := 2) (hi := 2) 2 (by decide) (by decide)) (by decide) (by decide) (by decide) (by decide)
                            have l185 : v182.toInt = 13 + 3 * r167.toInt := (show v182.toInt = v178.toInt + 2 by rw [e183]; exact ti_addc 2 (by decide) b180 (by decide) (by decide)).trans (by omega)
                            refine lv_iconst (v := 1) E.1 E.2.1 dX11_nights_133 (by decide) ?_
                            refine t_iast E G 54 (rfl : ro 396 = 54) (by decide) (by decide) rfl (n := 127) rfl (iv_vp b184 (by decide) (by decide)) dX11_nights_134 (fun H locs G => ?_)
                            obtain ⟨zz187, G, oo188, kk189, h186⟩ : ∃ u : TS, mG D A s H locs (wd K ad u) ∧ Ok u ∧ KD z u ∧ (dj u) := ⟨_, G, ok_u oo169 54 (rfl : ro 396 = 54) (wr1 13 3 0 5 (iv_lit (lo := 1) (hi := 1) 1 (by decide) (by decide)) b171 (l185.trans (by omega)) (by decide +kernel)) (by decide), KD.tr kk173 (KD_r 54 (rfl : ro 396 = 54) (by decide)), h172⟩
                            refine lv_aload_n E.1 E.2.1 dX11_nights_135 rfl (lv_at hl 4 rfl) ?_
                            refine t_vi E G hl (v_passes l D K ad zz187 oo188 (wf_ka wf kk189.2.1 rfl rfl rfl rfl)) 11 (rfl : ro 386 = 11) (by decide) rfl rfl 0 rfl mw_code_X11_passes mw_ini_11 mw_ml_11_356 mw_inst_X11_passes mw_sel_X11_passes hd_X11_passes ⟨Nat.le_trans (by decide) hfr, Nat.le_trans (by decide) hlo⟩ rfl rfl rfl (Nat.le_of_ble_eq_true rfl) dX11_nights_136 (fun r191 zz190 H locs hp192 G => ?_)
                            obtain ⟨oo193, kk194⟩ := hp192
                            have kk195 : KD z zz190 := KD.tr kk189 (KM.d kk194)
                            have h196 : dj zz190 := dj_k h186 kk194.2.2.1
                            refine lv_pop E.1 E.2.1 dX11_nights_139 rfl ?_
                            obtain ⟨v197, e198⟩ : ∃ w : Int32, w = y90 + (1 : Int32) := ⟨_, rfl⟩
                            refine lv_iinc (v := v197) (lv' := [(8, .int v197), (7, .int y75), (6, .int y76), (5, .int y77), (0, .ref (ad 386)), (1, .int x1), (2, .int x2), (3, .int x3), (4, .int x4)]) E.1 E.2.1 dX11_nights_140 hl (k := 0) rfl (by rw [e198]; rfl) (by decide) rfl (fun ls hl => ?_)
                            have b199 : iv 1 60 v197 := by rw [e198]; exact iv_add b126 (iv_lit (lo := 1) (hi := 1) 1 (by decide) (by decide)) (by decide) (by decide) (by decide) (by decide)
                            have t200 : v197.toInt = y90.toInt + 1 := by rw [e198]; exact ti_addc 1 (by decide) b126 (by decide) (by decide)
                            refine lv_goto (tgt := 87) E.1 E.2.1 dX11_nights_143 (by decide) ?_
                            exact ih87 zz190 v197 H locs ls G oo193 kk195 (iv_mono b199 (by decide) (by decide)) h196 (by have := t200; have := m94; omega) (lv_sub hl [0, 1, 2, 3, 4, 5, 6, 7, 8] rfl)
                  exact LOOP87 61 zz78 0 H locs ls G oo79 kk80 (iv_mono (iv_lit (lo := 0) (hi := 0) 0 (by decide) (by decide)) (by decide) (by decide)) h83 (by have := (iv_lit (lo := 0) (hi := 0) 0 (by decide) (by decide)).1; omega) (lv_sub hl [0, 1, 2, 3, 4, 5, 6, 7, 8] rfl)
            exact LOOP78 11 zz67 0 0 0 H locs ls G oo70 kk72 (iv_mono (iv_lit (lo := 0) (hi := 0) 0 (by decide) (by decide)) (by decide) (by decide)) h74 (by have := (iv_lit (lo := 0) (hi := 0) 0 (by decide) (by decide)).1; omega) (lv_sub hl [0, 1, 2, 3, 4, 5, 6, 7] rfl)
          · skip
            have b201 : iv 0 0 r48 := iv_eq c53 (iv_lit (lo := 0) (hi := 0) 0 (by decide) (by decide))
            refine lv_iconst (v := (-1)) E.1 E.2.1 dX11_nights_54 (by decide) ?_
            exact RET G ⟨o, KD.rf⟩ rfl dX11_nights_55
