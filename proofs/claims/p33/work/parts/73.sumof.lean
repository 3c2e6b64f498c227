theorem mw_code_X11_summedBy : (Cond.code yX11_summedBy cX11_summedBy 4 (some .long) : Cond) ∈ cw := cw_of (List.mem_append_right _ (List.mem_append_right _ (List.mem_append_right _ (List.mem_append_right _ (List.mem_append_right _ (List.mem_append_right _ (List.mem_append_right _ (List.mem_append_left _ (List.mem_of_getElem? (i := 24) rfl))))))))) (by decide +kernel)
theorem mw_inst_X11_summedBy : (Cond.instanceMethod yX11_summedBy : Cond) ∈ cw := cw_of (List.mem_append_right _ (List.mem_append_right _ (List.mem_append_right _ (List.mem_append_right _ (List.mem_append_right _ (List.mem_append_right _ (List.mem_append_right _ (List.mem_append_left _ (List.mem_of_getElem? (i := 23) (by decide +kernel)))))))))) (by decide +kernel)
theorem mw_ml_11_336 : (Cond.methodLink RX11 336 yX11_summedBy : Cond) ∈ cw := cw_of (List.mem_append_right _ (List.mem_append_right _ (List.mem_append_right _ (List.mem_append_right _ (List.mem_append_right _ (List.mem_append_right _ (List.mem_append_right _ (List.mem_append_left _ (List.mem_of_getElem? (i := 21) (by decide +kernel)))))))))) (by decide +kernel)
theorem mw_sel_X11_summedBy : (Cond.selects RX11 yX11_summedBy yX11_summedBy : Cond) ∈ cw := cw_of (List.mem_append_left _ (List.mem_of_getElem? (i := 100) (by decide +kernel))) (by decide +kernel)
theorem dX11_sumOf_0 : decode cX11_sumOf 0 = .ok (.iconst 0, 1) := by decide +kernel
theorem dX11_sumOf_1 : decode cX11_sumOf 1 = .ok (.istore_n 3, 1) := by decide +kernel
theorem dX11_sumOf_2 : decode cX11_sumOf 2 = .ok (.iconst 0, 1) := by decide +kernel
theorem dX11_sumOf_3 : decode cX11_sumOf 3 = .ok (.istore 4, 2) := by decide +kernel
theorem dX11_sumOf_5 : decode cX11_sumOf 5 = .ok (.iconst 0, 1) := by decide +kernel
theorem dX11_sumOf_6 : decode cX11_sumOf 6 = .ok (.istore 5, 2) := by decide +kernel
theorem dX11_sumOf_8 : decode cX11_sumOf 8 = .ok (.iload 5, 2) := by decide +kernel
theorem dX11_sumOf_10 : decode cX11_sumOf 10 = .ok (.aload_n 0, 1) := by decide +kernel
theorem dX11_sumOf_11 : decode cX11_sumOf 11 = .ok (.getfield 39, 3) := by decide +kernel
theorem dX11_sumOf_14 : decode cX11_sumOf 14 = .ok (.iconst 3, 1) := by decide +kernel
theorem dX11_sumOf_15 : decode cX11_sumOf 15 = .ok (.iaload, 1) := by decide +kernel
theorem dX11_sumOf_16 : decode cX11_sumOf 16 = .ok (.if_icmp .ge 54, 3) := by decide +kernel
theorem dX11_sumOf_19 : decode cX11_sumOf 19 = .ok (.aload_n 0, 1) := by decide +kernel
theorem dX11_sumOf_20 : decode cX11_sumOf 20 = .ok (.iload 5, 2) := by decide +kernel
theorem dX11_sumOf_22 : decode cX11_sumOf 22 = .ok (.invokevirtual 288, 3) := by decide +kernel
theorem dX11_sumOf_25 : decode cX11_sumOf 25 = .ok (.ifCond .eq 39, 3) := by decide +kernel
theorem dX11_sumOf_28 : decode cX11_sumOf 28 = .ok (.aload_n 0, 1) := by decide +kernel
theorem dX11_sumOf_29 : decode cX11_sumOf 29 = .ok (.iload 5, 2) := by decide +kernel
theorem dX11_sumOf_31 : decode cX11_sumOf 31 = .ok (.invokevirtual 311, 3) := by decide +kernel
theorem dX11_sumOf_34 : decode cX11_sumOf 34 = .ok (.iload_n 2, 1) := by decide +kernel
theorem dX11_sumOf_35 : decode cX11_sumOf 35 = .ok (.if_icmp .eq 6, 3) := by decide +kernel
theorem dX11_sumOf_38 : decode cX11_sumOf 38 = .ok (.goto 26, 3) := by decide +kernel
theorem dX11_sumOf_41 : decode cX11_sumOf 41 = .ok (.iinc 3 1, 3) := by decide +kernel
theorem dX11_sumOf_44 : decode cX11_sumOf 44 = .ok (.iload 4, 2) := by decide +kernel
theorem dX11_sumOf_46 : decode cX11_sumOf 46 = .ok (.aload_n 0, 1) := by decide +kernel
theorem dX11_sumOf_47 : decode cX11_sumOf 47 = .ok (.iload 5, 2) := by decide +kernel
theorem dX11_sumOf_49 : decode cX11_sumOf 49 = .ok (.iload_n 1, 1) := by decide +kernel
theorem dX11_sumOf_50 : decode cX11_sumOf 50 = .ok (.invokevirtual 330, 3) := by decide +kernel
theorem dX11_sumOf_53 : decode cX11_sumOf 53 = .ok (.ifCond .eq 7, 3) := by decide +kernel
theorem dX11_sumOf_56 : decode cX11_sumOf 56 = .ok (.iconst 1, 1) := by decide +kernel
theorem dX11_sumOf_57 : decode cX11_sumOf 57 = .ok (.goto 4, 3) := by decide +kernel
theorem dX11_sumOf_60 : decode cX11_sumOf 60 = .ok (.iconst 0, 1) := by decide +kernel
theorem dX11_sumOf_61 : decode cX11_sumOf 61 = .ok (.iadd, 1) := by decide +kernel
theorem dX11_sumOf_62 : decode cX11_sumOf 62 = .ok (.istore 4, 2) := by decide +kernel
theorem dX11_sumOf_64 : decode cX11_sumOf 64 = .ok (.iinc 5 1, 3) := by decide +kernel
theorem dX11_sumOf_67 : decode cX11_sumOf 67 = .ok (.goto (-59), 3) := by decide +kernel
theorem dX11_sumOf_70 : decode cX11_sumOf 70 = .ok (.iconst 0, 1) := by decide +kernel
theorem dX11_sumOf_71 : decode cX11_sumOf 71 = .ok (.istore 5, 2) := by decide +kernel
theorem dX11_sumOf_73 : decode cX11_sumOf 73 = .ok (.iconst 0, 1) := by decide +kernel
theorem dX11_sumOf_74 : decode cX11_sumOf 74 = .ok (.istore 6, 2) := by decide +kernel
theorem dX11_sumOf_76 : decode cX11_sumOf 76 = .ok (.iload 6, 2) := by decide +kernel
theorem dX11_sumOf_78 : decode cX11_sumOf 78 = .ok (.aload_n 0, 1) := by decide +kernel
theorem dX11_sumOf_79 : decode cX11_sumOf 79 = .ok (.getfield 39, 3) := by decide +kernel
theorem dX11_sumOf_82 : decode cX11_sumOf 82 = .ok (.iconst 4, 1) := by decide +kernel
theorem dX11_sumOf_83 : decode cX11_sumOf 83 = .ok (.iaload, 1) := by decide +kernel
theorem dX11_sumOf_84 : decode cX11_sumOf 84 = .ok (.if_icmp .ge 35, 3) := by decide +kernel
theorem dX11_sumOf_87 : decode cX11_sumOf 87 = .ok (.iload 5, 2) := by decide +kernel
theorem dX11_sumOf_89 : decode cX11_sumOf 89 = .ok (.iload 6, 2) := by decide +kernel
theorem dX11_sumOf_91 : decode cX11_sumOf 91 = .ok (.iload_n 1, 1) := by decide +kernel
theorem dX11_sumOf_92 : decode cX11_sumOf 92 = .ok (.if_icmp .eq 17, 3) := by decide +kernel
theorem dX11_sumOf_95 : decode cX11_sumOf 95 = .ok (.aload_n 0, 1) := by decide +kernel
theorem dX11_sumOf_96 : decode cX11_sumOf 96 = .ok (.iload 6, 2) := by decide +kernel
theorem dX11_sumOf_98 : decode cX11_sumOf 98 = .ok (.invokevirtual 291, 3) := by decide +kernel
theorem dX11_sumOf_101 : decode cX11_sumOf 101 = .ok (.iload_n 2, 1) := by decide +kernel
theorem dX11_sumOf_102 : decode cX11_sumOf 102 = .ok (.if_icmp .ne 7, 3) := by decide +kernel
theorem dX11_sumOf_105 : decode cX11_sumOf 105 = .ok (.iconst 1, 1) := by decide +kernel
theorem dX11_sumOf_106 : decode cX11_sumOf 106 = .ok (.goto 4, 3) := by decide +kernel
theorem dX11_sumOf_109 : decode cX11_sumOf 109 = .ok (.iconst 0, 1) := by decide +kernel
theorem dX11_sumOf_110 : decode cX11_sumOf 110 = .ok (.iadd, 1) := by decide +kernel
theorem dX11_sumOf_111 : decode cX11_sumOf 111 = .ok (.istore 5, 2) := by decide +kernel
theorem dX11_sumOf_113 : decode cX11_sumOf 113 = .ok (.iinc 6 1, 3) := by decide +kernel
theorem dX11_sumOf_116 : decode cX11_sumOf 116 = .ok (.goto (-40), 3) := by decide +kernel
theorem dX11_sumOf_119 : decode cX11_sumOf 119 = .ok (.aload_n 0, 1) := by decide +kernel
theorem dX11_sumOf_120 : decode cX11_sumOf 120 = .ok (.getfield 36, 3) := by decide +kernel
theorem dX11_sumOf_123 : decode cX11_sumOf 123 = .ok (.iconst 0, 1) := by decide +kernel
theorem dX11_sumOf_124 : decode cX11_sumOf 124 = .ok (.iload_n 1, 1) := by decide +kernel
theorem dX11_sumOf_125 : decode cX11_sumOf 125 = .ok (.i2l, 1) := by decide +kernel
theorem dX11_sumOf_126 : decode cX11_sumOf 126 = .ok (.lastore, 1) := by decide +kernel
theorem dX11_sumOf_127 : decode cX11_sumOf 127 = .ok (.aload_n 0, 1) := by decide +kernel
theorem dX11_sumOf_128 : decode cX11_sumOf 128 = .ok (.getfield 36, 3) := by decide +kernel
theorem dX11_sumOf_131 : decode cX11_sumOf 131 = .ok (.iconst 1, 1) := by decide +kernel
theorem dX11_sumOf_132 : decode cX11_sumOf 132 = .ok (.iload_n 2, 1) := by decide +kernel
theorem dX11_sumOf_133 : decode cX11_sumOf 133 = .ok (.i2l, 1) := by decide +kernel
theorem dX11_sumOf_134 : decode cX11_sumOf 134 = .ok (.lastore, 1) := by decide +kernel
theorem dX11_sumOf_135 : decode cX11_sumOf 135 = .ok (.aload_n 0, 1) := by decide +kernel
theorem dX11_sumOf_136 : decode cX11_sumOf 136 = .ok (.getfield 36, 3) := by decide +kernel
theorem dX11_sumOf_139 : decode cX11_sumOf 139 = .ok (.iconst 2, 1) := by decide +kernel
theorem dX11_sumOf_140 : decode cX11_sumOf 140 = .ok (.aload_n 0, 1) := by decide +kernel
theorem dX11_sumOf_141 : decode cX11_sumOf 141 = .ok (.iload_n 1, 1) := by decide +kernel
theorem dX11_sumOf_142 : decode cX11_sumOf 142 = .ok (.invokevirtual 291, 3) := by decide +kernel
theorem dX11_sumOf_145 : decode cX11_sumOf 145 = .ok (.i2l, 1) := by decide +kernel
theorem dX11_sumOf_146 : decode cX11_sumOf 146 = .ok (.lastore, 1) := by decide +kernel
theorem dX11_sumOf_147 : decode cX11_sumOf 147 = .ok (.aload_n 0, 1) := by decide +kernel
theorem dX11_sumOf_148 : decode cX11_sumOf 148 = .ok (.getfield 36, 3) := by decide +kernel
theorem dX11_sumOf_151 : decode cX11_sumOf 151 = .ok (.iconst 3, 1) := by decide +kernel
theorem dX11_sumOf_152 : decode cX11_sumOf 152 = .ok (.aload_n 0, 1) := by decide +kernel
theorem dX11_sumOf_153 : decode cX11_sumOf 153 = .ok (.iload_n 1, 1) := by decide +kernel
theorem dX11_sumOf_154 : decode cX11_sumOf 154 = .ok (.iload_n 2, 1) := by decide +kernel
theorem dX11_sumOf_155 : decode cX11_sumOf 155 = .ok (.invokevirtual 333, 3) := by decide +kernel
theorem dX11_sumOf_158 : decode cX11_sumOf 158 = .ok (.i2l, 1) := by decide +kernel
theorem dX11_sumOf_159 : decode cX11_sumOf 159 = .ok (.lastore, 1) := by decide +kernel
theorem dX11_sumOf_160 : decode cX11_sumOf 160 = .ok (.aload_n 0, 1) := by decide +kernel
theorem dX11_sumOf_161 : decode cX11_sumOf 161 = .ok (.getfield 36, 3) := by decide +kernel
theorem dX11_sumOf_164 : decode cX11_sumOf 164 = .ok (.iconst 4, 1) := by decide +kernel
theorem dX11_sumOf_165 : decode cX11_sumOf 165 = .ok (.aload_n 0, 1) := by decide +kernel
theorem dX11_sumOf_166 : decode cX11_sumOf 166 = .ok (.getfield 39, 3) := by decide +kernel
theorem dX11_sumOf_169 : decode cX11_sumOf 169 = .ok (.bipush 61, 2) := by decide +kernel
theorem dX11_sumOf_171 : decode cX11_sumOf 171 = .ok (.iload_n 1, 1) := by decide +kernel
theorem dX11_sumOf_172 : decode cX11_sumOf 172 = .ok (.iadd, 1) := by decide +kernel
theorem dX11_sumOf_173 : decode cX11_sumOf 173 = .ok (.iaload, 1) := by decide +kernel
theorem dX11_sumOf_174 : decode cX11_sumOf 174 = .ok (.i2l, 1) := by decide +kernel
theorem dX11_sumOf_175 : decode cX11_sumOf 175 = .ok (.lastore, 1) := by decide +kernel
theorem dX11_sumOf_176 : decode cX11_sumOf 176 = .ok (.aload_n 0, 1) := by decide +kernel
theorem dX11_sumOf_177 : decode cX11_sumOf 177 = .ok (.getfield 36, 3) := by decide +kernel
theorem dX11_sumOf_180 : decode cX11_sumOf 180 = .ok (.iconst 5, 1) := by decide +kernel
theorem dX11_sumOf_181 : decode cX11_sumOf 181 = .ok (.aload_n 0, 1) := by decide +kernel
theorem dX11_sumOf_182 : decode cX11_sumOf 182 = .ok (.iload_n 1, 1) := by decide +kernel
theorem dX11_sumOf_183 : decode cX11_sumOf 183 = .ok (.invokevirtual 320, 3) := by decide +kernel
theorem dX11_sumOf_186 : decode cX11_sumOf 186 = .ok (.i2l, 1) := by decide +kernel
theorem dX11_sumOf_187 : decode cX11_sumOf 187 = .ok (.lastore, 1) := by decide +kernel
theorem dX11_sumOf_188 : decode cX11_sumOf 188 = .ok (.aload_n 0, 1) := by decide +kernel
theorem dX11_sumOf_189 : decode cX11_sumOf 189 = .ok (.getfield 36, 3) := by decide +kernel
theorem dX11_sumOf_192 : decode cX11_sumOf 192 = .ok (.bipush 6, 2) := by decide +kernel
theorem dX11_sumOf_194 : decode cX11_sumOf 194 = .ok (.aload_n 0, 1) := by decide +kernel
theorem dX11_sumOf_195 : decode cX11_sumOf 195 = .ok (.iload_n 1, 1) := by decide +kernel
theorem dX11_sumOf_196 : decode cX11_sumOf 196 = .ok (.invokevirtual 294, 3) := by decide +kernel
theorem dX11_sumOf_199 : decode cX11_sumOf 199 = .ok (.i2l, 1) := by decide +kernel
theorem dX11_sumOf_200 : decode cX11_sumOf 200 = .ok (.lastore, 1) := by decide +kernel
theorem dX11_sumOf_201 : decode cX11_sumOf 201 = .ok (.aload_n 0, 1) := by decide +kernel
theorem dX11_sumOf_202 : decode cX11_sumOf 202 = .ok (.getfield 36, 3) := by decide +kernel
theorem dX11_sumOf_205 : decode cX11_sumOf 205 = .ok (.bipush 7, 2) := by decide +kernel
theorem dX11_sumOf_207 : decode cX11_sumOf 207 = .ok (.iload_n 3, 1) := by decide +kernel
theorem dX11_sumOf_208 : decode cX11_sumOf 208 = .ok (.i2l, 1) := by decide +kernel
theorem dX11_sumOf_209 : decode cX11_sumOf 209 = .ok (.lastore, 1) := by decide +kernel
theorem dX11_sumOf_210 : decode cX11_sumOf 210 = .ok (.aload_n 0, 1) := by decide +kernel
theorem dX11_sumOf_211 : decode cX11_sumOf 211 = .ok (.getfield 36, 3) := by decide +kernel
theorem dX11_sumOf_214 : decode cX11_sumOf 214 = .ok (.bipush 8, 2) := by decide +kernel
theorem dX11_sumOf_216 : decode cX11_sumOf 216 = .ok (.iload 4, 2) := by decide +kernel
theorem dX11_sumOf_218 : decode cX11_sumOf 218 = .ok (.i2l, 1) := by decide +kernel
theorem dX11_sumOf_219 : decode cX11_sumOf 219 = .ok (.lastore, 1) := by decide +kernel
theorem dX11_sumOf_220 : decode cX11_sumOf 220 = .ok (.aload_n 0, 1) := by decide +kernel
theorem dX11_sumOf_221 : decode cX11_sumOf 221 = .ok (.getfield 36, 3) := by decide +kernel
theorem dX11_sumOf_224 : decode cX11_sumOf 224 = .ok (.bipush 9, 2) := by decide +kernel
theorem dX11_sumOf_226 : decode cX11_sumOf 226 = .ok (.iload 5, 2) := by decide +kernel
theorem dX11_sumOf_228 : decode cX11_sumOf 228 = .ok (.i2l, 1) := by decide +kernel
theorem dX11_sumOf_229 : decode cX11_sumOf 229 = .ok (.lastore, 1) := by decide +kernel
theorem dX11_sumOf_230 : decode cX11_sumOf 230 = .ok (.aload_n 0, 1) := by decide +kernel
theorem dX11_sumOf_231 : decode cX11_sumOf 231 = .ok (.getfield 36, 3) := by decide +kernel
theorem dX11_sumOf_234 : decode cX11_sumOf 234 = .ok (.bipush 10, 2) := by decide +kernel
theorem dX11_sumOf_236 : decode cX11_sumOf 236 = .ok (.aload_n 0, 1) := by decide +kernel
theorem dX11_sumOf_237 : decode cX11_sumOf 237 = .ok (.getfield 39, 3) := by decide +kernel
theorem dX11_sumOf_240 : decode cX11_sumOf 240 = .ok (.bipush 10, 2) := by decide +kernel
theorem dX11_sumOf_242 : decode cX11_sumOf 242 = .ok (.iaload, 1) := by decide +kernel
theorem dX11_sumOf_243 : decode cX11_sumOf 243 = .ok (.i2l, 1) := by decide +kernel
theorem dX11_sumOf_244 : decode cX11_sumOf 244 = .ok (.lastore, 1) := by decide +kernel
theorem dX11_sumOf_245 : decode cX11_sumOf 245 = .ok (.aload_n 0, 1) := by decide +kernel
theorem dX11_sumOf_246 : decode cX11_sumOf 246 = .ok (.aload_n 0, 1) := by decide +kernel
theorem dX11_sumOf_247 : decode cX11_sumOf 247 = .ok (.getfield 42, 3) := by decide +kernel
theorem dX11_sumOf_250 : decode cX11_sumOf 250 = .ok (.invokevirtual 336, 3) := by decide +kernel
theorem dX11_sumOf_253 : decode cX11_sumOf 253 = .ok (.lreturn, 1) := by decide +kernel
theorem hd_X11_summedBy : yX11_summedBy.cls ≠ "java/lang/invoke/MethodHandle" ∧ yX11_summedBy.cls ≠ "java/lang/invoke/VarHandle" ∧ (parseMethodDescriptor yX11_summedBy.desc).map (fun d => d.parameters.length) = some 1 := ⟨by decide +kernel, by decide +kernel, by decide +kernel⟩
set_option maxHeartbeats 4000000 in
set_option maxRecDepth 100000 in
theorem v_sumOf (l : Launch) (D : va_G) (K : Nat → ClassId) (ad : Nat → Nat) (z : TS) (o : Ok z) (x1 : Int32) (bx1 : iv 0 4 x1) (x2 : Int32) (wf : WFc z) (hf : iv 0 5 (tI z 386 21)) : cL l yX11_sumOf cX11_sumOf 7 ({ frames := 4, cells := 0, slots := 0, locals := 92 }) D K ad z [.ref (ad 386), .int x1, .int x2] (fun r u => Ok u ∧ KQ z u) := by
  refine t_enterL (by decide) (Nat.le_of_ble_eq_true rfl) rfl rfl ?_
  intro p e s m args below meth c A R Q H locs ls E hfr hlo RET G hl
  have E : mE p s m meth c cX11_sumOf args 7 RX11 D K A := E
  have hl : lv_has ls 7 [(0, .ref (ad 386)), (1, .int x1), (2, .int x2)] := hl
  refine lv_iconst (v := 0) E.1 E.2.1 dX11_sumOf_0 (by decide) ?_
  refine lv_istore_n (lv' := [(3, .int 0), (0, .ref (ad 386)), (1, .int x1), (2, .int x2)]) E.1 E.2.1 dX11_sumOf_1 rfl hl (by decide) rfl (fun ls hl => ?_)
  refine lv_iconst (v := 0) E.1 E.2.1 dX11_sumOf_2 (by decide) ?_
  refine lv_istore (lv' := [(4, .int 0), (3, .int 0), (0, .ref (ad 386)), (1, .int x1), (2, .int x2)]) E.1 E.2.1 dX11_sumOf_3 hl (by decide) rfl (fun ls hl => ?_)
  refine lv_iconst (v := 0) E.1 E.2.1 dX11_sumOf_5 (by decide) ?_
  refine lv_istore (lv' := [(5, .int 0), (4, .int 0), (3, .int 0), (0, .ref (ad 386)), (1, .int x1), (2, .int x2)]) E.1 E.2.1 dX11_sumOf_6 hl (by decide) rfl (fun ls hl => ?_)
  have LOOP8 : ∀ n : Nat, ∀ (y1 : Int32) (y2 : Int32) (y3 : Int32) (H : Heap) (locs : List Loc) (ls : Array Slot), mG D A s H locs (wd K ad z) → iv 0 6 y1 → 6 < y1.toInt + (n : Int) → lv_has ls 7 [(5, .int y1), (4, .int y2), (3, .int y3), (0, .ref (ad 386)), (1, .int x1), (2, .int x2)] → W p l e R s m args below meth c H locs 0 0 Q (F0 m 8 ls []) := by
    intro n
    induction n with
    | zero =>
      intro y1 y2 y3 H locs ls G b8 m7 hl
      exact absurd m7 (by have := b8.1; have := b8.2; omega)
    | succ n ih8 =>
      intro y1 y2 y3 H locs ls G b8 m7 hl
      refine lv_iload E.1 E.2.1 dX11_sumOf_8 (lv_at hl 0 rfl) ?_
      refine lv_aload_n E.1 E.2.1 dX11_sumOf_10 rfl (lv_at hl 3 rfl) ?_
      refine t_get E G 11 20 (rfl : ro 386 = 11) (C := RX11) (T := TX11) (N := 37) rfl (by decide) (by decide) (by decide) mw_fl_11_39 (v := .ref (ad 396)) (fvl_o (n := 10) rfl) dX11_sumOf_11 ?_
      refine lv_iconst (v := 3) E.1 E.2.1 dX11_sumOf_14 (by decide) ?_
      refine t_iald E G 54 (rfl : ro 396 = 54) (by decide) (by decide) rfl (n := 127) rfl (by unfold vp_in; decide) dX11_sumOf_15 ?_
      refine lv_topi (fun v9 e10 => ?_)
      have b11 : iv 0 6 v9 := by rw [e10]; exact iv_mono (o.a 54 (rfl : ro 396 = 54) _) (by decide +kernel) (by decide +kernel)
      refine lv_icmp_ge (tgt := 70) E.1 E.2.1 dX11_sumOf_16 (by decide) (fun c12 => ?_) (fun c12 => ?_)
      · skip
        refine lv_iconst (v := 0) E.1 E.2.1 dX11_sumOf_70 (by decide) ?_
        refine lv_istore (lv' := [(5, .int 0), (4, .int y2), (3, .int y3), (0, .ref (ad 386)), (1, .int x1), (2, .int x2)]) E.1 E.2.1 dX11_sumOf_71 hl (by decide) rfl (fun ls hl => ?_)
        refine lv_iconst (v := 0) E.1 E.2.1 dX11_sumOf_73 (by decide) ?_
        refine lv_istore (lv' := [(6, .int 0), (5, .int 0), (4, .int y2), (3, .int y3), (0, .ref (ad 386)), (1, .int x1), (2, .int x2)]) E.1 E.2.1 dX11_sumOf_74 hl (by decide) rfl (fun ls hl => ?_)
        have LOOP76 : ∀ n : Nat, ∀ (y13 : Int32) (y14 : Int32) (H : Heap) (locs : List Loc) (ls : Array Slot), mG D A s H locs (wd K ad z) → iv 0 5 y13 → 5 < y13.toInt + (n : Int) → lv_has ls 7 [(6, .int y13), (5, .int y14), (4, .int y2), (3, .int y3), (0, .ref (ad 386)), (1, .int x1), (2, .int x2)] → W p l e R s m args below meth c H locs 0 0 Q (F0 m 76 ls []) := by
          intro n
          induction n with
          | zero =>
            intro y13 y14 H locs ls G b19 m18 hl
            exact absurd m18 (by have := b19.1; have := b19.2; omega)
          | succ n ih76 =>
            intro y13 y14 H locs ls G b19 m18 hl
            refine lv_iload E.1 E.2.1 dX11_sumOf_76 (lv_at hl 0 rfl) ?_
            refine lv_aload_n E.1 E.2.1 dX11_sumOf_78 rfl (lv_at hl 4 rfl) ?_
            refine t_get E G 11 20 (rfl : ro 386 = 11) (C := RX11) (T := TX11) (N := 37) rfl (by decide) (by decide) (by decide) mw_fl_11_39 (v := .ref (ad 396)) (fvl_o (n := 10) rfl) dX11_sumOf_79 ?_
            refine lv_iconst (v := 4) E.1 E.2.1 dX11_sumOf_82 (by decide) ?_
            refine t_iald E G 54 (rfl : ro 396 = 54) (by decide) (by decide) rfl (n := 127) rfl (by unfold vp_in; decide) dX11_sumOf_83 ?_
            refine lv_topi (fun v20 e21 => ?_)
            have b22 : iv 0 5 v20 := by rw [e21]; exact iv_mono (o.a 54 (rfl : ro 396 = 54) _) (by decide +kernel) (by decide +kernel)
            refine lv_icmp_ge (tgt := 119) E.1 E.2.1 dX11_sumOf_84 (by decide) (fun c23 => ?_) (fun c23 => ?_)
            · skip
              refine lv_aload_n E.1 E.2.1 dX11_sumOf_119 rfl (lv_at hl 4 rfl) ?_
              refine t_get E G 11 19 (rfl : ro 386 = 11) (C := RX11) (T := TX11) (N := 37) rfl (by decide) (by decide) (by decide) mw_fl_11_36 (v := .ref (ad 395)) (fvl_o (n := 9) rfl) dX11_sumOf_120 ?_
              refine lv_iconst (v := 0) E.1 E.2.1 dX11_sumOf_123 (by decide) ?_
              refine lv_iload_n E.1 E.2.1 dX11_sumOf_124 rfl (lv_at hl 5 rfl) ?_
              refine lv_i2l E.1 E.2.1 dX11_sumOf_125 rfl ?_
              refine lv_topl (fun v24 e25 => ?_)
              refine t_last E G 53 (rfl : ro 395 = 53) (by decide) (by decide) rfl (n := 11) rfl (by unfold vp_in; decide) dX11_sumOf_126 (fun H locs G => ?_)
              obtain ⟨zz26, G, oo27, kk28, h29⟩ : ∃ u : TS, mG D A s H locs (wd K ad u) ∧ Ok u ∧ KQ z u ∧ tI u 386 21 = (tI z 386 21) := ⟨_, G, ok_l o, KF.tr KF.rf (KF_l 53 (rfl : ro 395 = 53) (by decide)), rfl⟩
              refine lv_aload_n E.1 E.2.1 dX11_sumOf_127 rfl (lv_at hl 4 rfl) ?_
              refine t_get E G 11 19 (rfl : ro 386 = 11) (C := RX11) (T := TX11) (N := 37) rfl (by decide) (by decide) (by decide) mw_fl_11_36 (v := .ref (ad 395)) (fvl_o (n := 9) rfl) dX11_sumOf_128 ?_
              refine lv_iconst (v := 1) E.1 E.2.1 dX11_sumOf_131 (by decide) ?_
              refine lv_iload_n E.1 E.2.1 dX11_sumOf_132 rfl (lv_at hl 6 rfl) ?_
              refine lv_i2l E.1 E.2.1 dX11_sumOf_133 rfl ?_
              refine lv_topl (fun v30 e31 => ?_)
              refine t_last E G 53 (rfl : ro 395 = 53) (by decide) (by decide) rfl (n := 11) rfl (by unfold vp_in; decide) dX11_sumOf_134 (fun H locs G => ?_)
              obtain ⟨zz32, G, oo33, kk34, h35⟩ : ∃ u : TS, mG D A s H locs (wd K ad u) ∧ Ok u ∧ KQ z u ∧ tI u 386 21 = (tI z 386 21) := ⟨_, G, ok_l oo27, KF.tr kk28 (KF_l 53 (rfl : ro 395 = 53) (by decide)), h29⟩
              refine lv_aload_n E.1 E.2.1 dX11_sumOf_135 rfl (lv_at hl 4 rfl) ?_
              refine t_get E G 11 19 (rfl : ro 386 = 11) (C := RX11) (T := TX11) (N := 37) rfl (by decide) (by decide) (by decide) mw_fl_11_36 (v := .ref (ad 395)) (fvl_o (n := 9) rfl) dX11_sumOf_136 ?_
              refine lv_iconst (v := 2) E.1 E.2.1 dX11_sumOf_139 (by decide) ?_
              refine lv_aload_n E.1 E.2.1 dX11_sumOf_140 rfl (lv_at hl 4 rfl) ?_
              refine lv_iload_n E.1 E.2.1 dX11_sumOf_141 rfl (lv_at hl 5 rfl) ?_
              refine t_vi E G hl (v_cornerOf l D K ad zz32 oo33 x1 (iv_mono bx1 (by decide) (by decide))) 11 (rfl : ro 386 = 11) (by decide) rfl rfl 1 rfl mw_code_X11_cornerOf mw_ini_11 mw_ml_11_291 mw_inst_X11_cornerOf mw_sel_X11_cornerOf hd_X11_cornerOf ⟨Nat.le_trans (by decide) hfr, Nat.le_trans (by decide) hlo⟩ rfl rfl rfl (Nat.le_of_ble_eq_true rfl) dX11_sumOf_142 (fun r37 zz36 H locs hp38 G => ?_)
              obtain ⟨hz40, b39⟩ := hp38
              rw [hz40] at G
              refine lv_i2l E.1 E.2.1 dX11_sumOf_145 rfl ?_
              refine lv_topl (fun v41 e42 => ?_)
              refine t_last E G 53 (rfl : ro 395 = 53) (by decide) (by decide) rfl (n := 11) rfl (by unfold vp_in; decide) dX11_sumOf_146 (fun H locs G => ?_)
              obtain ⟨zz43, G, oo44, kk45, h46⟩ : ∃ u : TS, mG D A s H locs (wd K ad u) ∧ Ok u ∧ KQ z u ∧ tI u 386 21 = (tI z 386 21) := ⟨_, G, ok_l oo33, KF.tr kk34 (KF_l 53 (rfl : ro 395 = 53) (by decide)), h35⟩
              refine lv_aload_n E.1 E.2.1 dX11_sumOf_147 rfl (lv_at hl 4 rfl) ?_
              refine t_get E G 11 19 (rfl : ro 386 = 11) (C := RX11) (T := TX11) (N := 37) rfl (by decide) (by decide) (by decide) mw_fl_11_36 (v := .ref (ad 395)) (fvl_o (n := 9) rfl) dX11_sumOf_148 ?_
              refine lv_iconst (v := 3) E.1 E.2.1 dX11_sumOf_151 (by decide) ?_
              refine lv_aload_n E.1 E.2.1 dX11_sumOf_152 rfl (lv_at hl 4 rfl) ?_
              refine lv_iload_n E.1 E.2.1 dX11_sumOf_153 rfl (lv_at hl 5 rfl) ?_
              refine lv_iload_n E.1 E.2.1 dX11_sumOf_154 rfl (lv_at hl 6 rfl) ?_
              refine t_vi E G hl (v_homeFrom l D K ad zz43 oo44 x1 (iv_mono bx1 (by decide) (by decide)) x2) 11 (rfl : ro 386 = 11) (by decide) rfl rfl 2 rfl mw_code_X11_homeFrom mw_ini_11 mw_ml_11_333 mw_inst_X11_homeFrom mw_sel_X11_homeFrom hd_X11_homeFrom ⟨Nat.le_trans (by decide) hfr, Nat.le_trans (by decide) hlo⟩ rfl rfl rfl (Nat.le_of_ble_eq_true rfl) dX11_sumOf_155 (fun r48 zz47 H locs hp49 G => ?_)
              obtain ⟨hz51, b50⟩ := hp49
              rw [hz51] at G
              refine lv_i2l E.1 E.2.1 dX11_sumOf_158 rfl ?_
              refine lv_topl (fun v52 e53 => ?_)
              refine t_last E G 53 (rfl : ro 395 = 53) (by decide) (by decide) rfl (n := 11) rfl (by unfold vp_in; decide) dX11_sumOf_159 (fun H locs G => ?_)
              obtain ⟨zz54, G, oo55, kk56, h57⟩ : ∃ u : TS, mG D A s H locs (wd K ad u) ∧ Ok u ∧ KQ z u ∧ tI u 386 21 = (tI z 386 21) := ⟨_, G, ok_l oo44, KF.tr kk45 (KF_l 53 (rfl : ro 395 = 53) (by decide)), h46⟩
              refine lv_aload_n E.1 E.2.1 dX11_sumOf_160 rfl (lv_at hl 4 rfl) ?_
              refine t_get E G 11 19 (rfl : ro 386 = 11) (C := RX11) (T := TX11) (N := 37) rfl (by decide) (by decide) (by decide) mw_fl_11_36 (v := .ref (ad 395)) (fvl_o (n := 9) rfl) dX11_sumOf_161 ?_
              refine lv_iconst (v := 4) E.1 E.2.1 dX11_sumOf_164 (by decide) ?_
              refine lv_aload_n E.1 E.2.1 dX11_sumOf_165 rfl (lv_at hl 4 rfl) ?_
              refine t_get E G 11 20 (rfl : ro 386 = 11) (C := RX11) (T := TX11) (N := 37) rfl (by decide) (by decide) (by decide) mw_fl_11_39 (v := .ref (ad 396)) (fvl_o (n := 10) rfl) dX11_sumOf_166 ?_
              refine lv_bipush (v := 61) E.1 E.2.1 dX11_sumOf_169 (by decide) ?_
              refine lv_iload_n E.1 E.2.1 dX11_sumOf_171 rfl (lv_at hl 5 rfl) ?_
              refine lv_iadd E.1 E.2.1 dX11_sumOf_172 ?_
              refine lv_topi (fun v58 e59 => ?_)
              have b60 : iv 61 65 v58 := by rw [e59]; exact iv_add (iv_lit (lo := 61) (hi := 61) 61 (by decide) (by decide)) bx1 (by decide) (by decide) (by decide) (by decide)
              have l61 : v58.toInt = 61 + 1 * x1.toInt := (show v58.toInt = 61 + x1.toInt by rw [e59]; exact ti_cadd 61 (by decide) bx1 (by decide) (by decide)).trans (by omega)
              refine t_iald E G 54 (rfl : ro 396 = 54) (by decide) (by decide) rfl (n := 127) rfl (iv_vp b60 (by decide) (by decide)) dX11_sumOf_173 ?_
              refine lv_topi (fun v62 e63 => ?_)
              refine lv_i2l E.1 E.2.1 dX11_sumOf_174 rfl ?_
              refine lv_topl (fun v64 e65 => ?_)
              refine t_last E G 53 (rfl : ro 395 = 53) (by decide) (by decide) rfl (n := 11) rfl (by unfold vp_in; decide) dX11_sumOf_175 (fun H locs G => ?_)
              obtain ⟨zz66, G, oo67, kk68, h69⟩ : ∃ u : TS, mG D A s H locs (wd K ad u) ∧ Ok u ∧ KQ z u ∧ tI u 386 21 = (tI z 386 21) := ⟨_, G, ok_l oo55, KF.tr kk56 (KF_l 53 (rfl : ro 395 = 53) (by decide)), h57⟩
              refine lv_aload_n E.1 E.2.1 dX11_sumOf_176 rfl (lv_at hl 4 rfl) ?_
              refine t_get E G 11 19 (rfl : ro 386 = 11) (C := RX11) (T := TX11) (N := 37) rfl (by decide) (by decide) (by decide) mw_fl_11_36 (v := .ref (ad 395)) (fvl_o (n := 9) rfl) dX11_sumOf_177 ?_
              refine lv_iconst (v := 5) E.1 E.2.1 dX11_sumOf_180 (by decide) ?_
              refine lv_aload_n E.1 E.2.1 dX11_sumOf_181 rfl (lv_at hl 4 rfl) ?_
              refine lv_iload_n E.1 E.2.1 dX11_sumOf_182 rfl (lv_at hl 5 rfl) ?_
              refine t_vi E G hl (v_waryOf l D K ad zz66 oo67 x1 (iv_mono bx1 (by decide) (by decide))) 11 (rfl : ro 386 = 11) (by decide) rfl rfl 1 rfl mw_code_X11_waryOf mw_ini_11 mw_ml_11_320 mw_inst_X11_waryOf mw_sel_X11_waryOf hd_X11_waryOf ⟨Nat.le_trans (by decide) hfr, Nat.le_trans (by decide) hlo⟩ rfl rfl rfl (Nat.le_of_ble_eq_true rfl) dX11_sumOf_183 (fun r71 zz70 H locs hp72 G => ?_)
              have hz73 := hp72
              rw [hz73] at G
              refine lv_i2l E.1 E.2.1 dX11_sumOf_186 rfl ?_
              refine lv_topl (fun v74 e75 => ?_)
              refine t_last E G 53 (rfl : ro 395 = 53) (by decide) (by decide) rfl (n := 11) rfl (by unfold vp_in; decide) dX11_sumOf_187 (fun H locs G => ?_)
              obtain ⟨zz76, G, oo77, kk78, h79⟩ : ∃ u : TS, mG D A s H locs (wd K ad u) ∧ Ok u ∧ KQ z u ∧ tI u 386 21 = (tI z 386 21) := ⟨_, G, ok_l oo67, KF.tr kk68 (KF_l 53 (rfl : ro 395 = 53) (by decide)), h69⟩
              refine lv_aload_n E.1 E.2.1 dX11_sumOf_188 rfl (lv_at hl 4 rfl) ?_
              refine t_get E G 11 19 (rfl : ro 386 = 11) (C := RX11) (T := TX11) (N := 37) rfl (by decide) (by decide) (by decide) mw_fl_11_36 (v := .ref (ad 395)) (fvl_o (n := 9) rfl) dX11_sumOf_189 ?_
              refine lv_bipush (v := 6) E.1 E.2.1 dX11_sumOf_192 (by decide) ?_
              refine lv_aload_n E.1 E.2.1 dX11_sumOf_194 rfl (lv_at hl 4 rfl) ?_
              refine lv_iload_n E.1 E.2.1 dX11_sumOf_195 rfl (lv_at hl 5 rfl) ?_
              refine t_vi E G hl (v_chargeOf l D K ad zz76 oo77 x1 (iv_mono bx1 (by decide) (by decide))) 11 (rfl : ro 386 = 11) (by decide) rfl rfl 1 rfl mw_code_X11_chargeOf mw_ini_11 mw_ml_11_294 mw_inst_X11_chargeOf mw_sel_X11_chargeOf hd_X11_chargeOf ⟨Nat.le_trans (by decide) hfr, Nat.le_trans (by decide) hlo⟩ rfl rfl rfl (Nat.le_of_ble_eq_true rfl) dX11_sumOf_196 (fun r81 zz80 H locs hp82 G => ?_)
              have hz83 := hp82
              rw [hz83] at G
              refine lv_i2l E.1 E.2.1 dX11_sumOf_199 rfl ?_
              refine lv_topl (fun v84 e85 => ?_)
              refine t_last E G 53 (rfl : ro 395 = 53) (by decide) (by decide) rfl (n := 11) rfl (by unfold vp_in; decide) dX11_sumOf_200 (fun H locs G => ?_)
              obtain ⟨zz86, G, oo87, kk88, h89⟩ : ∃ u : TS, mG D A s H locs (wd K ad u) ∧ Ok u ∧ KQ z u ∧ tI u 386 21 = (tI z 386 21) := ⟨_, G, ok_l oo77, KF.tr kk78 (KF_l 53 (rfl : ro 395 = 53) (by decide)), h79⟩
              refine lv_aload_n E.1 E.2.1 dX11_sumOf_201 rfl (lv_at hl 4 rfl) ?_
              refine t_get E G 11 19 (rfl : ro 386 = 11) (C := RX11) (T := TX11) (N := 37) rfl (by decide) (by decide) (by decide) mw_fl_11_36 (v := .ref (ad 395)) (fvl_o (n := 9) rfl) dX11_sumOf_202 ?_
              refine lv_bipush (v := 7) E.1 E.2.1 dX11_sumOf_205 (by decide) ?_
              refine lv_iload_n E.1 E.2.1 dX11_sumOf_207 rfl (lv_at hl 3 rfl) ?_
              refine lv_i2l E.1 E.2.1 dX11_sumOf_208 rfl ?_
              refine lv_topl (fun v90 e91 => ?_)
              refine t_last E G 53 (rfl : ro 395 = 53) (by decide) (by decide) rfl (n := 11) rfl (by unfold vp_in; decide) dX11_sumOf_209 (fun H locs G => ?_)
              obtain ⟨zz92, G, oo93, kk94, h95⟩ : ∃ u : TS, mG D A s H locs (wd K ad u) ∧ Ok u ∧ KQ z u ∧ tI u 386 21 = (tI z 386 21) := ⟨_, G, ok_l oo87, KF.tr kk88 (KF_l 53 (rfl : ro 395 = 53) (by decide)), h89⟩
              refine lv_aload_n E.1 E.2.1 dX11_sumOf_210 rfl (lv_at hl 4 rfl) ?_
              refine t_get E G 11 19 (rfl : ro 386 = 11) (C := RX11) (T := TX11) (N := 37) rfl (by decide) (by decide) (by decide) mw_fl_11_36 (v := .ref (ad 395)) (fvl_o (n := 9) rfl) dX11_sumOf_211 ?_
              refine lv_bipush (v := 8) E.1 E.2.1 dX11_sumOf_214 (by decide) ?_
              refine lv_iload E.1 E.2.1 dX11_sumOf_216 (lv_at hl 2 rfl) ?_
              refine lv_i2l E.1 E.2.1 dX11_sumOf_218 rfl ?_
              refine lv_topl (fun v96 e97 => ?_)
              refine t_last E G 53 (rfl : ro 395 = 53) (by decide) (by decide) rfl (n := 11) rfl (by unfold vp_in; decide) dX11_sumOf_219 (fun H locs G => ?_)
              obtain ⟨zz98, G, oo99, kk100, h101⟩ : ∃ u : TS, mG D A s H locs (wd K ad u) ∧ Ok u ∧ KQ z u ∧ tI u 386 21 = (tI z 386 21) := ⟨_, G, ok_l oo93, KF.tr kk94 (KF_l 53 (rfl : ro 395 = 53) (by decide)), h95⟩
              refine lv_aload_n E.1 E.2.1 dX11_sumOf_220 rfl (lv_at hl 4 rfl) ?_
              refine t_get E G 11 19 (rfl : ro 386 = 11) (C := RX11) (T := TX11) (N := 37) rfl (by decide) (by decide) (by decide) mw_fl_11_36 (v := .ref (ad 395)) (fvl_o (n := 9) rfl) dX11_sumOf_221 ?_
              refine lv_bipush (v := 9) E.1 E.2.1 dX11_sumOf_224 (by decide) ?_
              refine lv_iload E.1 E.2.1 dX11_sumOf_226 (lv_at hl 1 rfl) ?_
              refine lv_i2l E.1 E.2.1 dX11_sumOf_228 rfl ?_
              refine lv_topl (fun v102 e103 => ?_)
              refine t_last E G 53 (rfl : ro 395 = 53) (by decide) (by decide) rfl (n := 11) rfl (by unfold vp_in; decide) dX11_sumOf_229 (fun H locs G => ?_)
              obtain ⟨zz104, G, oo105, kk106, h107⟩ : ∃ u : TS, mG D A s H locs (wd K ad u) ∧ Ok u ∧ KQ z u ∧ tI u 386 21 = (tI z 386 21) := ⟨_, G, ok_l oo99, KF.tr kk100 (KF_l 53 (rfl : ro 395 = 53) (by decide)), h101⟩
              refine lv_aload_n E.1 E.2.1 dX11_sumOf_230 rfl (lv_at hl 4 rfl) ?_
              refine t_get E G 11 19 (rfl : ro 386 = 11) (C := RX11) (T := TX11) (N := 37) rfl (by decide) (by decide) (by decide) mw_fl_11_36 (v := .ref (ad 395)) (fvl_o (n := 9) rfl) dX11_sumOf_231 ?_
              refine lv_bipush (v := 10) E.1 E.2.1 dX11_sumOf_234 (by decide) ?_
              refine lv_aload_n E.1 E.2.1 dX11_sumOf_236 rfl (lv_at hl 4 rfl) ?_
              refine t_get E G 11 20 (rfl : ro 386 = 11) (C := RX11) (T := TX11) (N := 37) rfl (by decide) (by decide) (by decide) mw_fl_11_39 (v := .ref (ad 396)) (fvl_o (n := 10) rfl) dX11_sumOf_237 ?_
              refine lv_bipush (v := 10) E.1 E.2.1 dX11_sumOf_240 (by decide) ?_
              refine t_iald E G 54 (rfl : ro 396 = 54) (by decide) (by decide) rfl (n := 127) rfl (by unfold vp_in; decide) dX11_sumOf_242 ?_
              refine lv_topi (fun v108 e109 => ?_)
              refine lv_i2l E.1 E.2.1 dX11_sumOf_243 rfl ?_
              refine lv_topl (fun v110 e111 => ?_)
              refine t_last E G 53 (rfl : ro 395 = 53) (by decide) (by decide) rfl (n := 11) rfl (by unfold vp_in; decide) dX11_sumOf_244 (fun H locs G => ?_)
              obtain ⟨zz112, G, oo113, kk114, h115⟩ : ∃ u : TS, mG D A s H locs (wd K ad u) ∧ Ok u ∧ KQ z u ∧ tI u 386 21 = (tI z 386 21) := ⟨_, G, ok_l oo105, KF.tr kk106 (KF_l 53 (rfl : ro 395 = 53) (by decide)), h107⟩
              refine lv_aload_n E.1 E.2.1 dX11_sumOf_245 rfl (lv_at hl 4 rfl) ?_
              refine lv_aload_n E.1 E.2.1 dX11_sumOf_246 rfl (lv_at hl 4 rfl) ?_
              refine t_get E G 11 21 (rfl : ro 386 = 11) (C := RX11) (T := TX11) (N := 37) rfl (by decide) (by decide) (by decide) mw_fl_11_42 (fvl_i rfl) dX11_sumOf_247 ?_
              refine lv_topi (fun v116 e117 => ?_)
              have b118 : iv (-1) 5 v116 := by rw [e117]; exact oo113.i 11 21 (rfl : ro 386 = 11)
              have b119 : iv 0 5 v116 := by rw [(e117.trans h115)]; exact hf
              refine t_vl E G hl (v_summedBy l D K ad zz112 oo113 v116 (iv_mono b119 (by decide) (by decide)) (wf_ka wf kk114.2.1 rfl rfl rfl rfl)) 11 (rfl : ro 386 = 11) (by decide) rfl rfl 1 rfl mw_code_X11_summedBy mw_ini_11 mw_ml_11_336 mw_inst_X11_summedBy mw_sel_X11_summedBy hd_X11_summedBy ⟨Nat.le_trans (by decide) hfr, Nat.le_trans (by decide) hlo⟩ rfl rfl rfl (Nat.le_of_ble_eq_true rfl) dX11_sumOf_250 (fun r121 zz120 H locs hp122 G => ?_)
              obtain ⟨oo123, kk124⟩ := hp122
              have kk125 : KQ z zz120 := KF.tr kk114 kk124
              have h126 : tI zz120 386 21 = v116 := KF.i kk124 11 (rfl : ro 386 = 11) (by decide) e117.symm
              exact RET G ⟨oo123, kk125⟩ dX11_sumOf_253
            · skip
              have b127 : iv 0 4 y13 := lt_l (Int32.not_le.mp c23) b19 b22 (by decide)
              have b128 : iv 1 5 v20 := lt_r (Int32.not_le.mp c23) b19 b22 (by decide)
              refine lv_iload E.1 E.2.1 dX11_sumOf_87 (lv_at hl 1 rfl) ?_
              refine lv_iload E.1 E.2.1 dX11_sumOf_89 (lv_at hl 0 rfl) ?_
              refine lv_iload_n E.1 E.2.1 dX11_sumOf_91 rfl (lv_at hl 5 rfl) ?_
              refine lv_icmp_eq (tgt := 109) E.1 E.2.1 dX11_sumOf_92 (by decide) (fun c129 => ?_) (fun c129 => ?_)
              · skip
                refine lv_iconst (v := 0) E.1 E.2.1 dX11_sumOf_109 (by decide) ?_
                refine lv_iadd E.1 E.2.1 dX11_sumOf_110 ?_
                refine lv_topi (fun v130 e131 => ?_)
                have l132 : v130.toInt = 0 + 1 * y14.toInt := (show v130.toInt = y14.toInt + 0 by rw [e131]; exact ti_addc 0 (by decide) (iv_full y14) (by decide) (by decide)).trans (by omega)
                refine lv_istore (lv' := [(5, .int v130), (6, .int y13), (4, .int y2), (3, .int y3), (0, .ref (ad 386)), (1, .int x1), (2, .int x2)]) E.1 E.2.1 dX11_sumOf_111 hl (by decide) rfl (fun ls hl => ?_)
                obtain ⟨v133, e134⟩ : ∃ w : Int32, w = y13 + (1 : Int32) := ⟨_, rfl⟩
                refine lv_iinc (v := v133) (lv' := [(6, .int v133), (5, .int v130), (4, .int y2), (3, .int y3), (0, .ref (ad 386)), (1, .int x1), (2, .int x2)]) E.1 E.2.1 dX11_sumOf_113 hl (k := 1) rfl (by rw [e134]; rfl) (by decide) rfl (fun ls hl => ?_)
                have b135 : iv 1 5 v133 := by rw [e134]; exact iv_add b127 (iv_lit (lo := 1) (hi := 1) 1 (by decide) (by decide)) (by decide) (by decide) (by decide) (by decide)
                have t136 : v133.toInt = y13.toInt + 1 := by rw [e134]; exact ti_addc 1 (by decide) b127 (by decide) (by decide)
                refine lv_goto (tgt := 76) E.1 E.2.1 dX11_sumOf_116 (by decide) ?_
                exact ih76 v133 v130 H locs ls G (iv_mono b135 (by decide) (by decide)) (by have := t136; have := m18; omega) (lv_sub hl [0, 1, 2, 3, 4, 5, 6] rfl)
              · skip
                refine lv_aload_n E.1 E.2.1 dX11_sumOf_95 rfl (lv_at hl 4 rfl) ?_
                refine lv_iload E.1 E.2.1 dX11_sumOf_96 (lv_at hl 0 rfl) ?_
                refine t_vi E G hl (v_cornerOf l D K ad z o y13 (iv_mono b127 (by decide) (by decide))) 11 (rfl : ro 386 = 11) (by decide) rfl rfl 1 rfl mw_code_X11_cornerOf mw_ini_11 mw_ml_11_291 mw_inst_X11_cornerOf mw_sel_X11_cornerOf hd_X11_cornerOf ⟨Nat.le_trans (by decide) hfr, Nat.le_trans (by decide) hlo⟩ rfl rfl rfl (Nat.le_of_ble_eq_true rfl) dX11_sumOf_98 (fun r138 zz137 H locs hp139 G => ?_)
                obtain ⟨hz141, b140⟩ := hp139
                rw [hz141] at G
                refine lv_iload_n E.1 E.2.1 dX11_sumOf_101 rfl (lv_at hl 6 rfl) ?_
                refine lv_icmp_ne (tgt := 109) E.1 E.2.1 dX11_sumOf_102 (by decide) (fun c142 => ?_) (fun c142 => ?_)
                · skip
                  refine lv_iconst (v := 0) E.1 E.2.1 dX11_sumOf_109 (by decide) ?_
                  refine lv_iadd E.1 E.2.1 dX11_sumOf_110 ?_
                  refine lv_topi (fun v143 e144 => ?_)
                  have l145 : v143.toInt = 0 + 1 * y14.toInt := (show v143.toInt = y14.toInt + 0 by rw [e144]; exact ti_addc 0 (by decide) (iv_full y14) (by decide) (by decide)).trans (by omega)
                  refine lv_istore (lv' := [(5, .int v143), (6, .int y13), (4, .int y2), (3, .int y3), (0, .ref (ad 386)), (1, .int x1), (2, .int x2)]) E.1 E.2.1 dX11_sumOf_111 hl (by decide) rfl (fun ls hl => ?_)
                  obtain ⟨v146, e147⟩ : ∃ w : Int32, w = y13 + (1 : Int32) := ⟨_, rfl⟩
                  refine lv_iinc (v := v146) (lv' := [(6, .int v146), (5, .int v143), (4, .int y2), (3, .int y3), (0, .ref (ad 386)), (1, .int x1), (2, .int x2)]) E.1 E.2.1 dX11_sumOf_113 hl (k := 1) rfl (by rw [e147]; rfl) (by decide) rfl (fun ls hl => ?_)
                  have b148 : iv 1 5 v146 := by rw [e147]; exact iv_add b127 (iv_lit (lo := 1) (hi := 1) 1 (by decide) (by decide)) (by decide) (by decide) (by decide) (by decide)
                  have t149 : v146.toInt = y13.toInt + 1 := by rw [e147]; exact ti_addc 1 (by decide) b127 (by decide) (by decide)
                  refine lv_goto (tgt := 76) E.1 E.2.1 dX11_sumOf_116 (by decide) ?_
                  exact ih76 v146 v143 H locs ls G (iv_mono b148 (by decide) (by decide)) (by have := t149; have := m18; omega) (lv_sub hl [0, 1, 2, 3, 4, 5, 6] rfl)
                · skip
                  refine lv_iconst (v := 1) E.1 E.2.1 dX11_sumOf_105 (by decide) ?_
                  refine lv_goto (tgt := 110) E.1 E.2.1 dX11_sumOf_106 (by decide) ?_
                  refine lv_iadd E.1 E.2.1 dX11_sumOf_110 ?_
                  refine lv_topi (fun v150 e151 => ?_)
                  refine lv_istore (lv' := [(5, .int v150), (6, .int y13), (4, .int y2), (3, .int y3), (0, .ref (ad 386)), (1, .int x1), (2, .int x2)]) E.1 E.2.1 dX11_sumOf_111 hl (by decide) rfl (fun ls hl => ?_)
                  obtain ⟨v152, e153⟩ : ∃ w : Int32, w = y13 + (1 : Int32) := ⟨_, rfl⟩
                  refine lv_iinc (v := v152) (lv' := [(6, .int v152), (5, .int v150), (4, .int y2), (3, .int y3), (0, .ref (ad 386)), (1, .int x1), (2, .int x2)]) E.1 E.2.1 dX11_sumOf_113 hl (k := 1) rfl (by rw [e153]; rfl) (by decide) rfl (fun ls hl => ?_)
                  have b154 : iv 1 5 v152 := by rw [e153]; exact iv_add b127 (iv_lit (lo := 1) (hi := 1) 1 (by decide) (by decide)) (by decide) (by decide) (by decide) (by decide)
                  have t155 : v152.toInt = y13.toInt + 1 := by rw [e153]; exact ti_addc 1 (by decide) b127 (by decide) (by decide)
                  refine lv_goto (tgt := 76) E.1 E.2.1 dX11_sumOf_116 (by decide) ?_
                  exact ih76 v152 v150 H locs ls G (iv_mono b154 (by decide) (by decide)) (by have := t155; have := m18; omega) (lv_sub hl [0, 1, 2, 3, 4, 5, 6] rfl)
        exact LOOP76 6 0 0 H locs ls G (iv_mono (iv_lit (lo := 0) (hi := 0) 0 (by decide) (by decide)) (by decide) (by decide)) (by have := (iv_lit (lo := 0) (hi := 0) 0 (by decide) (by decide)).1; omega) (lv_sub hl [0, 1, 2, 3, 4, 5, 6] rfl)
      · skip
        have b156 : iv 0 5 y1 := lt_l (Int32.not_le.mp c12) b8 b11 (by decide)
        have b157 : iv 1 6 v9 := lt_r (Int32.not_le.mp c12) b8 b11 (by decide)
        refine lv_aload_n E.1 E.2.1 dX11_sumOf_19 rfl (lv_at hl 3 rfl) ?_
        refine lv_iload E.1 E.2.1 dX11_sumOf_20 (lv_at hl 0 rfl) ?_
        refine t_vi E G hl (v_isLaid l D K ad z o y1) 11 (rfl : ro 386 = 11) (by decide) rfl rfl 1 rfl mw_code_X11_isLaid mw_ini_11 mw_ml_11_288 mw_inst_X11_isLaid mw_sel_X11_isLaid hd_X11_isLaid ⟨Nat.le_trans (by decide) hfr, Nat.le_trans (by decide) hlo⟩ rfl rfl rfl (Nat.le_of_ble_eq_true rfl) dX11_sumOf_22 (fun r159 zz158 H locs hp160 G => ?_)
        obtain ⟨hz163, b161, h162⟩ := hp160
        rw [hz163] at G
        refine lv_if_eq (tgt := 64) E.1 E.2.1 dX11_sumOf_25 (by decide) (fun c164 => ?_) (fun c164 => ?_)
        · skip
          have b165 : iv 0 0 r159 := iv_eq c164 (iv_lit (lo := 0) (hi := 0) 0 (by decide) (by decide))
          obtain ⟨v166, e167⟩ : ∃ w : Int32, w = y1 + (1 : Int32) := ⟨_, rfl⟩
          refine lv_iinc (v := v166) (lv' := [(5, .int v166), (4, .int y2), (3, .int y3), (0, .ref (ad 386)), (1, .int x1), (2, .int x2)]) E.1 E.2.1 dX11_sumOf_64 hl (k := 0) rfl (by rw [e167]; rfl) (by decide) rfl (fun ls hl => ?_)
          have b168 : iv 1 6 v166 := by rw [e167]; exact iv_add b156 (iv_lit (lo := 1) (hi := 1) 1 (by decide) (by decide)) (by decide) (by decide) (by decide) (by decide)
          have t169 : v166.toInt = y1.toInt + 1 := by rw [e167]; exact ti_addc 1 (by decide) b156 (by decide) (by decide)
          refine lv_goto (tgt := 8) E.1 E.2.1 dX11_sumOf_67 (by decide) ?_
          exact ih8 v166 y2 y3 H locs ls G (iv_mono b168 (by decide) (by decide)) (by have := t169; have := m7; omega) (lv_sub hl [0, 1, 2, 3, 4, 5] rfl)
        · skip
          have b170 : iv 1 1 r159 := ne_lo c164 b161 (by decide) (by decide)
          refine lv_aload_n E.1 E.2.1 dX11_sumOf_28 rfl (lv_at hl 3 rfl) ?_
          refine lv_iload E.1 E.2.1 dX11_sumOf_29 (lv_at hl 0 rfl) ?_
          refine t_vi E G hl (v_lureAt l D K ad z o y1 (iv_mono b156 (by decide) (by decide))) 11 (rfl : ro 386 = 11) (by decide) rfl rfl 1 rfl mw_code_X11_lureAt mw_ini_11 mw_ml_11_311 mw_inst_X11_lureAt mw_sel_X11_lureAt hd_X11_lureAt ⟨Nat.le_trans (by decide) hfr, Nat.le_trans (by decide) hlo⟩ rfl rfl rfl (Nat.le_of_ble_eq_true rfl) dX11_sumOf_31 (fun r172 zz171 H locs hp173 G => ?_)
          have hz174 := hp173
          rw [hz174] at G
          refine lv_iload_n E.1 E.2.1 dX11_sumOf_34 rfl (lv_at hl 5 rfl) ?_
          refine lv_icmp_eq (tgt := 41) E.1 E.2.1 dX11_sumOf_35 (by decide) (fun c175 => ?_) (fun c175 => ?_)
          · skip
            obtain ⟨v176, e177⟩ : ∃ w : Int32, w = y3 + (1 : Int32) := ⟨_, rfl⟩
            refine lv_iinc (v := v176) (lv' := [(3, .int v176), (5, .int y1), (4, .int y2), (0, .ref (ad 386)), (1, .int x1), (2, .int x2)]) E.1 E.2.1 dX11_sumOf_41 hl (k := 2) rfl (by rw [e177]; rfl) (by decide) rfl (fun ls hl => ?_)
            refine lv_iload E.1 E.2.1 dX11_sumOf_44 (lv_at hl 2 rfl) ?_
            refine lv_aload_n E.1 E.2.1 dX11_sumOf_46 rfl (lv_at hl 3 rfl) ?_
            refine lv_iload E.1 E.2.1 dX11_sumOf_47 (lv_at hl 1 rfl) ?_
            refine lv_iload_n E.1 E.2.1 dX11_sumOf_49 rfl (lv_at hl 4 rfl) ?_
            refine t_vi E G hl (v_wouldHave l D K ad z o y1 (iv_mono b156 (by decide) (by decide)) x1 (iv_mono bx1 (by decide) (by decide))) 11 (rfl : ro 386 = 11) (by decide) rfl rfl 2 rfl mw_code_X11_wouldHave mw_ini_11 mw_ml_11_330 mw_inst_X11_wouldHave mw_sel_X11_wouldHave hd_X11_wouldHave ⟨Nat.le_trans (by decide) hfr, Nat.le_trans (by decide) hlo⟩ rfl rfl rfl (Nat.le_of_ble_eq_true rfl) dX11_sumOf_50 (fun r179 zz178 H locs hp180 G => ?_)
            obtain ⟨hz182, b181⟩ := hp180
            rw [hz182] at G
            refine lv_if_eq (tgt := 60) E.1 E.2.1 dX11_sumOf_53 (by decide) (fun c183 => ?_) (fun c183 => ?_)
            · skip
              have b184 : iv 0 0 r179 := iv_eq c183 (iv_lit (lo := 0) (hi := 0) 0 (by decide) (by decide))
              refine lv_iconst (v := 0) E.1 E.2.1 dX11_sumOf_60 (by decide) ?_
              refine lv_iadd E.1 E.2.1 dX11_sumOf_61 ?_
              refine lv_topi (fun v185 e186 => ?_)
              have l187 : v185.toInt = 0 + 1 * y2.toInt := (show v185.toInt = y2.toInt + 0 by rw [e186]; exact ti_addc 0 (by decide) (iv_full y2) (by decide) (by decide)).trans (by omega)
              refine lv_istore (lv' := [(4, .int v185), (3, .int v176), (5, .int y1), (0, .ref (ad 386)), (1, .int x1), (2, .int x2)]) E.1 E.2.1 dX11_sumOf_62 hl (by decide) rfl (fun ls hl => ?_)
              obtain ⟨v188, e189⟩ : ∃ w : Int32, w = y1 + (1 : Int32) := ⟨_, rfl⟩
              refine lv_iinc (v := v188) (lv' := [(5, .int v188), (4, .int v185), (3, .int v176), (0, .ref (ad 386)), (1, .int x1), (2, .int x2)]) E.1 E.2.1 dX11_sumOf_64 hl (k := 2) rfl (by rw [e189]; rfl) (by decide) rfl (fun ls hl => ?_)
              have b190 : iv 1 6 v188 := by rw [e189]; exact iv_add b156 (iv_lit (lo := 1) (hi := 1) 1 (by decide) (by decide)) (by decide) (by decide) (by decide) (by decide)
              have t191 : v188.toInt = y1.toInt + 1 := by rw [e189]; exact ti_addc 1 (by decide) b156 (by decide) (by decide)
              refine lv_goto (tgt := 8) E.1 E.2.1 dX11_sumOf_67 (by decide) ?_
              exact ih8 v188 v185 v176 H locs ls G (iv_mono b190 (by decide) (by decide)) (by have := t191; have := m7; omega) (lv_sub hl [0, 1, 2, 3, 4, 5] rfl)
            · skip
              have b192 : iv 1 1 r179 := ne_lo c183 b181 (by decide) (by decide)
              refine lv_iconst (v := 1) E.1 E.2.1 dX11_sumOf_56 (by decide) ?_
              refine lv_goto (tgt := 61) E.1 E.2.1 dX11_sumOf_57 (by decide) ?_
              refine lv_iadd E.1 E.2.1 dX11_sumOf_61 ?_
              refine lv_topi (fun v193 e194 => ?_)
              refine lv_istore (lv' := [(4, .int v193), (3, .int v176), (5, .int y1), (0, .ref (ad 386)), (1, .int x1), (2, .int x2)]) E.1 E.2.1 dX11_sumOf_62 hl (by decide) rfl (fun ls hl => ?_)
              obtain ⟨v195, e196⟩ : ∃ w : Int32, w = y1 + (1 : Int32) := ⟨_, rfl⟩
              refine lv_iinc (v := v195) (lv' := [(5, .int v195), (4, .int v193), (3, .int v176), (0, .ref (ad 386)), (1, .int x1), (2, .int x2)]) E.1 E.2.1 dX11_sumOf_64 hl (k := 2) rfl (by rw [e196]; rfl) (by decide) rfl (fun ls hl => ?_)
              have b197 : iv 1 6 v195 := by rw [e196]; exact iv_add b156 (iv_lit (lo := 1) (hi := 1) 1 (by decide) (by decide)) (by decide) (by decide) (by decide) (by decide)
              have t198 : v195.toInt = y1.toInt + 1 := by rw [e196]; exact ti_addc 1 (by decide) b156 (by decide) (by decide)
              refine lv_goto (tgt := 8) E.1 E.2.1 dX11_sumOf_67 (by decide) ?_
              exact ih8 v195 v193 v176 H locs ls G (iv_mono b197 (by decide) (by decide)) (by have := t198; have := m7; omega) (lv_sub hl [0, 1, 2, 3, 4, 5] rfl)
          · skip
            refine lv_goto (tgt := 64) E.1 E.2.1 dX11_sumOf_38 (by decide) ?_
            obtain ⟨v199, e200⟩ : ∃ w : Int32, w = y1 + (1 : Int32) := ⟨_, rfl⟩
            refine lv_iinc (v := v199) (lv' := [(5, .int v199), (4, .int y2), (3, .int y3), (0, .ref (ad 386)), (1, .int x1), (2, .int x2)]) E.1 E.2.1 dX11_sumOf_64 hl (k := 0) rfl (by rw [e200]; rfl) (by decide) rfl (fun ls hl => ?_)
            have b201 : iv 1 6 v199 := by rw [e200]; exact iv_add b156 (iv_lit (lo := 1) (hi := 1) 1 (by decide) (by decide)) (by decide) (by decide) (by decide) (by decide)
            have t202 : v199.toInt = y1.toInt + 1 := by rw [e200]; exact ti_addc 1 (by decide) b156 (by decide) (by decide)
            refine lv_goto (tgt := 8) E.1 E.2.1 dX11_sumOf_67 (by decide) ?_
            exact ih8 v199 y2 y3 H locs ls G (iv_mono b201 (by decide) (by decide)) (by have := t202; have := m7; omega) (lv_sub hl [0, 1, 2, 3, 4, 5] rfl)
  exact LOOP8 7 0 0 0 H locs ls G (iv_mono (iv_lit (lo := 0) (hi := 0) 0 (by decide) (by decide)) (by decide) (by decide)) (by have := (iv_lit (lo := 0) (hi := 0) 0 (by decide) (by decide)).1; omega) (lv_sub hl [0, 1, 2, 3, 4, 5] rfl)
