theorem mw_ao_2 : (Cond.arrayOver (.object "LureTown$Moment") : Cond) ∈ cw := cw_of (List.mem_append_right _ (List.mem_append_right _ (List.mem_append_left _ (List.mem_of_getElem? (i := 72) (by decide +kernel))))) (by decide +kernel)
theorem mw_ao_4 : (Cond.arrayOver (.object "LureTown$Rule") : Cond) ∈ cw := cw_of (List.mem_append_right _ (List.mem_append_right _ (List.mem_append_left _ (List.mem_of_getElem? (i := 19) (by decide +kernel))))) (by decide +kernel)
theorem mw_cl_10_16 : (Cond.classLink RX10 16 RX9 : Cond) ∈ cw := cw_of (List.mem_append_right _ (List.mem_append_left _ (List.mem_of_getElem? (i := 66) (by decide +kernel)))) (by decide +kernel)
theorem mw_cl_10_23 : (Cond.classLink RX10 23 RX5 : Cond) ∈ cw := cw_of (List.mem_append_right _ (List.mem_append_left _ (List.mem_of_getElem? (i := 192) (by decide +kernel)))) (by decide +kernel)
theorem mw_cl_10_30 : (Cond.classLink RX10 30 RX8 : Cond) ∈ cw := cw_of (List.mem_append_right _ (List.mem_append_right _ (List.mem_append_left _ (List.mem_of_getElem? (i := 16) (by decide +kernel))))) (by decide +kernel)
theorem mw_cl_10_37 : (Cond.classLink RX10 37 RX4 : Cond) ∈ cw := cw_of (List.mem_append_right _ (List.mem_append_right _ (List.mem_append_left _ (List.mem_of_getElem? (i := 18) (by decide +kernel))))) (by decide +kernel)
theorem mw_cl_10_52 : (Cond.classLink RX10 52 RX2 : Cond) ∈ cw := cw_of (List.mem_append_right _ (List.mem_append_right _ (List.mem_append_left _ (List.mem_of_getElem? (i := 21) (by decide +kernel))))) (by decide +kernel)
theorem mw_cl_10_66 : (Cond.classLink RX10 66 RX0 : Cond) ∈ cw := cw_of (List.mem_append_right _ (List.mem_append_right _ (List.mem_append_left _ (List.mem_of_getElem? (i := 73) (by decide +kernel))))) (by decide +kernel)
theorem mw_cl_10_7 : (Cond.classLink RX10 7 RX7 : Cond) ∈ cw := cw_of (List.mem_append_right _ (List.mem_append_left _ (List.mem_of_getElem? (i := 29) (by decide +kernel)))) (by decide +kernel)
theorem mw_cl_10_73 : (Cond.classLink RX10 73 RX1 : Cond) ∈ cw := cw_of (List.mem_append_right _ (List.mem_append_right _ (List.mem_append_left _ (List.mem_of_getElem? (i := 93) (by decide +kernel))))) (by decide +kernel)
theorem mw_cl_10_80 : (Cond.classLink RX10 80 RX6 : Cond) ∈ cw := cw_of (List.mem_append_right _ (List.mem_append_right _ (List.mem_append_left _ (List.mem_of_getElem? (i := 126) (by decide +kernel))))) (by decide +kernel)
theorem mw_code_X0_init : (Cond.code yX0_init cX0_init 2 none : Cond) ∈ cw := cw_of (List.mem_append_right _ (List.mem_append_right _ (List.mem_append_left _ (List.mem_of_getElem? (i := 77) rfl)))) (by decide +kernel)
theorem mw_code_X1_init : (Cond.code yX1_init cX1_init 1 none : Cond) ∈ cw := cw_of (List.mem_append_right _ (List.mem_append_right _ (List.mem_append_left _ (List.mem_of_getElem? (i := 97) rfl)))) (by decide +kernel)
theorem mw_code_X2_init : (Cond.code yX2_init cX2_init 1 none : Cond) ∈ cw := cw_of (List.mem_append_right _ (List.mem_append_right _ (List.mem_append_left _ (List.mem_of_getElem? (i := 25) rfl)))) (by decide +kernel)
theorem mw_code_X5_init : (Cond.code yX5_init cX5_init 1 none : Cond) ∈ cw := cw_of (List.mem_append_right _ (List.mem_append_left _ (List.mem_of_getElem? (i := 196) rfl))) (by decide +kernel)
theorem mw_code_X9_init : (Cond.code yX9_init cX9_init 1 none : Cond) ∈ cw := cw_of (List.mem_append_right _ (List.mem_append_left _ (List.mem_of_getElem? (i := 70) rfl))) (by decide +kernel)
theorem mw_inst_X0_init : (Cond.instanceMethod yX0_init : Cond) ∈ cw := cw_of (List.mem_append_right _ (List.mem_append_right _ (List.mem_append_left _ (List.mem_of_getElem? (i := 76) (by decide +kernel))))) (by decide +kernel)
theorem mw_inst_X1_init : (Cond.instanceMethod yX1_init : Cond) ∈ cw := cw_of (List.mem_append_right _ (List.mem_append_right _ (List.mem_append_left _ (List.mem_of_getElem? (i := 96) (by decide +kernel))))) (by decide +kernel)
theorem mw_inst_X2_init : (Cond.instanceMethod yX2_init : Cond) ∈ cw := cw_of (List.mem_append_right _ (List.mem_append_right _ (List.mem_append_left _ (List.mem_of_getElem? (i := 24) (by decide +kernel))))) (by decide +kernel)
theorem mw_inst_X5_init : (Cond.instanceMethod yX5_init : Cond) ∈ cw := cw_of (List.mem_append_right _ (List.mem_append_left _ (List.mem_of_getElem? (i := 195) (by decide +kernel)))) (by decide +kernel)
theorem mw_inst_X9_init : (Cond.instanceMethod yX9_init : Cond) ∈ cw := cw_of (List.mem_append_right _ (List.mem_append_left _ (List.mem_of_getElem? (i := 69) (by decide +kernel)))) (by decide +kernel)
theorem mw_insta_0 : (Cond.instantiable RX0 3 : Cond) ∈ cw := cw_of (List.mem_append_right _ (List.mem_append_right _ (List.mem_append_left _ (List.mem_of_getElem? (i := 74) (by decide +kernel))))) (by decide +kernel)
theorem mw_insta_1 : (Cond.instantiable RX1 6 : Cond) ∈ cw := cw_of (List.mem_append_right _ (List.mem_append_right _ (List.mem_append_left _ (List.mem_of_getElem? (i := 94) (by decide +kernel))))) (by decide +kernel)
theorem mw_insta_2 : (Cond.instantiable RX2 5 : Cond) ∈ cw := cw_of (List.mem_append_right _ (List.mem_append_right _ (List.mem_append_left _ (List.mem_of_getElem? (i := 22) (by decide +kernel))))) (by decide +kernel)
theorem mw_insta_5 : (Cond.instantiable RX5 9 : Cond) ∈ cw := cw_of (List.mem_append_right _ (List.mem_append_left _ (List.mem_of_getElem? (i := 193) (by decide +kernel)))) (by decide +kernel)
theorem mw_insta_9 : (Cond.instantiable RX9 3 : Cond) ∈ cw := cw_of (List.mem_append_right _ (List.mem_append_left _ (List.mem_of_getElem? (i := 67) (by decide +kernel)))) (by decide +kernel)
theorem mw_ml_10_1 : (Cond.methodLink RX10 1 Lib.objectInit : Cond) ∈ cw := cw_of (List.mem_append_right _ (List.mem_append_left _ (List.mem_of_getElem? (i := 26) (by decide +kernel)))) (by decide +kernel)
theorem mw_ml_10_68 : (Cond.methodLink RX10 68 yX0_init : Cond) ∈ cw := cw_of (List.mem_append_right _ (List.mem_append_right _ (List.mem_append_left _ (List.mem_of_getElem? (i := 75) (by decide +kernel))))) (by decide +kernel)
theorem mw_mn_10_18 : (Cond.methodLinkNest RX10 18 yX9_init "LureTown" : Cond) ∈ cw := cw_of (List.mem_append_right _ (List.mem_append_left _ (List.mem_of_getElem? (i := 68) (by decide +kernel)))) (by decide +kernel)
theorem mw_mn_10_25 : (Cond.methodLinkNest RX10 25 yX5_init "LureTown" : Cond) ∈ cw := cw_of (List.mem_append_right _ (List.mem_append_left _ (List.mem_of_getElem? (i := 194) (by decide +kernel)))) (by decide +kernel)
theorem mw_mn_10_32 : (Cond.methodLinkNest RX10 32 yX8_init "LureTown" : Cond) ∈ cw := cw_of (List.mem_append_right _ (List.mem_append_right _ (List.mem_append_left _ (List.mem_of_getElem? (i := 17) (by decide +kernel))))) (by decide +kernel)
theorem mw_mn_10_47 : (Cond.methodLinkNest RX10 47 yX4_init "LureTown" : Cond) ∈ cw := cw_of (List.mem_append_right _ (List.mem_append_right _ (List.mem_append_left _ (List.mem_of_getElem? (i := 20) (by decide +kernel))))) (by decide +kernel)
theorem mw_mn_10_54 : (Cond.methodLinkNest RX10 54 yX2_init "LureTown" : Cond) ∈ cw := cw_of (List.mem_append_right _ (List.mem_append_right _ (List.mem_append_left _ (List.mem_of_getElem? (i := 23) (by decide +kernel))))) (by decide +kernel)
theorem mw_mn_10_75 : (Cond.methodLinkNest RX10 75 yX1_init "LureTown" : Cond) ∈ cw := cw_of (List.mem_append_right _ (List.mem_append_right _ (List.mem_append_left _ (List.mem_of_getElem? (i := 95) (by decide +kernel))))) (by decide +kernel)
theorem mw_mn_10_82 : (Cond.methodLinkNest RX10 82 yX6_init "LureTown" : Cond) ∈ cw := cw_of (List.mem_append_right _ (List.mem_append_right _ (List.mem_append_left _ (List.mem_of_getElem? (i := 127) (by decide +kernel))))) (by decide +kernel)
theorem mw_mn_10_9 : (Cond.methodLinkNest RX10 9 yX7_init "LureTown" : Cond) ∈ cw := cw_of (List.mem_append_right _ (List.mem_append_left _ (List.mem_of_getElem? (i := 31) (by decide +kernel)))) (by decide +kernel)
theorem dX10_init_0 : decode cX10_init 0 = .ok (.aload_n 0, 1) := by decide +kernel
theorem dX10_init_1 : decode cX10_init 1 = .ok (.invokespecial 1, 3) := by decide +kernel
theorem dX10_init_4 : decode cX10_init 4 = .ok (.aload_n 0, 1) := by decide +kernel
theorem dX10_init_5 : decode cX10_init 5 = .ok (.new 7, 3) := by decide +kernel
theorem dX10_init_8 : decode cX10_init 8 = .ok (.dup, 1) := by decide +kernel
theorem dX10_init_9 : decode cX10_init 9 = .ok (.invokespecial 9, 3) := by decide +kernel
theorem dX10_init_12 : decode cX10_init 12 = .ok (.putfield 10, 3) := by decide +kernel
theorem dX10_init_15 : decode cX10_init 15 = .ok (.aload_n 0, 1) := by decide +kernel
theorem dX10_init_16 : decode cX10_init 16 = .ok (.new 16, 3) := by decide +kernel
theorem dX10_init_19 : decode cX10_init 19 = .ok (.dup, 1) := by decide +kernel
theorem dX10_init_20 : decode cX10_init 20 = .ok (.invokespecial 18, 3) := by decide +kernel
theorem dX10_init_23 : decode cX10_init 23 = .ok (.putfield 19, 3) := by decide +kernel
theorem dX10_init_26 : decode cX10_init 26 = .ok (.aload_n 0, 1) := by decide +kernel
theorem dX10_init_27 : decode cX10_init 27 = .ok (.new 23, 3) := by decide +kernel
theorem dX10_init_30 : decode cX10_init 30 = .ok (.dup, 1) := by decide +kernel
theorem dX10_init_31 : decode cX10_init 31 = .ok (.invokespecial 25, 3) := by decide +kernel
theorem dX10_init_34 : decode cX10_init 34 = .ok (.putfield 26, 3) := by decide +kernel
theorem dX10_init_37 : decode cX10_init 37 = .ok (.aload_n 0, 1) := by decide +kernel
theorem dX10_init_38 : decode cX10_init 38 = .ok (.new 30, 3) := by decide +kernel
theorem dX10_init_41 : decode cX10_init 41 = .ok (.dup, 1) := by decide +kernel
theorem dX10_init_42 : decode cX10_init 42 = .ok (.invokespecial 32, 3) := by decide +kernel
theorem dX10_init_45 : decode cX10_init 45 = .ok (.putfield 33, 3) := by decide +kernel
theorem dX10_init_48 : decode cX10_init 48 = .ok (.aload_n 0, 1) := by decide +kernel
theorem dX10_init_49 : decode cX10_init 49 = .ok (.bipush 6, 2) := by decide +kernel
theorem dX10_init_51 : decode cX10_init 51 = .ok (.anewarray 37, 3) := by decide +kernel
theorem dX10_init_54 : decode cX10_init 54 = .ok (.putfield 39, 3) := by decide +kernel
theorem dX10_init_57 : decode cX10_init 57 = .ok (.aload_n 0, 1) := by decide +kernel
theorem dX10_init_58 : decode cX10_init 58 = .ok (.iconst 0, 1) := by decide +kernel
theorem dX10_init_59 : decode cX10_init 59 = .ok (.putfield 43, 3) := by decide +kernel
theorem dX10_init_62 : decode cX10_init 62 = .ok (.aload_n 0, 1) := by decide +kernel
theorem dX10_init_63 : decode cX10_init 63 = .ok (.new 37, 3) := by decide +kernel
theorem dX10_init_66 : decode cX10_init 66 = .ok (.dup, 1) := by decide +kernel
theorem dX10_init_67 : decode cX10_init 67 = .ok (.invokespecial 47, 3) := by decide +kernel
theorem dX10_init_70 : decode cX10_init 70 = .ok (.putfield 48, 3) := by decide +kernel
theorem dX10_init_73 : decode cX10_init 73 = .ok (.aload_n 0, 1) := by decide +kernel
theorem dX10_init_74 : decode cX10_init 74 = .ok (.new 52, 3) := by decide +kernel
theorem dX10_init_77 : decode cX10_init 77 = .ok (.dup, 1) := by decide +kernel
theorem dX10_init_78 : decode cX10_init 78 = .ok (.invokespecial 54, 3) := by decide +kernel
theorem dX10_init_81 : decode cX10_init 81 = .ok (.putfield 55, 3) := by decide +kernel
theorem dX10_init_84 : decode cX10_init 84 = .ok (.aload_n 0, 1) := by decide +kernel
theorem dX10_init_85 : decode cX10_init 85 = .ok (.iconst 4, 1) := by decide +kernel
theorem dX10_init_86 : decode cX10_init 86 = .ok (.anewarray 52, 3) := by decide +kernel
theorem dX10_init_89 : decode cX10_init 89 = .ok (.putfield 59, 3) := by decide +kernel
theorem dX10_init_92 : decode cX10_init 92 = .ok (.aload_n 0, 1) := by decide +kernel
theorem dX10_init_93 : decode cX10_init 93 = .ok (.iconst 0, 1) := by decide +kernel
theorem dX10_init_94 : decode cX10_init 94 = .ok (.putfield 63, 3) := by decide +kernel
theorem dX10_init_97 : decode cX10_init 97 = .ok (.aload_n 0, 1) := by decide +kernel
theorem dX10_init_98 : decode cX10_init 98 = .ok (.new 66, 3) := by decide +kernel
theorem dX10_init_101 : decode cX10_init 101 = .ok (.dup, 1) := by decide +kernel
theorem dX10_init_102 : decode cX10_init 102 = .ok (.invokespecial 68, 3) := by decide +kernel
theorem dX10_init_105 : decode cX10_init 105 = .ok (.putfield 69, 3) := by decide +kernel
theorem dX10_init_108 : decode cX10_init 108 = .ok (.aload_n 0, 1) := by decide +kernel
theorem dX10_init_109 : decode cX10_init 109 = .ok (.new 73, 3) := by decide +kernel
theorem dX10_init_112 : decode cX10_init 112 = .ok (.dup, 1) := by decide +kernel
theorem dX10_init_113 : decode cX10_init 113 = .ok (.invokespecial 75, 3) := by decide +kernel
theorem dX10_init_116 : decode cX10_init 116 = .ok (.putfield 76, 3) := by decide +kernel
theorem dX10_init_119 : decode cX10_init 119 = .ok (.aload_n 0, 1) := by decide +kernel
theorem dX10_init_120 : decode cX10_init 120 = .ok (.new 80, 3) := by decide +kernel
theorem dX10_init_123 : decode cX10_init 123 = .ok (.dup, 1) := by decide +kernel
theorem dX10_init_124 : decode cX10_init 124 = .ok (.invokespecial 82, 3) := by decide +kernel
theorem dX10_init_127 : decode cX10_init 127 = .ok (.putfield 83, 3) := by decide +kernel
theorem dX10_init_130 : decode cX10_init 130 = .ok (.aload_n 0, 1) := by decide +kernel
theorem dX10_init_131 : decode cX10_init 131 = .ok (.bipush 40, 2) := by decide +kernel
theorem dX10_init_133 : decode cX10_init 133 = .ok (.newarray .int, 2) := by decide +kernel
theorem dX10_init_135 : decode cX10_init 135 = .ok (.putfield 87, 3) := by decide +kernel
theorem dX10_init_138 : decode cX10_init 138 = .ok (.aload_n 0, 1) := by decide +kernel
theorem dX10_init_139 : decode cX10_init 139 = .ok (.bipush 61, 2) := by decide +kernel
theorem dX10_init_141 : decode cX10_init 141 = .ok (.newarray .int, 2) := by decide +kernel
theorem dX10_init_143 : decode cX10_init 143 = .ok (.putfield 91, 3) := by decide +kernel
theorem dX10_init_146 : decode cX10_init 146 = .ok (.aload_n 0, 1) := by decide +kernel
theorem dX10_init_147 : decode cX10_init 147 = .ok (.bipush 64, 2) := by decide +kernel
theorem dX10_init_149 : decode cX10_init 149 = .ok (.newarray .int, 2) := by decide +kernel
theorem dX10_init_151 : decode cX10_init 151 = .ok (.putfield 94, 3) := by decide +kernel
theorem dX10_init_154 : decode cX10_init 154 = .ok (.aload_n 0, 1) := by decide +kernel
theorem dX10_init_155 : decode cX10_init 155 = .ok (.bipush 64, 2) := by decide +kernel
theorem dX10_init_157 : decode cX10_init 157 = .ok (.newarray .int, 2) := by decide +kernel
theorem dX10_init_159 : decode cX10_init 159 = .ok (.putfield 97, 3) := by decide +kernel
theorem dX10_init_162 : decode cX10_init 162 = .ok (.iconst 0, 1) := by decide +kernel
theorem dX10_init_163 : decode cX10_init 163 = .ok (.istore_n 1, 1) := by decide +kernel
theorem dX10_init_164 : decode cX10_init 164 = .ok (.iload_n 1, 1) := by decide +kernel
theorem dX10_init_165 : decode cX10_init 165 = .ok (.bipush 6, 2) := by decide +kernel
theorem dX10_init_167 : decode cX10_init 167 = .ok (.if_icmp .ge 22, 3) := by decide +kernel
theorem dX10_init_170 : decode cX10_init 170 = .ok (.aload_n 0, 1) := by decide +kernel
theorem dX10_init_171 : decode cX10_init 171 = .ok (.getfield 39, 3) := by decide +kernel
theorem dX10_init_174 : decode cX10_init 174 = .ok (.iload_n 1, 1) := by decide +kernel
theorem dX10_init_175 : decode cX10_init 175 = .ok (.new 37, 3) := by decide +kernel
theorem dX10_init_178 : decode cX10_init 178 = .ok (.dup, 1) := by decide +kernel
theorem dX10_init_179 : decode cX10_init 179 = .ok (.invokespecial 47, 3) := by decide +kernel
theorem dX10_init_182 : decode cX10_init 182 = .ok (.aastore, 1) := by decide +kernel
theorem dX10_init_183 : decode cX10_init 183 = .ok (.iinc 1 1, 3) := by decide +kernel
theorem dX10_init_186 : decode cX10_init 186 = .ok (.goto (-22), 3) := by decide +kernel
theorem dX10_init_189 : decode cX10_init 189 = .ok (.iconst 0, 1) := by decide +kernel
theorem dX10_init_190 : decode cX10_init 190 = .ok (.istore_n 1, 1) := by decide +kernel
theorem dX10_init_191 : decode cX10_init 191 = .ok (.iload_n 1, 1) := by decide +kernel
theorem dX10_init_192 : decode cX10_init 192 = .ok (.iconst 4, 1) := by decide +kernel
theorem dX10_init_193 : decode cX10_init 193 = .ok (.if_icmp .ge 22, 3) := by decide +kernel
theorem dX10_init_196 : decode cX10_init 196 = .ok (.aload_n 0, 1) := by decide +kernel
theorem dX10_init_197 : decode cX10_init 197 = .ok (.getfield 59, 3) := by decide +kernel
theorem dX10_init_200 : decode cX10_init 200 = .ok (.iload_n 1, 1) := by decide +kernel
theorem dX10_init_201 : decode cX10_init 201 = .ok (.new 52, 3) := by decide +kernel
theorem dX10_init_204 : decode cX10_init 204 = .ok (.dup, 1) := by decide +kernel
theorem dX10_init_205 : decode cX10_init 205 = .ok (.invokespecial 54, 3) := by decide +kernel
theorem dX10_init_208 : decode cX10_init 208 = .ok (.aastore, 1) := by decide +kernel
theorem dX10_init_209 : decode cX10_init 209 = .ok (.iinc 1 1, 3) := by decide +kernel
theorem dX10_init_212 : decode cX10_init 212 = .ok (.goto (-21), 3) := by decide +kernel
theorem dX10_init_215 : decode cX10_init 215 = .ok (.return_, 1) := by decide +kernel
theorem hd_X0_init : yX0_init.cls ≠ "java/lang/invoke/MethodHandle" ∧ yX0_init.cls ≠ "java/lang/invoke/VarHandle" ∧ (parseMethodDescriptor yX0_init.desc).map (fun d => d.parameters.length) = some 0 := ⟨by decide +kernel, by decide +kernel, by decide +kernel⟩
theorem hd_X1_init : yX1_init.cls ≠ "java/lang/invoke/MethodHandle" ∧ yX1_init.cls ≠ "java/lang/invoke/VarHandle" ∧ (parseMethodDescriptor yX1_init.desc).map (fun d => d.parameters.length) = some 0 := ⟨by decide +kernel, by decide +kernel, by decide +kernel⟩
theorem hd_X2_init : yX2_init.cls ≠ "java/lang/invoke/MethodHandle" ∧ yX2_init.cls ≠ "java/lang/invoke/VarHandle" ∧ (parseMethodDescriptor yX2_init.desc).map (fun d => d.parameters.length) = some 0 := ⟨by decide +kernel, by decide +kernel, by decide +kernel⟩
theorem hd_X5_init : yX5_init.cls ≠ "java/lang/invoke/MethodHandle" ∧ yX5_init.cls ≠ "java/lang/invoke/VarHandle" ∧ (parseMethodDescriptor yX5_init.desc).map (fun d => d.parameters.length) = some 0 := ⟨by decide +kernel, by decide +kernel, by decide +kernel⟩
theorem hd_X9_init : yX9_init.cls ≠ "java/lang/invoke/MethodHandle" ∧ yX9_init.cls ≠ "java/lang/invoke/VarHandle" ∧ (parseMethodDescriptor yX9_init.desc).map (fun d => d.parameters.length) = some 0 := ⟨by decide +kernel, by decide +kernel, by decide +kernel⟩
set_option maxHeartbeats 4000000 in
set_option maxRecDepth 100000 in
theorem n_LT (l : Launch) (D : va_G) (K : Nat → ClassId) (h0 : Nat) : mV (S := Nat → Nat) l yX10_init cX10_init 2 ({ frames := 4, cells := 385, slots := 8750, locals := 80 }) D K [(h0, .inr (10, [.null, .null, .null, .null, .null, .int 0, .null, .null, .null, .int 0, .null, .null, .null, .null, .null, .null, .null]))] [.ref h0] (fun g => g 0 = h0) (fun g => Bk K 0 386 g) := by
  refine m_enterV (by decide) (Nat.le_of_ble_eq_true rfl) ?_
  intro p e s m args below meth c A ls E hr hN G hl
  have E : mE p s m meth c cX10_init args 2 RX10 D K A := E
  have hl : lv_has ls 2 [(0, .ref h0)] := hl
  obtain ⟨H, hH⟩ : ∃ H, H = s.heap := ⟨_, rfl⟩
  obtain ⟨locs, hlo⟩ : ∃ L : List Loc, L = [] := ⟨_, rfl⟩
  rw [← hH, ← hlo] at G
  rw [← hH, ← hlo]
  clear hH hlo
  obtain ⟨ac0, hac0⟩ : ∃ w : va_W, w = [] := ⟨_, rfl⟩
  have G : mG D A s H locs ((h0, .inr (10, [.null, .null, .null, .null, .null, .int 0, .null, .null, .null, .int 0, .null, .null, .null, .null, .null, .null, .null])) :: ac0) := by rw [hac0]; exact G
  refine lv_aload_n E.1 E.2.1 dX10_init_0 rfl (lv_at hl 0 rfl) ?_
  refine m_objInit E hl mw_ml_10_1 dX10_init_1 (by decide) (Nat.le_of_ble_eq_true rfl) (by decide) ?_
  refine lv_aload_n E.1 E.2.1 dX10_init_4 rfl (lv_at hl 0 rfl) ?_
  refine m_new E G 7 (C := RX7) (T := TX7) (N := 7) rfl fr_X7 mw_cl_10_7 mw_insta_7 mw_ini_7 (by decide) (by decide) dX10_init_5 (fun q1 H G => ?_)
  have G : mG D A s H locs ((q1, .inr (7, [.null, .int 0, .int 0, .int 0, .int 0, .int 0, .int 0])) :: (h0, .inr (10, [.null, .null, .null, .null, .null, .int 0, .null, .null, .null, .int 0, .null, .null, .null, .null, .null, .null, .null])) :: ac0) := G.pm (pm_f _ _)
  refine lv_dup E.1 E.2.1 dX10_init_8 rfl ?_
  refine n_in E G hl (n_Tape l D K 1 (by decide : at_ 7 1 = true) q1) rfl mw_code_X7_init mw_ini_7 mw_mn_10_9 mw_inst_X7_init hd_X7_init ⟨by decide, by decide⟩ rfl (Nat.le_of_ble_eq_true rfl) ⟨by decide, by decide⟩ dX10_init_9 (fun g2 H locs hp3 G => ?_)
  obtain ⟨ac4, hac4⟩ : ∃ w : va_W, w = ac0 ++ (Bk K 1 2 g2) := ⟨_, rfl⟩
  have G : mG D A s H locs ((h0, .inr (10, [.null, .null, .null, .null, .null, .int 0, .null, .null, .null, .int 0, .null, .null, .null, .null, .null, .null, .null])) :: ac4) := by rw [hac4]; exact G
  refine m_putF E G hN 0 (ci := 10) rfl 0 (C := RX10) (T := TX10) (N := 17) rfl (by decide) mw_fl_10_10 rfl rfl rfl rfl (Nat.le_of_ble_eq_true rfl) dX10_init_12 (fun H locs G => ?_)
  have G : mG D A s H locs ((h0, .inr (10, [.ref q1, .null, .null, .null, .null, .int 0, .null, .null, .null, .int 0, .null, .null, .null, .null, .null, .null, .null])) :: ac4) := G
  refine lv_aload_n E.1 E.2.1 dX10_init_15 rfl (lv_at hl 0 rfl) ?_
  refine m_new E G 9 (C := RX9) (T := TX9) (N := 3) rfl fr_X9 mw_cl_10_16 mw_insta_9 mw_ini_9 (by decide) (by decide) dX10_init_16 (fun q5 H G => ?_)
  have G : mG D A s H locs ((q5, .inr (9, [.null, .null, .null])) :: (h0, .inr (10, [.ref q1, .null, .null, .null, .null, .int 0, .null, .null, .null, .int 0, .null, .null, .null, .null, .null, .null, .null])) :: ac4) := G.pm (pm_f _ _)
  refine lv_dup E.1 E.2.1 dX10_init_19 rfl ?_
  refine n_in E G hl (n_TR l D K q5) rfl mw_code_X9_init mw_ini_9 mw_mn_10_18 mw_inst_X9_init hd_X9_init ⟨by decide, by decide⟩ rfl (Nat.le_of_ble_eq_true rfl) ⟨by decide, by decide⟩ dX10_init_20 (fun g6 H locs hp7 G => ?_)
  obtain ⟨ac8, hac8⟩ : ∃ w : va_W, w = ac4 ++ (Bk K 3 2 g6 ++ (Bk K 346 2 g6 ++ (Bk K 348 13 g6))) := ⟨_, rfl⟩
  have G : mG D A s H locs ((h0, .inr (10, [.ref q1, .null, .null, .null, .null, .int 0, .null, .null, .null, .int 0, .null, .null, .null, .null, .null, .null, .null])) :: ac8) := by rw [hac8]; exact G
  refine m_putF E G hN 0 (ci := 10) rfl 1 (C := RX10) (T := TX10) (N := 17) rfl (by decide) mw_fl_10_19 rfl rfl rfl rfl (Nat.le_of_ble_eq_true rfl) dX10_init_23 (fun H locs G => ?_)
  have G : mG D A s H locs ((h0, .inr (10, [.ref q1, .ref q5, .null, .null, .null, .int 0, .null, .null, .null, .int 0, .null, .null, .null, .null, .null, .null, .null])) :: ac8) := G
  refine lv_aload_n E.1 E.2.1 dX10_init_26 rfl (lv_at hl 0 rfl) ?_
  refine m_new E G 5 (C := RX5) (T := TX5) (N := 9) rfl fr_X5 mw_cl_10_23 mw_insta_5 mw_ini_5 (by decide) (by decide) dX10_init_27 (fun q9 H G => ?_)
  have G : mG D A s H locs ((q9, .inr (5, [.null, .null, .int 0, .int 0, .int 0, .int 0, .int 0, .int 0, .null])) :: (h0, .inr (10, [.ref q1, .ref q5, .null, .null, .null, .int 0, .null, .null, .null, .int 0, .null, .null, .null, .null, .null, .null, .null])) :: ac8) := G.pm (pm_f _ _)
  refine lv_dup E.1 E.2.1 dX10_init_30 rfl ?_
  refine n_in E G hl (n_RR l D K q9) rfl mw_code_X5_init mw_ini_5 mw_mn_10_25 mw_inst_X5_init hd_X5_init ⟨by decide, by decide⟩ rfl (Nat.le_of_ble_eq_true rfl) ⟨by decide, by decide⟩ dX10_init_31 (fun g10 H locs hp11 G => ?_)
  obtain ⟨ac12, hac12⟩ : ∃ w : va_W, w = ac8 ++ (Bk K 5 2 g10 ++ (Bk K 361 2 g10 ++ (Bk K 363 5 g10))) := ⟨_, rfl⟩
  have G : mG D A s H locs ((h0, .inr (10, [.ref q1, .ref q5, .null, .null, .null, .int 0, .null, .null, .null, .int 0, .null, .null, .null, .null, .null, .null, .null])) :: ac12) := by rw [hac12]; exact G
  refine m_putF E G hN 0 (ci := 10) rfl 2 (C := RX10) (T := TX10) (N := 17) rfl (by decide) mw_fl_10_26 rfl rfl rfl rfl (Nat.le_of_ble_eq_true rfl) dX10_init_34 (fun H locs G => ?_)
  have G : mG D A s H locs ((h0, .inr (10, [.ref q1, .ref q5, .ref q9, .null, .null, .int 0, .null, .null, .null, .int 0, .null, .null, .null, .null, .null, .null, .null])) :: ac12) := G
  refine lv_aload_n E.1 E.2.1 dX10_init_37 rfl (lv_at hl 0 rfl) ?_
  refine m_new E G 8 (C := RX8) (T := TX8) (N := 10) rfl fr_X8 mw_cl_10_30 mw_insta_8 mw_ini_8 (by decide) (by decide) dX10_init_38 (fun q13 H G => ?_)
  have G : mG D A s H locs ((q13, .inr (8, [.int 0, .int 0, .int 0, .int 0, .null, .null, .null, .null, .null, .null])) :: (h0, .inr (10, [.ref q1, .ref q5, .ref q9, .null, .null, .int 0, .null, .null, .null, .int 0, .null, .null, .null, .null, .null, .null, .null])) :: ac12) := G.pm (pm_f _ _)
  refine lv_dup E.1 E.2.1 dX10_init_41 rfl ?_
  refine n_in E G hl (n_Town l D K 7 (by decide : at_ 8 7 = true) q13) rfl mw_code_X8_init mw_ini_8 mw_mn_10_32 mw_inst_X8_init hd_X8_init ⟨by decide, by decide⟩ rfl (Nat.le_of_ble_eq_true rfl) ⟨by decide, by decide⟩ dX10_init_42 (fun g14 H locs hp15 G => ?_)
  obtain ⟨ac16, hac16⟩ : ∃ w : va_W, w = ac12 ++ (Bk K 7 13 g14) := ⟨_, rfl⟩
  have G : mG D A s H locs ((h0, .inr (10, [.ref q1, .ref q5, .ref q9, .null, .null, .int 0, .null, .null, .null, .int 0, .null, .null, .null, .null, .null, .null, .null])) :: ac16) := by rw [hac16]; exact G
  refine m_putF E G hN 0 (ci := 10) rfl 3 (C := RX10) (T := TX10) (N := 17) rfl (by decide) mw_fl_10_33 rfl rfl rfl rfl (Nat.le_of_ble_eq_true rfl) dX10_init_45 (fun H locs G => ?_)
  have G : mG D A s H locs ((h0, .inr (10, [.ref q1, .ref q5, .ref q9, .ref q13, .null, .int 0, .null, .null, .null, .int 0, .null, .null, .null, .null, .null, .null, .null])) :: ac16) := G
  refine lv_aload_n E.1 E.2.1 dX10_init_48 rfl (lv_at hl 0 rfl) ?_
  refine lv_bipush (v := 6) E.1 E.2.1 dX10_init_49 (by decide) ?_
  refine m_newq E G 4 rfl mw_ao_4 mw_cl_10_37 (N' := 6) (by decide) (by decide) (by decide) (by decide) (by decide) dX10_init_51 (fun q17 H G => ?_)
  have G : mG D A s H locs ((h0, .inr (10, [.ref q1, .ref q5, .ref q9, .ref q13, .null, .int 0, .null, .null, .null, .int 0, .null, .null, .null, .null, .null, .null, .null])) :: (q17, .inl (K 4, 6, .inr (.inr (.inr (.inr (fun _ => none)))))) :: ac16) := G.pm (List.Perm.cons _ (pm_f _ _))
  refine m_putF E G hN 0 (ci := 10) rfl 4 (C := RX10) (T := TX10) (N := 17) rfl (by decide) mw_fl_10_39 rfl rfl rfl rfl (Nat.le_of_ble_eq_true rfl) dX10_init_54 (fun H locs G => ?_)
  have G : mG D A s H locs ((h0, .inr (10, [.ref q1, .ref q5, .ref q9, .ref q13, .ref q17, .int 0, .null, .null, .null, .int 0, .null, .null, .null, .null, .null, .null, .null])) :: (q17, .inl (K 4, 6, .inr (.inr (.inr (.inr (fun _ => none)))))) :: ac16) := G
  refine lv_aload_n E.1 E.2.1 dX10_init_57 rfl (lv_at hl 0 rfl) ?_
  refine lv_iconst (v := 0) E.1 E.2.1 dX10_init_58 (by decide) ?_
  refine m_put E G 0 (ci := 10) rfl 5 (C := RX10) (T := TX10) (N := 17) rfl (by decide) mw_fl_10_43 rfl rfl rfl (Nat.le_of_ble_eq_true rfl) dX10_init_59 (fun H locs G => ?_)
  have G : mG D A s H locs ((h0, .inr (10, [.ref q1, .ref q5, .ref q9, .ref q13, .ref q17, .int 0, .null, .null, .null, .int 0, .null, .null, .null, .null, .null, .null, .null])) :: (q17, .inl (K 4, 6, .inr (.inr (.inr (.inr (fun _ => none)))))) :: ac16) := G
  refine lv_aload_n E.1 E.2.1 dX10_init_62 rfl (lv_at hl 0 rfl) ?_
  refine m_new E G 4 (C := RX4) (T := TX4) (N := 6) rfl fr_X4 mw_cl_10_37 mw_insta_4 mw_ini_4 (by decide) (by decide) dX10_init_63 (fun q18 H G => ?_)
  have G : mG D A s H locs ((q18, .inr (4, [.int 0, .null, .int 0, .null, .null, .null])) :: (h0, .inr (10, [.ref q1, .ref q5, .ref q9, .ref q13, .ref q17, .int 0, .null, .null, .null, .int 0, .null, .null, .null, .null, .null, .null, .null])) :: (q17, .inl (K 4, 6, .inr (.inr (.inr (.inr (fun _ => none)))))) :: ac16) := G.pm (pm_f _ _)
  refine lv_dup E.1 E.2.1 dX10_init_66 rfl ?_
  refine n_in E G hl (n_Rule l D K 51 (by decide : at_ 4 51 = true) q18) rfl mw_code_X4_init mw_ini_4 mw_mn_10_47 mw_inst_X4_init hd_X4_init ⟨by decide, by decide⟩ rfl (Nat.le_of_ble_eq_true rfl) ⟨by decide, by decide⟩ dX10_init_67 (fun g19 H locs hp20 G => ?_)
  obtain ⟨ac21, hac21⟩ : ∃ w : va_W, w = ac16 ++ (Bk K 51 5 g19) := ⟨_, rfl⟩
  have G : mG D A s H locs ((h0, .inr (10, [.ref q1, .ref q5, .ref q9, .ref q13, .ref q17, .int 0, .null, .null, .null, .int 0, .null, .null, .null, .null, .null, .null, .null])) :: (q17, .inl (K 4, 6, .inr (.inr (.inr (.inr (fun _ => none)))))) :: ac21) := by rw [hac21]; exact G
  refine m_putF E G hN 0 (ci := 10) rfl 6 (C := RX10) (T := TX10) (N := 17) rfl (by decide) mw_fl_10_48 rfl rfl rfl rfl (Nat.le_of_ble_eq_true rfl) dX10_init_70 (fun H locs G => ?_)
  have G : mG D A s H locs ((h0, .inr (10, [.ref q1, .ref q5, .ref q9, .ref q13, .ref q17, .int 0, .ref q18, .null, .null, .int 0, .null, .null, .null, .null, .null, .null, .null])) :: (q17, .inl (K 4, 6, .inr (.inr (.inr (.inr (fun _ => none)))))) :: ac21) := G
  refine lv_aload_n E.1 E.2.1 dX10_init_73 rfl (lv_at hl 0 rfl) ?_
  refine m_new E G 2 (C := RX2) (T := TX2) (N := 5) rfl fr_X2 mw_cl_10_52 mw_insta_2 mw_ini_2 (by decide) (by decide) dX10_init_74 (fun q22 H G => ?_)
  have G : mG D A s H locs ((q22, .inr (2, [.null, .null, .null, .int 0, .int 0])) :: (h0, .inr (10, [.ref q1, .ref q5, .ref q9, .ref q13, .ref q17, .int 0, .ref q18, .null, .null, .int 0, .null, .null, .null, .null, .null, .null, .null])) :: (q17, .inl (K 4, 6, .inr (.inr (.inr (.inr (fun _ => none)))))) :: ac21) := G.pm (pm_f _ _)
  refine lv_dup E.1 E.2.1 dX10_init_77 rfl ?_
  refine n_in E G hl (n_Moment l D K 56 (by decide : at_ 2 56 = true) q22) rfl mw_code_X2_init mw_ini_2 mw_mn_10_54 mw_inst_X2_init hd_X2_init ⟨by decide, by decide⟩ rfl (Nat.le_of_ble_eq_true rfl) ⟨by decide, by decide⟩ dX10_init_78 (fun g23 H locs hp24 G => ?_)
  obtain ⟨ac25, hac25⟩ : ∃ w : va_W, w = ac21 ++ (Bk K 56 25 g23) := ⟨_, rfl⟩
  have G : mG D A s H locs ((h0, .inr (10, [.ref q1, .ref q5, .ref q9, .ref q13, .ref q17, .int 0, .ref q18, .null, .null, .int 0, .null, .null, .null, .null, .null, .null, .null])) :: (q17, .inl (K 4, 6, .inr (.inr (.inr (.inr (fun _ => none)))))) :: ac25) := by rw [hac25]; exact G
  refine m_putF E G hN 0 (ci := 10) rfl 7 (C := RX10) (T := TX10) (N := 17) rfl (by decide) mw_fl_10_55 rfl rfl rfl rfl (Nat.le_of_ble_eq_true rfl) dX10_init_81 (fun H locs G => ?_)
  have G : mG D A s H locs ((h0, .inr (10, [.ref q1, .ref q5, .ref q9, .ref q13, .ref q17, .int 0, .ref q18, .ref q22, .null, .int 0, .null, .null, .null, .null, .null, .null, .null])) :: (q17, .inl (K 4, 6, .inr (.inr (.inr (.inr (fun _ => none)))))) :: ac25) := G
  refine lv_aload_n E.1 E.2.1 dX10_init_84 rfl (lv_at hl 0 rfl) ?_
  refine lv_iconst (v := 4) E.1 E.2.1 dX10_init_85 (by decide) ?_
  refine m_newq E G 5 rfl mw_ao_2 mw_cl_10_52 (N' := 4) (by decide) (by decide) (by decide) (by decide) (by decide) dX10_init_86 (fun q26 H G => ?_)
  have G : mG D A s H locs ((h0, .inr (10, [.ref q1, .ref q5, .ref q9, .ref q13, .ref q17, .int 0, .ref q18, .ref q22, .null, .int 0, .null, .null, .null, .null, .null, .null, .null])) :: (q17, .inl (K 4, 6, .inr (.inr (.inr (.inr (fun _ => none)))))) :: (q26, .inl (K 5, 4, .inr (.inr (.inr (.inr (fun _ => none)))))) :: ac25) := G.pm (List.Perm.cons _ (List.Perm.cons _ (pm_f _ _)))
  refine m_putF E G hN 0 (ci := 10) rfl 8 (C := RX10) (T := TX10) (N := 17) rfl (by decide) mw_fl_10_59 rfl rfl rfl rfl (Nat.le_of_ble_eq_true rfl) dX10_init_89 (fun H locs G => ?_)
  have G : mG D A s H locs ((h0, .inr (10, [.ref q1, .ref q5, .ref q9, .ref q13, .ref q17, .int 0, .ref q18, .ref q22, .ref q26, .int 0, .null, .null, .null, .null, .null, .null, .null])) :: (q17, .inl (K 4, 6, .inr (.inr (.inr (.inr (fun _ => none)))))) :: (q26, .inl (K 5, 4, .inr (.inr (.inr (.inr (fun _ => none)))))) :: ac25) := G
  refine lv_aload_n E.1 E.2.1 dX10_init_92 rfl (lv_at hl 0 rfl) ?_
  refine lv_iconst (v := 0) E.1 E.2.1 dX10_init_93 (by decide) ?_
  refine m_put E G 0 (ci := 10) rfl 9 (C := RX10) (T := TX10) (N := 17) rfl (by decide) mw_fl_10_63 rfl rfl rfl (Nat.le_of_ble_eq_true rfl) dX10_init_94 (fun H locs G => ?_)
  have G : mG D A s H locs ((h0, .inr (10, [.ref q1, .ref q5, .ref q9, .ref q13, .ref q17, .int 0, .ref q18, .ref q22, .ref q26, .int 0, .null, .null, .null, .null, .null, .null, .null])) :: (q17, .inl (K 4, 6, .inr (.inr (.inr (.inr (fun _ => none)))))) :: (q26, .inl (K 5, 4, .inr (.inr (.inr (.inr (fun _ => none)))))) :: ac25) := G
  refine lv_aload_n E.1 E.2.1 dX10_init_97 rfl (lv_at hl 0 rfl) ?_
  refine m_new E G 0 (C := RX0) (T := TX0) (N := 3) rfl fr_X0 mw_cl_10_66 mw_insta_0 mw_ini_0 (by decide) (by decide) dX10_init_98 (fun q27 H G => ?_)
  have G : mG D A s H locs ((q27, .inr (0, [.int 0, .int 0, .null])) :: (h0, .inr (10, [.ref q1, .ref q5, .ref q9, .ref q13, .ref q17, .int 0, .ref q18, .ref q22, .ref q26, .int 0, .null, .null, .null, .null, .null, .null, .null])) :: (q17, .inl (K 4, 6, .inr (.inr (.inr (.inr (fun _ => none)))))) :: (q26, .inl (K 5, 4, .inr (.inr (.inr (.inr (fun _ => none)))))) :: ac25) := G.pm (pm_f _ _)
  refine lv_dup E.1 E.2.1 dX10_init_101 rfl ?_
  refine n_ii E G hl (n_Acts l D K q27) rfl mw_code_X0_init mw_ini_0 mw_ml_10_68 mw_inst_X0_init hd_X0_init ⟨by decide, by decide⟩ rfl (Nat.le_of_ble_eq_true rfl) ⟨by decide, by decide⟩ dX10_init_102 (fun g28 H locs hp29 G => ?_)
  obtain ⟨ac30, hac30⟩ : ∃ w : va_W, w = ac25 ++ (Bk K 182 142 g28) := ⟨_, rfl⟩
  have G : mG D A s H locs ((h0, .inr (10, [.ref q1, .ref q5, .ref q9, .ref q13, .ref q17, .int 0, .ref q18, .ref q22, .ref q26, .int 0, .null, .null, .null, .null, .null, .null, .null])) :: (q17, .inl (K 4, 6, .inr (.inr (.inr (.inr (fun _ => none)))))) :: (q26, .inl (K 5, 4, .inr (.inr (.inr (.inr (fun _ => none)))))) :: ac30) := by rw [hac30]; exact G
  refine m_putF E G hN 0 (ci := 10) rfl 10 (C := RX10) (T := TX10) (N := 17) rfl (by decide) mw_fl_10_69 rfl rfl rfl rfl (Nat.le_of_ble_eq_true rfl) dX10_init_105 (fun H locs G => ?_)
  have G : mG D A s H locs ((h0, .inr (10, [.ref q1, .ref q5, .ref q9, .ref q13, .ref q17, .int 0, .ref q18, .ref q22, .ref q26, .int 0, .ref q27, .null, .null, .null, .null, .null, .null])) :: (q17, .inl (K 4, 6, .inr (.inr (.inr (.inr (fun _ => none)))))) :: (q26, .inl (K 5, 4, .inr (.inr (.inr (.inr (fun _ => none)))))) :: ac30) := G
  refine lv_aload_n E.1 E.2.1 dX10_init_108 rfl (lv_at hl 0 rfl) ?_
  refine m_new E G 1 (C := RX1) (T := TX1) (N := 6) rfl fr_X1 mw_cl_10_73 mw_insta_1 mw_ini_1 (by decide) (by decide) dX10_init_109 (fun q31 H G => ?_)
  have G : mG D A s H locs ((q31, .inr (1, [.null, .null, .null, .null, .null, .null])) :: (h0, .inr (10, [.ref q1, .ref q5, .ref q9, .ref q13, .ref q17, .int 0, .ref q18, .ref q22, .ref q26, .int 0, .ref q27, .null, .null, .null, .null, .null, .null])) :: (q17, .inl (K 4, 6, .inr (.inr (.inr (.inr (fun _ => none)))))) :: (q26, .inl (K 5, 4, .inr (.inr (.inr (.inr (fun _ => none)))))) :: ac30) := G.pm (pm_f _ _)
  refine lv_dup E.1 E.2.1 dX10_init_112 rfl ?_
  refine n_in E G hl (n_Course l D K q31) rfl mw_code_X1_init mw_ini_1 mw_mn_10_75 mw_inst_X1_init hd_X1_init ⟨by decide, by decide⟩ rfl (Nat.le_of_ble_eq_true rfl) ⟨by decide, by decide⟩ dX10_init_113 (fun g32 H locs hp33 G => ?_)
  obtain ⟨ac34, hac34⟩ : ∃ w : va_W, w = ac30 ++ (Bk K 324 11 g32 ++ (Bk K 368 13 g32 ++ (Bk K 381 5 g32))) := ⟨_, rfl⟩
  have G : mG D A s H locs ((h0, .inr (10, [.ref q1, .ref q5, .ref q9, .ref q13, .ref q17, .int 0, .ref q18, .ref q22, .ref q26, .int 0, .ref q27, .null, .null, .null, .null, .null, .null])) :: (q17, .inl (K 4, 6, .inr (.inr (.inr (.inr (fun _ => none)))))) :: (q26, .inl (K 5, 4, .inr (.inr (.inr (.inr (fun _ => none)))))) :: ac34) := by rw [hac34]; exact G
  refine m_putF E G hN 0 (ci := 10) rfl 11 (C := RX10) (T := TX10) (N := 17) rfl (by decide) mw_fl_10_76 rfl rfl rfl rfl (Nat.le_of_ble_eq_true rfl) dX10_init_116 (fun H locs G => ?_)
  have G : mG D A s H locs ((h0, .inr (10, [.ref q1, .ref q5, .ref q9, .ref q13, .ref q17, .int 0, .ref q18, .ref q22, .ref q26, .int 0, .ref q27, .ref q31, .null, .null, .null, .null, .null])) :: (q17, .inl (K 4, 6, .inr (.inr (.inr (.inr (fun _ => none)))))) :: (q26, .inl (K 5, 4, .inr (.inr (.inr (.inr (fun _ => none)))))) :: ac34) := G
  refine lv_aload_n E.1 E.2.1 dX10_init_119 rfl (lv_at hl 0 rfl) ?_
  refine m_new E G 6 (C := RX6) (T := TX6) (N := 8) rfl fr_X6 mw_cl_10_80 mw_insta_6 mw_ini_6 (by decide) (by decide) dX10_init_120 (fun q35 H G => ?_)
  have G : mG D A s H locs ((q35, .inr (6, [.null, .null, .null, .null, .null, .null, .int 0, .int 0])) :: (h0, .inr (10, [.ref q1, .ref q5, .ref q9, .ref q13, .ref q17, .int 0, .ref q18, .ref q22, .ref q26, .int 0, .ref q27, .ref q31, .null, .null, .null, .null, .null])) :: (q17, .inl (K 4, 6, .inr (.inr (.inr (.inr (fun _ => none)))))) :: (q26, .inl (K 5, 4, .inr (.inr (.inr (.inr (fun _ => none)))))) :: ac34) := G.pm (pm_f _ _)
  refine lv_dup E.1 E.2.1 dX10_init_123 rfl ?_
  refine n_in E G hl (n_State l D K 335 (by decide : at_ 6 335 = true) q35) rfl mw_code_X6_init mw_ini_6 mw_mn_10_82 mw_inst_X6_init hd_X6_init ⟨by decide, by decide⟩ rfl (Nat.le_of_ble_eq_true rfl) ⟨by decide, by decide⟩ dX10_init_124 (fun g36 H locs hp37 G => ?_)
  obtain ⟨ac38, hac38⟩ : ∃ w : va_W, w = ac34 ++ (Bk K 335 7 g36) := ⟨_, rfl⟩
  have G : mG D A s H locs ((h0, .inr (10, [.ref q1, .ref q5, .ref q9, .ref q13, .ref q17, .int 0, .ref q18, .ref q22, .ref q26, .int 0, .ref q27, .ref q31, .null, .null, .null, .null, .null])) :: (q17, .inl (K 4, 6, .inr (.inr (.inr (.inr (fun _ => none)))))) :: (q26, .inl (K 5, 4, .inr (.inr (.inr (.inr (fun _ => none)))))) :: ac38) := by rw [hac38]; exact G
  refine m_putF E G hN 0 (ci := 10) rfl 12 (C := RX10) (T := TX10) (N := 17) rfl (by decide) mw_fl_10_83 rfl rfl rfl rfl (Nat.le_of_ble_eq_true rfl) dX10_init_127 (fun H locs G => ?_)
  have G : mG D A s H locs ((h0, .inr (10, [.ref q1, .ref q5, .ref q9, .ref q13, .ref q17, .int 0, .ref q18, .ref q22, .ref q26, .int 0, .ref q27, .ref q31, .ref q35, .null, .null, .null, .null])) :: (q17, .inl (K 4, 6, .inr (.inr (.inr (.inr (fun _ => none)))))) :: (q26, .inl (K 5, 4, .inr (.inr (.inr (.inr (fun _ => none)))))) :: ac38) := G
  refine lv_aload_n E.1 E.2.1 dX10_init_130 rfl (lv_at hl 0 rfl) ?_
  refine lv_bipush (v := 40) E.1 E.2.1 dX10_init_131 (by decide) ?_
  refine m_newi E G (N' := 40) (by decide) (by decide) (by decide) (by decide) (by decide) dX10_init_133 (fun q39 H G => ?_)
  obtain ⟨ac40, hac40⟩ : ∃ w : va_W, w = ac38 ++ [(q39, .inl (K 0, 40, .inl (fun _ => 0)))] := ⟨_, rfl⟩
  have G : mG D A s H locs ((h0, .inr (10, [.ref q1, .ref q5, .ref q9, .ref q13, .ref q17, .int 0, .ref q18, .ref q22, .ref q26, .int 0, .ref q27, .ref q31, .ref q35, .null, .null, .null, .null])) :: (q17, .inl (K 4, 6, .inr (.inr (.inr (.inr (fun _ => none)))))) :: (q26, .inl (K 5, 4, .inr (.inr (.inr (.inr (fun _ => none)))))) :: ac40) := by rw [hac40]; exact G
  refine m_putF E G hN 0 (ci := 10) rfl 13 (C := RX10) (T := TX10) (N := 17) rfl (by decide) mw_fl_10_87 rfl rfl rfl rfl (Nat.le_of_ble_eq_true rfl) dX10_init_135 (fun H locs G => ?_)
  have G : mG D A s H locs ((h0, .inr (10, [.ref q1, .ref q5, .ref q9, .ref q13, .ref q17, .int 0, .ref q18, .ref q22, .ref q26, .int 0, .ref q27, .ref q31, .ref q35, .ref q39, .null, .null, .null])) :: (q17, .inl (K 4, 6, .inr (.inr (.inr (.inr (fun _ => none)))))) :: (q26, .inl (K 5, 4, .inr (.inr (.inr (.inr (fun _ => none)))))) :: ac40) := G
  refine lv_aload_n E.1 E.2.1 dX10_init_138 rfl (lv_at hl 0 rfl) ?_
  refine lv_bipush (v := 61) E.1 E.2.1 dX10_init_139 (by decide) ?_
  refine m_newi E G (N' := 61) (by decide) (by decide) (by decide) (by decide) (by decide) dX10_init_141 (fun q41 H G => ?_)
  obtain ⟨ac42, hac42⟩ : ∃ w : va_W, w = ac40 ++ [(q41, .inl (K 0, 61, .inl (fun _ => 0)))] := ⟨_, rfl⟩
  have G : mG D A s H locs ((h0, .inr (10, [.ref q1, .ref q5, .ref q9, .ref q13, .ref q17, .int 0, .ref q18, .ref q22, .ref q26, .int 0, .ref q27, .ref q31, .ref q35, .ref q39, .null, .null, .null])) :: (q17, .inl (K 4, 6, .inr (.inr (.inr (.inr (fun _ => none)))))) :: (q26, .inl (K 5, 4, .inr (.inr (.inr (.inr (fun _ => none)))))) :: ac42) := by rw [hac42]; exact G
  refine m_putF E G hN 0 (ci := 10) rfl 14 (C := RX10) (T := TX10) (N := 17) rfl (by decide) mw_fl_10_91 rfl rfl rfl rfl (Nat.le_of_ble_eq_true rfl) dX10_init_143 (fun H locs G => ?_)
  have G : mG D A s H locs ((h0, .inr (10, [.ref q1, .ref q5, .ref q9, .ref q13, .ref q17, .int 0, .ref q18, .ref q22, .ref q26, .int 0, .ref q27, .ref q31, .ref q35, .ref q39, .ref q41, .null, .null])) :: (q17, .inl (K 4, 6, .inr (.inr (.inr (.inr (fun _ => none)))))) :: (q26, .inl (K 5, 4, .inr (.inr (.inr (.inr (fun _ => none)))))) :: ac42) := G
  refine lv_aload_n E.1 E.2.1 dX10_init_146 rfl (lv_at hl 0 rfl) ?_
  refine lv_bipush (v := 64) E.1 E.2.1 dX10_init_147 (by decide) ?_
  refine m_newi E G (N' := 64) (by decide) (by decide) (by decide) (by decide) (by decide) dX10_init_149 (fun q43 H G => ?_)
  obtain ⟨ac44, hac44⟩ : ∃ w : va_W, w = ac42 ++ [(q43, .inl (K 0, 64, .inl (fun _ => 0)))] := ⟨_, rfl⟩
  have G : mG D A s H locs ((h0, .inr (10, [.ref q1, .ref q5, .ref q9, .ref q13, .ref q17, .int 0, .ref q18, .ref q22, .ref q26, .int 0, .ref q27, .ref q31, .ref q35, .ref q39, .ref q41, .null, .null])) :: (q17, .inl (K 4, 6, .inr (.inr (.inr (.inr (fun _ => none)))))) :: (q26, .inl (K 5, 4, .inr (.inr (.inr (.inr (fun _ => none)))))) :: ac44) := by rw [hac44]; exact G
  refine m_putF E G hN 0 (ci := 10) rfl 15 (C := RX10) (T := TX10) (N := 17) rfl (by decide) mw_fl_10_94 rfl rfl rfl rfl (Nat.le_of_ble_eq_true rfl) dX10_init_151 (fun H locs G => ?_)
  have G : mG D A s H locs ((h0, .inr (10, [.ref q1, .ref q5, .ref q9, .ref q13, .ref q17, .int 0, .ref q18, .ref q22, .ref q26, .int 0, .ref q27, .ref q31, .ref q35, .ref q39, .ref q41, .ref q43, .null])) :: (q17, .inl (K 4, 6, .inr (.inr (.inr (.inr (fun _ => none)))))) :: (q26, .inl (K 5, 4, .inr (.inr (.inr (.inr (fun _ => none)))))) :: ac44) := G
  refine lv_aload_n E.1 E.2.1 dX10_init_154 rfl (lv_at hl 0 rfl) ?_
  refine lv_bipush (v := 64) E.1 E.2.1 dX10_init_155 (by decide) ?_
  refine m_newi E G (N' := 64) (by decide) (by decide) (by decide) (by decide) (by decide) dX10_init_157 (fun q45 H G => ?_)
  obtain ⟨ac46, hac46⟩ : ∃ w : va_W, w = ac44 ++ [(q45, .inl (K 0, 64, .inl (fun _ => 0)))] := ⟨_, rfl⟩
  have G : mG D A s H locs ((h0, .inr (10, [.ref q1, .ref q5, .ref q9, .ref q13, .ref q17, .int 0, .ref q18, .ref q22, .ref q26, .int 0, .ref q27, .ref q31, .ref q35, .ref q39, .ref q41, .ref q43, .null])) :: (q17, .inl (K 4, 6, .inr (.inr (.inr (.inr (fun _ => none)))))) :: (q26, .inl (K 5, 4, .inr (.inr (.inr (.inr (fun _ => none)))))) :: ac46) := by rw [hac46]; exact G
  refine m_putF E G hN 0 (ci := 10) rfl 16 (C := RX10) (T := TX10) (N := 17) rfl (by decide) mw_fl_10_97 rfl rfl rfl rfl (Nat.le_of_ble_eq_true rfl) dX10_init_159 (fun H locs G => ?_)
  have G : mG D A s H locs ((h0, .inr (10, [.ref q1, .ref q5, .ref q9, .ref q13, .ref q17, .int 0, .ref q18, .ref q22, .ref q26, .int 0, .ref q27, .ref q31, .ref q35, .ref q39, .ref q41, .ref q43, .ref q45])) :: (q17, .inl (K 4, 6, .inr (.inr (.inr (.inr (fun _ => none)))))) :: (q26, .inl (K 5, 4, .inr (.inr (.inr (.inr (fun _ => none)))))) :: ac46) := G
  refine lv_iconst (v := 0) E.1 E.2.1 dX10_init_162 (by decide) ?_
  refine lv_istore_n (lv' := [(1, .int 0), (0, .ref h0)]) E.1 E.2.1 dX10_init_163 rfl hl (by decide) rfl (fun ls hl => ?_)
  refine lv_iload_n E.1 E.2.1 dX10_init_164 rfl (lv_at hl 0 rfl) ?_
  refine lv_bipush (v := 6) E.1 E.2.1 dX10_init_165 (by decide) ?_
  refine lv_icmp_ge (tgt := 189) E.1 E.2.1 dX10_init_167 (by decide) (fun h => absurd h (by decide)) (fun _ => ?_)
  refine lv_aload_n E.1 E.2.1 dX10_init_170 rfl (lv_at hl 1 rfl) ?_
  refine m_get E G 0 (ci := 10) rfl 4 (C := RX10) (T := TX10) (N := 17) rfl (by decide) mw_fl_10_39 (v := .ref q17) rfl dX10_init_171 ?_
  refine lv_iload_n E.1 E.2.1 dX10_init_174 rfl (lv_at hl 0 rfl) ?_
  refine m_new E G 4 (C := RX4) (T := TX4) (N := 6) rfl fr_X4 mw_cl_10_37 mw_insta_4 mw_ini_4 (by decide) (by decide) dX10_init_175 (fun q47 H G => ?_)
  have G : mG D A s H locs ((q47, .inr (4, [.int 0, .null, .int 0, .null, .null, .null])) :: (h0, .inr (10, [.ref q1, .ref q5, .ref q9, .ref q13, .ref q17, .int 0, .ref q18, .ref q22, .ref q26, .int 0, .ref q27, .ref q31, .ref q35, .ref q39, .ref q41, .ref q43, .ref q45])) :: (q17, .inl (K 4, 6, .inr (.inr (.inr (.inr (fun _ => none)))))) :: (q26, .inl (K 5, 4, .inr (.inr (.inr (.inr (fun _ => none)))))) :: ac46) := G.pm (pm_f _ _)
  refine lv_dup E.1 E.2.1 dX10_init_178 rfl ?_
  refine n_in E G hl (n_Rule l D K 21 (by decide : at_ 4 21 = true) q47) rfl mw_code_X4_init mw_ini_4 mw_mn_10_47 mw_inst_X4_init hd_X4_init ⟨by decide, by decide⟩ rfl (Nat.le_of_ble_eq_true rfl) ⟨by decide, by decide⟩ dX10_init_179 (fun g48 H locs hp49 G => ?_)
  have G : mG D A s H locs (Bk K 21 5 g48 ++ ((h0, .inr (10, [.ref q1, .ref q5, .ref q9, .ref q13, .ref q17, .int 0, .ref q18, .ref q22, .ref q26, .int 0, .ref q27, .ref q31, .ref q35, .ref q39, .ref q41, .ref q43, .ref q45])) :: (q17, .inl (K 4, 6, .inr (.inr (.inr (.inr (fun _ => none)))))) :: (q26, .inl (K 5, 4, .inr (.inr (.inr (.inr (fun _ => none)))))) :: ac46)) := G.pm List.perm_append_comm
  refine m_aast E G 6 4 0 (ci := 4) (r := (RX4, TX4, 6)) rfl rfl (show some (g48 21, cellF K g48 21) = _ by rw [hp49, cf_o (j := 21) (ci := 4) (rfl : ro 21 = 4) (by decide)]) rfl (by unfold vp_in; decide) dX10_init_182 (fun H locs G => ?_)
  have G : mG D A s H locs (Bk K 21 5 g48 ++ ((h0, .inr (10, [.ref q1, .ref q5, .ref q9, .ref q13, .ref q17, .int 0, .ref q18, .ref q22, .ref q26, .int 0, .ref q27, .ref q31, .ref q35, .ref q39, .ref q41, .ref q43, .ref q45])) :: (q17, .inl (K 4, 6, .inr (.inr (.inr (.inr (va_up (fun _ => none) 0 (some q47))))))) :: (q26, .inl (K 5, 4, .inr (.inr (.inr (.inr (fun _ => none)))))) :: ac46)) := G
  have G : mG D A s H locs (((h0, .inr (10, [.ref q1, .ref q5, .ref q9, .ref q13, .ref q17, .int 0, .ref q18, .ref q22, .ref q26, .int 0, .ref q27, .ref q31, .ref q35, .ref q39, .ref q41, .ref q43, .ref q45])) :: (q17, .inl (K 4, 6, .inr (.inr (.inr (.inr (va_up (fun _ => none) 0 (some q47))))))) :: (q26, .inl (K 5, 4, .inr (.inr (.inr (.inr (fun _ => none)))))) :: ac46) ++ (Bk K 21 5 g48)) := G.pm List.perm_append_comm
  obtain ⟨ac50, hac50⟩ : ∃ w : va_W, w = ac46 ++ (Bk K 21 5 g48) := ⟨_, rfl⟩
  have G : mG D A s H locs ((h0, .inr (10, [.ref q1, .ref q5, .ref q9, .ref q13, .ref q17, .int 0, .ref q18, .ref q22, .ref q26, .int 0, .ref q27, .ref q31, .ref q35, .ref q39, .ref q41, .ref q43, .ref q45])) :: (q17, .inl (K 4, 6, .inr (.inr (.inr (.inr (va_up (fun _ => none) 0 (some q47))))))) :: (q26, .inl (K 5, 4, .inr (.inr (.inr (.inr (fun _ => none)))))) :: ac50) := by rw [hac50]; exact G
  refine lv_iinc (v := 1) (lv' := [(1, .int 1), (0, .ref h0)]) E.1 E.2.1 dX10_init_183 hl (k := 0) rfl (by decide) (by decide) rfl (fun ls hl => ?_)
  refine lv_goto (tgt := 164) E.1 E.2.1 dX10_init_186 (by decide) ?_
  refine lv_iload_n E.1 E.2.1 dX10_init_164 rfl (lv_at hl 0 rfl) ?_
  refine lv_bipush (v := 6) E.1 E.2.1 dX10_init_165 (by decide) ?_
  refine lv_icmp_ge (tgt := 189) E.1 E.2.1 dX10_init_167 (by decide) (fun h => absurd h (by decide)) (fun _ => ?_)
  refine lv_aload_n E.1 E.2.1 dX10_init_170 rfl (lv_at hl 1 rfl) ?_
  refine m_get E G 0 (ci := 10) rfl 4 (C := RX10) (T := TX10) (N := 17) rfl (by decide) mw_fl_10_39 (v := .ref q17) rfl dX10_init_171 ?_
  refine lv_iload_n E.1 E.2.1 dX10_init_174 rfl (lv_at hl 0 rfl) ?_
  refine m_new E G 4 (C := RX4) (T := TX4) (N := 6) rfl fr_X4 mw_cl_10_37 mw_insta_4 mw_ini_4 (by decide) (by decide) dX10_init_175 (fun q51 H G => ?_)
  have G : mG D A s H locs ((q51, .inr (4, [.int 0, .null, .int 0, .null, .null, .null])) :: (h0, .inr (10, [.ref q1, .ref q5, .ref q9, .ref q13, .ref q17, .int 0, .ref q18, .ref q22, .ref q26, .int 0, .ref q27, .ref q31, .ref q35, .ref q39, .ref q41, .ref q43, .ref q45])) :: (q17, .inl (K 4, 6, .inr (.inr (.inr (.inr (va_up (fun _ => none) 0 (some q47))))))) :: (q26, .inl (K 5, 4, .inr (.inr (.inr (.inr (fun _ => none)))))) :: ac50) := G.pm (pm_f _ _)
  refine lv_dup E.1 E.2.1 dX10_init_178 rfl ?_
  refine n_in E G hl (n_Rule l D K 26 (by decide : at_ 4 26 = true) q51) rfl mw_code_X4_init mw_ini_4 mw_mn_10_47 mw_inst_X4_init hd_X4_init ⟨by decide, by decide⟩ rfl (Nat.le_of_ble_eq_true rfl) ⟨by decide, by decide⟩ dX10_init_179 (fun g52 H locs hp53 G => ?_)
  have G : mG D A s H locs (Bk K 26 5 g52 ++ ((h0, .inr (10, [.ref q1, .ref q5, .ref q9, .ref q13, .ref q17, .int 0, .ref q18, .ref q22, .ref q26, .int 0, .ref q27, .ref q31, .ref q35, .ref q39, .ref q41, .ref q43, .ref q45])) :: (q17, .inl (K 4, 6, .inr (.inr (.inr (.inr (va_up (fun _ => none) 0 (some q47))))))) :: (q26, .inl (K 5, 4, .inr (.inr (.inr (.inr (fun _ => none)))))) :: ac50)) := G.pm List.perm_append_comm
  refine m_aast E G 6 4 0 (ci := 4) (r := (RX4, TX4, 6)) rfl rfl (show some (g52 26, cellF K g52 26) = _ by rw [hp53, cf_o (j := 26) (ci := 4) (rfl : ro 26 = 4) (by decide)]) rfl (by unfold vp_in; decide) dX10_init_182 (fun H locs G => ?_)
  have G : mG D A s H locs (Bk K 26 5 g52 ++ ((h0, .inr (10, [.ref q1, .ref q5, .ref q9, .ref q13, .ref q17, .int 0, .ref q18, .ref q22, .ref q26, .int 0, .ref q27, .ref q31, .ref q35, .ref q39, .ref q41, .ref q43, .ref q45])) :: (q17, .inl (K 4, 6, .inr (.inr (.inr (.inr (va_up (va_up (fun _ => none) 0 (some q47)) 1 (some q51))))))) :: (q26, .inl (K 5, 4, .inr (.inr (.inr (.inr (fun _ => none)))))) :: ac50)) := G
  have G : mG D A s H locs (((h0, .inr (10, [.ref q1, .ref q5, .ref q9, .ref q13, .ref q17, .int 0, .ref q18, .ref q22, .ref q26, .int 0, .ref q27, .ref q31, .ref q35, .ref q39, .ref q41, .ref q43, .ref q45])) :: (q17, .inl (K 4, 6, .inr (.inr (.inr (.inr (va_up (va_up (fun _ => none) 0 (some q47)) 1 (some q51))))))) :: (q26, .inl (K 5, 4, .inr (.inr (.inr (.inr (fun _ => none)))))) :: ac50) ++ (Bk K 26 5 g52)) := G.pm List.perm_append_comm
  obtain ⟨ac54, hac54⟩ : ∃ w : va_W, w = ac50 ++ (Bk K 26 5 g52) := ⟨_, rfl⟩
  have G : mG D A s H locs ((h0, .inr (10, [.ref q1, .ref q5, .ref q9, .ref q13, .ref q17, .int 0, .ref q18, .ref q22, .ref q26, .int 0, .ref q27, .ref q31, .ref q35, .ref q39, .ref q41, .ref q43, .ref q45])) :: (q17, .inl (K 4, 6, .inr (.inr (.inr (.inr (va_up (va_up (fun _ => none) 0 (some q47)) 1 (some q51))))))) :: (q26, .inl (K 5, 4, .inr (.inr (.inr (.inr (fun _ => none)))))) :: ac54) := by rw [hac54]; exact G
  refine lv_iinc (v := 2) (lv' := [(1, .int 2), (0, .ref h0)]) E.1 E.2.1 dX10_init_183 hl (k := 0) rfl (by decide) (by decide) rfl (fun ls hl => ?_)
  refine lv_goto (tgt := 164) E.1 E.2.1 dX10_init_186 (by decide) ?_
  refine lv_iload_n E.1 E.2.1 dX10_init_164 rfl (lv_at hl 0 rfl) ?_
  refine lv_bipush (v := 6) E.1 E.2.1 dX10_init_165 (by decide) ?_
  refine lv_icmp_ge (tgt := 189) E.1 E.2.1 dX10_init_167 (by decide) (fun h => absurd h (by decide)) (fun _ => ?_)
  refine lv_aload_n E.1 E.2.1 dX10_init_170 rfl (lv_at hl 1 rfl) ?_
  refine m_get E G 0 (ci := 10) rfl 4 (C := RX10) (T := TX10) (N := 17) rfl (by decide) mw_fl_10_39 (v := .ref q17) rfl dX10_init_171 ?_
  refine lv_iload_n E.1 E.2.1 dX10_init_174 rfl (lv_at hl 0 rfl) ?_
  refine m_new E G 4 (C := RX4) (T := TX4) (N := 6) rfl fr_X4 mw_cl_10_37 mw_insta_4 mw_ini_4 (by decide) (by decide) dX10_init_175 (fun q55 H G => ?_)
  have G : mG D A s H locs ((q55, .inr (4, [.int 0, .null, .int 0, .null, .null, .null])) :: (h0, .inr (10, [.ref q1, .ref q5, .ref q9, .ref q13, .ref q17, .int 0, .ref q18, .ref q22, .ref q26, .int 0, .ref q27, .ref q31, .ref q35, .ref q39, .ref q41, .ref q43, .ref q45])) :: (q17, .inl (K 4, 6, .inr (.inr (.inr (.inr (va_up (va_up (fun _ => none) 0 (some q47)) 1 (some q51))))))) :: (q26, .inl (K 5, 4, .inr (.inr (.inr (.inr (fun _ => none)))))) :: ac54) := G.pm (pm_f _ _)
  refine lv_dup E.1 E.2.1 dX10_init_178 rfl ?_
  refine n_in E G hl (n_Rule l D K 31 (by decide : at_ 4 31 = true) q55) rfl mw_code_X4_init mw_ini_4 mw_mn_10_47 mw_inst_X4_init hd_X4_init ⟨by decide, by decide⟩ rfl (Nat.le_of_ble_eq_true rfl) ⟨by decide, by decide⟩ dX10_init_179 (fun g56 H locs hp57 G => ?_)
  have G : mG D A s H locs (Bk K 31 5 g56 ++ ((h0, .inr (10, [.ref q1, .ref q5, .ref q9, .ref q13, .ref q17, .int 0, .ref q18, .ref q22, .ref q26, .int 0, .ref q27, .ref q31, .ref q35, .ref q39, .ref q41, .ref q43, .ref q45])) :: (q17, .inl (K 4, 6, .inr (.inr (.inr (.inr (va_up (va_up (fun _ => none) 0 (some q47)) 1 (some q51))))))) :: (q26, .inl (K 5, 4, .inr (.inr (.inr (.inr (fun _ => none)))))) :: ac54)) := G.pm List.perm_append_comm
  refine m_aast E G 6 4 0 (ci := 4) (r := (RX4, TX4, 6)) rfl rfl (show some (g56 31, cellF K g56 31) = _ by rw [hp57, cf_o (j := 31) (ci := 4) (rfl : ro 31 = 4) (by decide)]) rfl (by unfold vp_in; decide) dX10_init_182 (fun H locs G => ?_)
  have G : mG D A s H locs (Bk K 31 5 g56 ++ ((h0, .inr (10, [.ref q1, .ref q5, .ref q9, .ref q13, .ref q17, .int 0, .ref q18, .ref q22, .ref q26, .int 0, .ref q27, .ref q31, .ref q35, .ref q39, .ref q41, .ref q43, .ref q45])) :: (q17, .inl (K 4, 6, .inr (.inr (.inr (.inr (va_up (va_up (va_up (fun _ => none) 0 (some q47)) 1 (some q51)) 2 (some q55))))))) :: (q26, .inl (K 5, 4, .inr (.inr (.inr (.inr (fun _ => none)))))) :: ac54)) := G
  have G : mG D A s H locs (((h0, .inr (10, [.ref q1, .ref q5, .ref q9, .ref q13, .ref q17, .int 0, .ref q18, .ref q22, .ref q26, .int 0, .ref q27, .ref q31, .ref q35, .ref q39, .ref q41, .ref q43, .ref q45])) :: (q17, .inl (K 4, 6, .inr (.inr (.inr (.inr (va_up (va_up (va_up (fun _ => none) 0 (some q47)) 1 (some q51)) 2 (some q55))))))) :: (q26, .inl (K 5, 4, .inr (.inr (.inr (.inr (fun _ => none)))))) :: ac54) ++ (Bk K 31 5 g56)) := G.pm List.perm_append_comm
  obtain ⟨ac58, hac58⟩ : ∃ w : va_W, w = ac54 ++ (Bk K 31 5 g56) := ⟨_, rfl⟩
  have G : mG D A s H locs ((h0, .inr (10, [.ref q1, .ref q5, .ref q9, .ref q13, .ref q17, .int 0, .ref q18, .ref q22, .ref q26, .int 0, .ref q27, .ref q31, .ref q35, .ref q39, .ref q41, .ref q43, .ref q45])) :: (q17, .inl (K 4, 6, .inr (.inr (.inr (.inr (va_up (va_up (va_up (fun _ => none) 0 (some q47)) 1 (some q51)) 2 (some q55))))))) :: (q26, .inl (K 5, 4, .inr (.inr (.inr (.inr (fun _ => none)))))) :: ac58) := by rw [hac58]; exact G
  refine lv_iinc (v := 3) (lv' := [(1, .int 3), (0, .ref h0)]) E.1 E.2.1 dX10_init_183 hl (k := 0) rfl (by decide) (by decide) rfl (fun ls hl => ?_)
  refine lv_goto (tgt := 164) E.1 E.2.1 dX10_init_186 (by decide) ?_
  refine lv_iload_n E.1 E.2.1 dX10_init_164 rfl (lv_at hl 0 rfl) ?_
  refine lv_bipush (v := 6) E.1 E.2.1 dX10_init_165 (by decide) ?_
  refine lv_icmp_ge (tgt := 189) E.1 E.2.1 dX10_init_167 (by decide) (fun h => absurd h (by decide)) (fun _ => ?_)
  refine lv_aload_n E.1 E.2.1 dX10_init_170 rfl (lv_at hl 1 rfl) ?_
  refine m_get E G 0 (ci := 10) rfl 4 (C := RX10) (T := TX10) (N := 17) rfl (by decide) mw_fl_10_39 (v := .ref q17) rfl dX10_init_171 ?_
  refine lv_iload_n E.1 E.2.1 dX10_init_174 rfl (lv_at hl 0 rfl) ?_
  refine m_new E G 4 (C := RX4) (T := TX4) (N := 6) rfl fr_X4 mw_cl_10_37 mw_insta_4 mw_ini_4 (by decide) (by decide) dX10_init_175 (fun q59 H G => ?_)
  have G : mG D A s H locs ((q59, .inr (4, [.int 0, .null, .int 0, .null, .null, .null])) :: (h0, .inr (10, [.ref q1, .ref q5, .ref q9, .ref q13, .ref q17, .int 0, .ref q18, .ref q22, .ref q26, .int 0, .ref q27, .ref q31, .ref q35, .ref q39, .ref q41, .ref q43, .ref q45])) :: (q17, .inl (K 4, 6, .inr (.inr (.inr (.inr (va_up (va_up (va_up (fun _ => none) 0 (some q47)) 1 (some q51)) 2 (some q55))))))) :: (q26, .inl (K 5, 4, .inr (.inr (.inr (.inr (fun _ => none)))))) :: ac58) := G.pm (pm_f _ _)
  refine lv_dup E.1 E.2.1 dX10_init_178 rfl ?_
  refine n_in E G hl (n_Rule l D K 36 (by decide : at_ 4 36 = true) q59) rfl mw_code_X4_init mw_ini_4 mw_mn_10_47 mw_inst_X4_init hd_X4_init ⟨by decide, by decide⟩ rfl (Nat.le_of_ble_eq_true rfl) ⟨by decide, by decide⟩ dX10_init_179 (fun g60 H locs hp61 G => ?_)
  have G : mG D A s H locs (Bk K 36 5 g60 ++ ((h0, .inr (10, [.ref q1, .ref q5, .ref q9, .ref q13, .ref q17, .int 0, .ref q18, .ref q22, .ref q26, .int 0, .ref q27, .ref q31, .ref q35, .ref q39, .ref q41, .ref q43, .ref q45])) :: (q17, .inl (K 4, 6, .inr (.inr (.inr (.inr (va_up (va_up (va_up (fun _ => none) 0 (some q47)) 1 (some q51)) 2 (some q55))))))) :: (q26, .inl (K 5, 4, .inr (.inr (.inr (.inr (fun _ => none)))))) :: ac58)) := G.pm List.perm_append_comm
  refine m_aast E G 6 4 0 (ci := 4) (r := (RX4, TX4, 6)) rfl rfl (show some (g60 36, cellF K g60 36) = _ by rw [hp61, cf_o (j := 36) (ci := 4) (rfl : ro 36 = 4) (by decide)]) rfl (by unfold vp_in; decide) dX10_init_182 (fun H locs G => ?_)
  have G : mG D A s H locs (Bk K 36 5 g60 ++ ((h0, .inr (10, [.ref q1, .ref q5, .ref q9, .ref q13, .ref q17, .int 0, .ref q18, .ref q22, .ref q26, .int 0, .ref q27, .ref q31, .ref q35, .ref q39, .ref q41, .ref q43, .ref q45])) :: (q17, .inl (K 4, 6, .inr (.inr (.inr (.inr (va_up (va_up (va_up (va_up (fun _ => none) 0 (some q47)) 1 (some q51)) 2 (some q55)) 3 (some q59))))))) :: (q26, .inl (K 5, 4, .inr (.inr (.inr (.inr (fun _ => none)))))) :: ac58)) := G
  have G : mG D A s H locs (((h0, .inr (10, [.ref q1, .ref q5, .ref q9, .ref q13, .ref q17, .int 0, .ref q18, .ref q22, .ref q26, .int 0, .ref q27, .ref q31, .ref q35, .ref q39, .ref q41, .ref q43, .ref q45])) :: (q17, .inl (K 4, 6, .inr (.inr (.inr (.inr (va_up (va_up (va_up (va_up (fun _ => none) 0 (some q47)) 1 (some q51)) 2 (some q55)) 3 (some q59))))))) :: (q26, .inl (K 5, 4, .inr (.inr (.inr (.inr (fun _ => none)))))) :: ac58) ++ (Bk K 36 5 g60)) := G.pm List.perm_append_comm
  obtain ⟨ac62, hac62⟩ : ∃ w : va_W, w = ac58 ++ (Bk K 36 5 g60) := ⟨_, rfl⟩
  have G : mG D A s H locs ((h0, .inr (10, [.ref q1, .ref q5, .ref q9, .ref q13, .ref q17, .int 0, .ref q18, .ref q22, .ref q26, .int 0, .ref q27, .ref q31, .ref q35, .ref q39, .ref q41, .ref q43, .ref q45])) :: (q17, .inl (K 4, 6, .inr (.inr (.inr (.inr (va_up (va_up (va_up (va_up (fun _ => none) 0 (some q47)) 1 (some q51)) 2 (some q55)) 3 (some q59))))))) :: (q26, .inl (K 5, 4, .inr (.inr (.inr (.inr (fun _ => none)))))) :: ac62) := by rw [hac62]; exact G
  refine lv_iinc (v := 4) (lv' := [(1, .int 4), (0, .ref h0)]) E.1 E.2.1 dX10_init_183 hl (k := 0) rfl (by decide) (by decide) rfl (fun ls hl => ?_)
  refine lv_goto (tgt := 164) E.1 E.2.1 dX10_init_186 (by decide) ?_
  refine lv_iload_n E.1 E.2.1 dX10_init_164 rfl (lv_at hl 0 rfl) ?_
  refine lv_bipush (v := 6) E.1 E.2.1 dX10_init_165 (by decide) ?_
  refine lv_icmp_ge (tgt := 189) E.1 E.2.1 dX10_init_167 (by decide) (fun h => absurd h (by decide)) (fun _ => ?_)
  refine lv_aload_n E.1 E.2.1 dX10_init_170 rfl (lv_at hl 1 rfl) ?_
  refine m_get E G 0 (ci := 10) rfl 4 (C := RX10) (T := TX10) (N := 17) rfl (by decide) mw_fl_10_39 (v := .ref q17) rfl dX10_init_171 ?_
  refine lv_iload_n E.1 E.2.1 dX10_init_174 rfl (lv_at hl 0 rfl) ?_
  refine m_new E G 4 (C := RX4) (T := TX4) (N := 6) rfl fr_X4 mw_cl_10_37 mw_insta_4 mw_ini_4 (by decide) (by decide) dX10_init_175 (fun q63 H G => ?_)
  have G : mG D A s H locs ((q63, .inr (4, [.int 0, .null, .int 0, .null, .null, .null])) :: (h0, .inr (10, [.ref q1, .ref q5, .ref q9, .ref q13, .ref q17, .int 0, .ref q18, .ref q22, .ref q26, .int 0, .ref q27, .ref q31, .ref q35, .ref q39, .ref q41, .ref q43, .ref q45])) :: (q17, .inl (K 4, 6, .inr (.inr (.inr (.inr (va_up (va_up (va_up (va_up (fun _ => none) 0 (some q47)) 1 (some q51)) 2 (some q55)) 3 (some q59))))))) :: (q26, .inl (K 5, 4, .inr (.inr (.inr (.inr (fun _ => none)))))) :: ac62) := G.pm (pm_f _ _)
  refine lv_dup E.1 E.2.1 dX10_init_178 rfl ?_
  refine n_in E G hl (n_Rule l D K 41 (by decide : at_ 4 41 = true) q63) rfl mw_code_X4_init mw_ini_4 mw_mn_10_47 mw_inst_X4_init hd_X4_init ⟨by decide, by decide⟩ rfl (Nat.le_of_ble_eq_true rfl) ⟨by decide, by decide⟩ dX10_init_179 (fun g64 H locs hp65 G => ?_)
  have G : mG D A s H locs (Bk K 41 5 g64 ++ ((h0, .inr (10, [.ref q1, .ref q5, .ref q9, .ref q13, .ref q17, .int 0, .ref q18, .ref q22, .ref q26, .int 0, .ref q27, .ref q31, .ref q35, .ref q39, .ref q41, .ref q43, .ref q45])) :: (q17, .inl (K 4, 6, .inr (.inr (.inr (.inr (va_up (va_up (va_up (va_up (fun _ => none) 0 (some q47)) 1 (some q51)) 2 (some q55)) 3 (some q59))))))) :: (q26, .inl (K 5, 4, .inr (.inr (.inr (.inr (fun _ => none)))))) :: ac62)) := G.pm List.perm_append_comm
  refine m_aast E G 6 4 0 (ci := 4) (r := (RX4, TX4, 6)) rfl rfl (show some (g64 41, cellF K g64 41) = _ by rw [hp65, cf_o (j := 41) (ci := 4) (rfl : ro 41 = 4) (by decide)]) rfl (by unfold vp_in; decide) dX10_init_182 (fun H locs G => ?_)
  have G : mG D A s H locs (Bk K 41 5 g64 ++ ((h0, .inr (10, [.ref q1, .ref q5, .ref q9, .ref q13, .ref q17, .int 0, .ref q18, .ref q22, .ref q26, .int 0, .ref q27, .ref q31, .ref q35, .ref q39, .ref q41, .ref q43, .ref q45])) :: (q17, .inl (K 4, 6, .inr (.inr (.inr (.inr (va_up (va_up (va_up (va_up (va_up (fun _ => none) 0 (some q47)) 1 (some q51)) 2 (some q55)) 3 (some q59)) 4 (some q63))))))) :: (q26, .inl (K 5, 4, .inr (.inr (.inr (.inr (fun _ => none)))))) :: ac62)) := G
  have G : mG D A s H locs (((h0, .inr (10, [.ref q1, .ref q5, .ref q9, .ref q13, .ref q17, .int 0, .ref q18, .ref q22, .ref q26, .int 0, .ref q27, .ref q31, .ref q35, .ref q39, .ref q41, .ref q43, .ref q45])) :: (q17, .inl (K 4, 6, .inr (.inr (.inr (.inr (va_up (va_up (va_up (va_up (va_up (fun _ => none) 0 (some q47)) 1 (some q51)) 2 (some q55)) 3 (some q59)) 4 (some q63))))))) :: (q26, .inl (K 5, 4, .inr (.inr (.inr (.inr (fun _ => none)))))) :: ac62) ++ (Bk K 41 5 g64)) := G.pm List.perm_append_comm
  obtain ⟨ac66, hac66⟩ : ∃ w : va_W, w = ac62 ++ (Bk K 41 5 g64) := ⟨_, rfl⟩
  have G : mG D A s H locs ((h0, .inr (10, [.ref q1, .ref q5, .ref q9, .ref q13, .ref q17, .int 0, .ref q18, .ref q22, .ref q26, .int 0, .ref q27, .ref q31, .ref q35, .ref q39, .ref q41, .ref q43, .ref q45])) :: (q17, .inl (K 4, 6, .inr (.inr (.inr (.inr (va_up (va_up (va_up (va_up (va_up (fun _ => none) 0 (some q47)) 1 (some q51)) 2 (some q55)) 3 (some q59)) 4 (some q63))))))) :: (q26, .inl (K 5, 4, .inr (.inr (.inr (.inr (fun _ => none)))))) :: ac66) := by rw [hac66]; exact G
  refine lv_iinc (v := 5) (lv' := [(1, .int 5), (0, .ref h0)]) E.1 E.2.1 dX10_init_183 hl (k := 0) rfl (by decide) (by decide) rfl (fun ls hl => ?_)
  refine lv_goto (tgt := 164) E.1 E.2.1 dX10_init_186 (by decide) ?_
  refine lv_iload_n E.1 E.2.1 dX10_init_164 rfl (lv_at hl 0 rfl) ?_
  refine lv_bipush (v := 6) E.1 E.2.1 dX10_init_165 (by decide) ?_
  refine lv_icmp_ge (tgt := 189) E.1 E.2.1 dX10_init_167 (by decide) (fun h => absurd h (by decide)) (fun _ => ?_)
  refine lv_aload_n E.1 E.2.1 dX10_init_170 rfl (lv_at hl 1 rfl) ?_
  refine m_get E G 0 (ci := 10) rfl 4 (C := RX10) (T := TX10) (N := 17) rfl (by decide) mw_fl_10_39 (v := .ref q17) rfl dX10_init_171 ?_
  refine lv_iload_n E.1 E.2.1 dX10_init_174 rfl (lv_at hl 0 rfl) ?_
  refine m_new E G 4 (C := RX4) (T := TX4) (N := 6) rfl fr_X4 mw_cl_10_37 mw_insta_4 mw_ini_4 (by decide) (by decide) dX10_init_175 (fun q67 H G => ?_)
  have G : mG D A s H locs ((q67, .inr (4, [.int 0, .null, .int 0, .null, .null, .null])) :: (h0, .inr (10, [.ref q1, .ref q5, .ref q9, .ref q13, .ref q17, .int 0, .ref q18, .ref q22, .ref q26, .int 0, .ref q27, .ref q31, .ref q35, .ref q39, .ref q41, .ref q43, .ref q45])) :: (q17, .inl (K 4, 6, .inr (.inr (.inr (.inr (va_up (va_up (va_up (va_up (va_up (fun _ => none) 0 (some q47)) 1 (some q51)) 2 (some q55)) 3 (some q59)) 4 (some q63))))))) :: (q26, .inl (K 5, 4, .inr (.inr (.inr (.inr (fun _ => none)))))) :: ac66) := G.pm (pm_f _ _)
  refine lv_dup E.1 E.2.1 dX10_init_178 rfl ?_
  refine n_in E G hl (n_Rule l D K 46 (by decide : at_ 4 46 = true) q67) rfl mw_code_X4_init mw_ini_4 mw_mn_10_47 mw_inst_X4_init hd_X4_init ⟨by decide, by decide⟩ rfl (Nat.le_of_ble_eq_true rfl) ⟨by decide, by decide⟩ dX10_init_179 (fun g68 H locs hp69 G => ?_)
  have G : mG D A s H locs (Bk K 46 5 g68 ++ ((h0, .inr (10, [.ref q1, .ref q5, .ref q9, .ref q13, .ref q17, .int 0, .ref q18, .ref q22, .ref q26, .int 0, .ref q27, .ref q31, .ref q35, .ref q39, .ref q41, .ref q43, .ref q45])) :: (q17, .inl (K 4, 6, .inr (.inr (.inr (.inr (va_up (va_up (va_up (va_up (va_up (fun _ => none) 0 (some q47)) 1 (some q51)) 2 (some q55)) 3 (some q59)) 4 (some q63))))))) :: (q26, .inl (K 5, 4, .inr (.inr (.inr (.inr (fun _ => none)))))) :: ac66)) := G.pm List.perm_append_comm
  refine m_aast E G 6 4 0 (ci := 4) (r := (RX4, TX4, 6)) rfl rfl (show some (g68 46, cellF K g68 46) = _ by rw [hp69, cf_o (j := 46) (ci := 4) (rfl : ro 46 = 4) (by decide)]) rfl (by unfold vp_in; decide) dX10_init_182 (fun H locs G => ?_)
  have G : mG D A s H locs (Bk K 46 5 g68 ++ ((h0, .inr (10, [.ref q1, .ref q5, .ref q9, .ref q13, .ref q17, .int 0, .ref q18, .ref q22, .ref q26, .int 0, .ref q27, .ref q31, .ref q35, .ref q39, .ref q41, .ref q43, .ref q45])) :: (q17, .inl (K 4, 6, .inr (.inr (.inr (.inr (va_up (va_up (va_up (va_up (va_up (va_up (fun _ => none) 0 (some q47)) 1 (some q51)) 2 (some q55)) 3 (some q59)) 4 (some q63)) 5 (some q67))))))) :: (q26, .inl (K 5, 4, .inr (.inr (.inr (.inr (fun _ => none)))))) :: ac66)) := G
  have G : mG D A s H locs (((h0, .inr (10, [.ref q1, .ref q5, .ref q9, .ref q13, .ref q17, .int 0, .ref q18, .ref q22, .ref q26, .int 0, .ref q27, .ref q31, .ref q35, .ref q39, .ref q41, .ref q43, .ref q45])) :: (q17, .inl (K 4, 6, .inr (.inr (.inr (.inr (va_up (va_up (va_up (va_up (va_up (va_up (fun _ => none) 0 (some q47)) 1 (some q51)) 2 (some q55)) 3 (some q59)) 4 (some q63)) 5 (some q67))))))) :: (q26, .inl (K 5, 4, .inr (.inr (.inr (.inr (fun _ => none)))))) :: ac66) ++ (Bk K 46 5 g68)) := G.pm List.perm_append_comm
  obtain ⟨ac70, hac70⟩ : ∃ w : va_W, w = ac66 ++ (Bk K 46 5 g68) := ⟨_, rfl⟩
  have G : mG D A s H locs ((h0, .inr (10, [.ref q1, .ref q5, .ref q9, .ref q13, .ref q17, .int 0, .ref q18, .ref q22, .ref q26, .int 0, .ref q27, .ref q31, .ref q35, .ref q39, .ref q41, .ref q43, .ref q45])) :: (q17, .inl (K 4, 6, .inr (.inr (.inr (.inr (va_up (va_up (va_up (va_up (va_up (va_up (fun _ => none) 0 (some q47)) 1 (some q51)) 2 (some q55)) 3 (some q59)) 4 (some q63)) 5 (some q67))))))) :: (q26, .inl (K 5, 4, .inr (.inr (.inr (.inr (fun _ => none)))))) :: ac70) := by rw [hac70]; exact G
  refine lv_iinc (v := 6) (lv' := [(1, .int 6), (0, .ref h0)]) E.1 E.2.1 dX10_init_183 hl (k := 0) rfl (by decide) (by decide) rfl (fun ls hl => ?_)
  refine lv_goto (tgt := 164) E.1 E.2.1 dX10_init_186 (by decide) ?_
  refine lv_iload_n E.1 E.2.1 dX10_init_164 rfl (lv_at hl 0 rfl) ?_
  refine lv_bipush (v := 6) E.1 E.2.1 dX10_init_165 (by decide) ?_
  refine lv_icmp_ge (tgt := 189) E.1 E.2.1 dX10_init_167 (by decide) (fun _ => ?_) (fun h => absurd (by decide) h)
  refine lv_iconst (v := 0) E.1 E.2.1 dX10_init_189 (by decide) ?_
  refine lv_istore_n (lv' := [(1, .int 0), (0, .ref h0)]) E.1 E.2.1 dX10_init_190 rfl hl (by decide) rfl (fun ls hl => ?_)
  refine lv_iload_n E.1 E.2.1 dX10_init_191 rfl (lv_at hl 0 rfl) ?_
  refine lv_iconst (v := 4) E.1 E.2.1 dX10_init_192 (by decide) ?_
  refine lv_icmp_ge (tgt := 215) E.1 E.2.1 dX10_init_193 (by decide) (fun h => absurd h (by decide)) (fun _ => ?_)
  refine lv_aload_n E.1 E.2.1 dX10_init_196 rfl (lv_at hl 1 rfl) ?_
  refine m_get E G 0 (ci := 10) rfl 8 (C := RX10) (T := TX10) (N := 17) rfl (by decide) mw_fl_10_59 (v := .ref q26) rfl dX10_init_197 ?_
  refine lv_iload_n E.1 E.2.1 dX10_init_200 rfl (lv_at hl 0 rfl) ?_
  refine m_new E G 2 (C := RX2) (T := TX2) (N := 5) rfl fr_X2 mw_cl_10_52 mw_insta_2 mw_ini_2 (by decide) (by decide) dX10_init_201 (fun q71 H G => ?_)
  have G : mG D A s H locs ((q71, .inr (2, [.null, .null, .null, .int 0, .int 0])) :: (h0, .inr (10, [.ref q1, .ref q5, .ref q9, .ref q13, .ref q17, .int 0, .ref q18, .ref q22, .ref q26, .int 0, .ref q27, .ref q31, .ref q35, .ref q39, .ref q41, .ref q43, .ref q45])) :: (q17, .inl (K 4, 6, .inr (.inr (.inr (.inr (va_up (va_up (va_up (va_up (va_up (va_up (fun _ => none) 0 (some q47)) 1 (some q51)) 2 (some q55)) 3 (some q59)) 4 (some q63)) 5 (some q67))))))) :: (q26, .inl (K 5, 4, .inr (.inr (.inr (.inr (fun _ => none)))))) :: ac70) := G.pm (pm_f _ _)
  refine lv_dup E.1 E.2.1 dX10_init_204 rfl ?_
  refine n_in E G hl (n_Moment l D K 82 (by decide : at_ 2 82 = true) q71) rfl mw_code_X2_init mw_ini_2 mw_mn_10_54 mw_inst_X2_init hd_X2_init ⟨by decide, by decide⟩ rfl (Nat.le_of_ble_eq_true rfl) ⟨by decide, by decide⟩ dX10_init_205 (fun g72 H locs hp73 G => ?_)
  have G : mG D A s H locs (Bk K 82 25 g72 ++ ((h0, .inr (10, [.ref q1, .ref q5, .ref q9, .ref q13, .ref q17, .int 0, .ref q18, .ref q22, .ref q26, .int 0, .ref q27, .ref q31, .ref q35, .ref q39, .ref q41, .ref q43, .ref q45])) :: (q17, .inl (K 4, 6, .inr (.inr (.inr (.inr (va_up (va_up (va_up (va_up (va_up (va_up (fun _ => none) 0 (some q47)) 1 (some q51)) 2 (some q55)) 3 (some q59)) 4 (some q63)) 5 (some q67))))))) :: (q26, .inl (K 5, 4, .inr (.inr (.inr (.inr (fun _ => none)))))) :: ac70)) := G.pm List.perm_append_comm
  refine m_aast E G 27 5 0 (ci := 2) (r := (RX2, TX2, 5)) rfl rfl (show some (g72 82, cellF K g72 82) = _ by rw [hp73, cf_o (j := 82) (ci := 2) (rfl : ro 82 = 2) (by decide)]) rfl (by unfold vp_in; decide) dX10_init_208 (fun H locs G => ?_)
  have G : mG D A s H locs (Bk K 82 25 g72 ++ ((h0, .inr (10, [.ref q1, .ref q5, .ref q9, .ref q13, .ref q17, .int 0, .ref q18, .ref q22, .ref q26, .int 0, .ref q27, .ref q31, .ref q35, .ref q39, .ref q41, .ref q43, .ref q45])) :: (q17, .inl (K 4, 6, .inr (.inr (.inr (.inr (va_up (va_up (va_up (va_up (va_up (va_up (fun _ => none) 0 (some q47)) 1 (some q51)) 2 (some q55)) 3 (some q59)) 4 (some q63)) 5 (some q67))))))) :: (q26, .inl (K 5, 4, .inr (.inr (.inr (.inr (va_up (fun _ => none) 0 (some q71))))))) :: ac70)) := G
  have G : mG D A s H locs (((h0, .inr (10, [.ref q1, .ref q5, .ref q9, .ref q13, .ref q17, .int 0, .ref q18, .ref q22, .ref q26, .int 0, .ref q27, .ref q31, .ref q35, .ref q39, .ref q41, .ref q43, .ref q45])) :: (q17, .inl (K 4, 6, .inr (.inr (.inr (.inr (va_up (va_up (va_up (va_up (va_up (va_up (fun _ => none) 0 (some q47)) 1 (some q51)) 2 (some q55)) 3 (some q59)) 4 (some q63)) 5 (some q67))))))) :: (q26, .inl (K 5, 4, .inr (.inr (.inr (.inr (va_up (fun _ => none) 0 (some q71))))))) :: ac70) ++ (Bk K 82 25 g72)) := G.pm List.perm_append_comm
  obtain ⟨ac74, hac74⟩ : ∃ w : va_W, w = ac70 ++ (Bk K 82 25 g72) := ⟨_, rfl⟩
  have G : mG D A s H locs ((h0, .inr (10, [.ref q1, .ref q5, .ref q9, .ref q13, .ref q17, .int 0, .ref q18, .ref q22, .ref q26, .int 0, .ref q27, .ref q31, .ref q35, .ref q39, .ref q41, .ref q43, .ref q45])) :: (q17, .inl (K 4, 6, .inr (.inr (.inr (.inr (va_up (va_up (va_up (va_up (va_up (va_up (fun _ => none) 0 (some q47)) 1 (some q51)) 2 (some q55)) 3 (some q59)) 4 (some q63)) 5 (some q67))))))) :: (q26, .inl (K 5, 4, .inr (.inr (.inr (.inr (va_up (fun _ => none) 0 (some q71))))))) :: ac74) := by rw [hac74]; exact G
  refine lv_iinc (v := 1) (lv' := [(1, .int 1), (0, .ref h0)]) E.1 E.2.1 dX10_init_209 hl (k := 0) rfl (by decide) (by decide) rfl (fun ls hl => ?_)
  refine lv_goto (tgt := 191) E.1 E.2.1 dX10_init_212 (by decide) ?_
  refine lv_iload_n E.1 E.2.1 dX10_init_191 rfl (lv_at hl 0 rfl) ?_
  refine lv_iconst (v := 4) E.1 E.2.1 dX10_init_192 (by decide) ?_
  refine lv_icmp_ge (tgt := 215) E.1 E.2.1 dX10_init_193 (by decide) (fun h => absurd h (by decide)) (fun _ => ?_)
  refine lv_aload_n E.1 E.2.1 dX10_init_196 rfl (lv_at hl 1 rfl) ?_
  refine m_get E G 0 (ci := 10) rfl 8 (C := RX10) (T := TX10) (N := 17) rfl (by decide) mw_fl_10_59 (v := .ref q26) rfl dX10_init_197 ?_
  refine lv_iload_n E.1 E.2.1 dX10_init_200 rfl (lv_at hl 0 rfl) ?_
  refine m_new E G 2 (C := RX2) (T := TX2) (N := 5) rfl fr_X2 mw_cl_10_52 mw_insta_2 mw_ini_2 (by decide) (by decide) dX10_init_201 (fun q75 H G => ?_)
  have G : mG D A s H locs ((q75, .inr (2, [.null, .null, .null, .int 0, .int 0])) :: (h0, .inr (10, [.ref q1, .ref q5, .ref q9, .ref q13, .ref q17, .int 0, .ref q18, .ref q22, .ref q26, .int 0, .ref q27, .ref q31, .ref q35, .ref q39, .ref q41, .ref q43, .ref q45])) :: (q17, .inl (K 4, 6, .inr (.inr (.inr (.inr (va_up (va_up (va_up (va_up (va_up (va_up (fun _ => none) 0 (some q47)) 1 (some q51)) 2 (some q55)) 3 (some q59)) 4 (some q63)) 5 (some q67))))))) :: (q26, .inl (K 5, 4, .inr (.inr (.inr (.inr (va_up (fun _ => none) 0 (some q71))))))) :: ac74) := G.pm (pm_f _ _)
  refine lv_dup E.1 E.2.1 dX10_init_204 rfl ?_
  refine n_in E G hl (n_Moment l D K 107 (by decide : at_ 2 107 = true) q75) rfl mw_code_X2_init mw_ini_2 mw_mn_10_54 mw_inst_X2_init hd_X2_init ⟨by decide, by decide⟩ rfl (Nat.le_of_ble_eq_true rfl) ⟨by decide, by decide⟩ dX10_init_205 (fun g76 H locs hp77 G => ?_)
  have G : mG D A s H locs (Bk K 107 25 g76 ++ ((h0, .inr (10, [.ref q1, .ref q5, .ref q9, .ref q13, .ref q17, .int 0, .ref q18, .ref q22, .ref q26, .int 0, .ref q27, .ref q31, .ref q35, .ref q39, .ref q41, .ref q43, .ref q45])) :: (q17, .inl (K 4, 6, .inr (.inr (.inr (.inr (va_up (va_up (va_up (va_up (va_up (va_up (fun _ => none) 0 (some q47)) 1 (some q51)) 2 (some q55)) 3 (some q59)) 4 (some q63)) 5 (some q67))))))) :: (q26, .inl (K 5, 4, .inr (.inr (.inr (.inr (va_up (fun _ => none) 0 (some q71))))))) :: ac74)) := G.pm List.perm_append_comm
  refine m_aast E G 27 5 0 (ci := 2) (r := (RX2, TX2, 5)) rfl rfl (show some (g76 107, cellF K g76 107) = _ by rw [hp77, cf_o (j := 107) (ci := 2) (rfl : ro 107 = 2) (by decide)]) rfl (by unfold vp_in; decide) dX10_init_208 (fun H locs G => ?_)
  have G : mG D A s H locs (Bk K 107 25 g76 ++ ((h0, .inr (10, [.ref q1, .ref q5, .ref q9, .ref q13, .ref q17, .int 0, .ref q18, .ref q22, .ref q26, .int 0, .ref q27, .ref q31, .ref q35, .ref q39, .ref q41, .ref q43, .ref q45])) :: (q17, .inl (K 4, 6, .inr (.inr (.inr (.inr (va_up (va_up (va_up (va_up (va_up (va_up (fun _ => none) 0 (some q47)) 1 (some q51)) 2 (some q55)) 3 (some q59)) 4 (some q63)) 5 (some q67))))))) :: (q26, .inl (K 5, 4, .inr (.inr (.inr (.inr (va_up (va_up (fun _ => none) 0 (some q71)) 1 (some q75))))))) :: ac74)) := G
  have G : mG D A s H locs (((h0, .inr (10, [.ref q1, .ref q5, .ref q9, .ref q13, .ref q17, .int 0, .ref q18, .ref q22, .ref q26, .int 0, .ref q27, .ref q31, .ref q35, .ref q39, .ref q41, .ref q43, .ref q45])) :: (q17, .inl (K 4, 6, .inr (.inr (.inr (.inr (va_up (va_up (va_up (va_up (va_up (va_up (fun _ => none) 0 (some q47)) 1 (some q51)) 2 (some q55)) 3 (some q59)) 4 (some q63)) 5 (some q67))))))) :: (q26, .inl (K 5, 4, .inr (.inr (.inr (.inr (va_up (va_up (fun _ => none) 0 (some q71)) 1 (some q75))))))) :: ac74) ++ (Bk K 107 25 g76)) := G.pm List.perm_append_comm
  obtain ⟨ac78, hac78⟩ : ∃ w : va_W, w = ac74 ++ (Bk K 107 25 g76) := ⟨_, rfl⟩
  have G : mG D A s H locs ((h0, .inr (10, [.ref q1, .ref q5, .ref q9, .ref q13, .ref q17, .int 0, .ref q18, .ref q22, .ref q26, .int 0, .ref q27, .ref q31, .ref q35, .ref q39, .ref q41, .ref q43, .ref q45])) :: (q17, .inl (K 4, 6, .inr (.inr (.inr (.inr (va_up (va_up (va_up (va_up (va_up (va_up (fun _ => none) 0 (some q47)) 1 (some q51)) 2 (some q55)) 3 (some q59)) 4 (some q63)) 5 (some q67))))))) :: (q26, .inl (K 5, 4, .inr (.inr (.inr (.inr (va_up (va_up (fun _ => none) 0 (some q71)) 1 (some q75))))))) :: ac78) := by rw [hac78]; exact G
  refine lv_iinc (v := 2) (lv' := [(1, .int 2), (0, .ref h0)]) E.1 E.2.1 dX10_init_209 hl (k := 0) rfl (by decide) (by decide) rfl (fun ls hl => ?_)
  refine lv_goto (tgt := 191) E.1 E.2.1 dX10_init_212 (by decide) ?_
  refine lv_iload_n E.1 E.2.1 dX10_init_191 rfl (lv_at hl 0 rfl) ?_
  refine lv_iconst (v := 4) E.1 E.2.1 dX10_init_192 (by decide) ?_
  refine lv_icmp_ge (tgt := 215) E.1 E.2.1 dX10_init_193 (by decide) (fun h => absurd h (by decide)) (fun _ => ?_)
  refine lv_aload_n E.1 E.2.1 dX10_init_196 rfl (lv_at hl 1 rfl) ?_
  refine m_get E G 0 (ci := 10) rfl 8 (C := RX10) (T := TX10) (N := 17) rfl (by decide) mw_fl_10_59 (v := .ref q26) rfl dX10_init_197 ?_
  refine lv_iload_n E.1 E.2.1 dX10_init_200 rfl (lv_at hl 0 rfl) ?_
  refine m_new E G 2 (C := RX2) (T := TX2) (N := 5) rfl fr_X2 mw_cl_10_52 mw_insta_2 mw_ini_2 (by decide) (by decide) dX10_init_201 (fun q79 H G => ?_)
  have G : mG D A s H locs ((q79, .inr (2, [.null, .null, .null, .int 0, .int 0])) :: (h0, .inr (10, [.ref q1, .ref q5, .ref q9, .ref q13, .ref q17, .int 0, .ref q18, .ref q22, .ref q26, .int 0, .ref q27, .ref q31, .ref q35, .ref q39, .ref q41, .ref q43, .ref q45])) :: (q17, .inl (K 4, 6, .inr (.inr (.inr (.inr (va_up (va_up (va_up (va_up (va_up (va_up (fun _ => none) 0 (some q47)) 1 (some q51)) 2 (some q55)) 3 (some q59)) 4 (some q63)) 5 (some q67))))))) :: (q26, .inl (K 5, 4, .inr (.inr (.inr (.inr (va_up (va_up (fun _ => none) 0 (some q71)) 1 (some q75))))))) :: ac78) := G.pm (pm_f _ _)
  refine lv_dup E.1 E.2.1 dX10_init_204 rfl ?_
  refine n_in E G hl (n_Moment l D K 132 (by decide : at_ 2 132 = true) q79) rfl mw_code_X2_init mw_ini_2 mw_mn_10_54 mw_inst_X2_init hd_X2_init ⟨by decide, by decide⟩ rfl (Nat.le_of_ble_eq_true rfl) ⟨by decide, by decide⟩ dX10_init_205 (fun g80 H locs hp81 G => ?_)
  have G : mG D A s H locs (Bk K 132 25 g80 ++ ((h0, .inr (10, [.ref q1, .ref q5, .ref q9, .ref q13, .ref q17, .int 0, .ref q18, .ref q22, .ref q26, .int 0, .ref q27, .ref q31, .ref q35, .ref q39, .ref q41, .ref q43, .ref q45])) :: (q17, .inl (K 4, 6, .inr (.inr (.inr (.inr (va_up (va_up (va_up (va_up (va_up (va_up (fun _ => none) 0 (some q47)) 1 (some q51)) 2 (some q55)) 3 (some q59)) 4 (some q63)) 5 (some q67))))))) :: (q26, .inl (K 5, 4, .inr (.inr (.inr (.inr (va_up (va_up (fun _ => none) 0 (some q71)) 1 (some q75))))))) :: ac78)) := G.pm List.perm_append_comm
  refine m_aast E G 27 5 0 (ci := 2) (r := (RX2, TX2, 5)) rfl rfl (show some (g80 132, cellF K g80 132) = _ by rw [hp81, cf_o (j := 132) (ci := 2) (rfl : ro 132 = 2) (by decide)]) rfl (by unfold vp_in; decide) dX10_init_208 (fun H locs G => ?_)
  have G : mG D A s H locs (Bk K 132 25 g80 ++ ((h0, .inr (10, [.ref q1, .ref q5, .ref q9, .ref q13, .ref q17, .int 0, .ref q18, .ref q22, .ref q26, .int 0, .ref q27, .ref q31, .ref q35, .ref q39, .ref q41, .ref q43, .ref q45])) :: (q17, .inl (K 4, 6, .inr (.inr (.inr (.inr (va_up (va_up (va_up (va_up (va_up (va_up (fun _ => none) 0 (some q47)) 1 (some q51)) 2 (some q55)) 3 (some q59)) 4 (some q63)) 5 (some q67))))))) :: (q26, .inl (K 5, 4, .inr (.inr (.inr (.inr (va_up (va_up (va_up (fun _ => none) 0 (some q71)) 1 (some q75)) 2 (some q79))))))) :: ac78)) := G
  have G : mG D A s H locs (((h0, .inr (10, [.ref q1, .ref q5, .ref q9, .ref q13, .ref q17, .int 0, .ref q18, .ref q22, .ref q26, .int 0, .ref q27, .ref q31, .ref q35, .ref q39, .ref q41, .ref q43, .ref q45])) :: (q17, .inl (K 4, 6, .inr (.inr (.inr (.inr (va_up (va_up (va_up (va_up (va_up (va_up (fun _ => none) 0 (some q47)) 1 (some q51)) 2 (some q55)) 3 (some q59)) 4 (some q63)) 5 (some q67))))))) :: (q26, .inl (K 5, 4, .inr (.inr (.inr (.inr (va_up (va_up (va_up (fun _ => none) 0 (some q71)) 1 (some q75)) 2 (some q79))))))) :: ac78) ++ (Bk K 132 25 g80)) := G.pm List.perm_append_comm
  obtain ⟨ac82, hac82⟩ : ∃ w : va_W, w = ac78 ++ (Bk K 132 25 g80) := ⟨_, rfl⟩
  have G : mG D A s H locs ((h0, .inr (10, [.ref q1, .ref q5, .ref q9, .ref q13, .ref q17, .int 0, .ref q18, .ref q22, .ref q26, .int 0, .ref q27, .ref q31, .ref q35, .ref q39, .ref q41, .ref q43, .ref q45])) :: (q17, .inl (K 4, 6, .inr (.inr (.inr (.inr (va_up (va_up (va_up (va_up (va_up (va_up (fun _ => none) 0 (some q47)) 1 (some q51)) 2 (some q55)) 3 (some q59)) 4 (some q63)) 5 (some q67))))))) :: (q26, .inl (K 5, 4, .inr (.inr (.inr (.inr (va_up (va_up (va_up (fun _ => none) 0 (some q71)) 1 (some q75)) 2 (some q79))))))) :: ac82) := by rw [hac82]; exact G
  refine lv_iinc (v := 3) (lv' := [(1, .int 3), (0, .ref h0)]) E.1 E.2.1 dX10_init_209 hl (k := 0) rfl (by decide) (by decide) rfl (fun ls hl => ?_)
  refine lv_goto (tgt := 191) E.1 E.2.1 dX10_init_212 (by decide) ?_
  refine lv_iload_n E.1 E.2.1 dX10_init_191 rfl (lv_at hl 0 rfl) ?_
  refine lv_iconst (v := 4) E.1 E.2.1 dX10_init_192 (by decide) ?_
  refine lv_icmp_ge (tgt := 215) E.1 E.2.1 dX10_init_193 (by decide) (fun h => absurd h (by decide)) (fun _ => ?_)
  refine lv_aload_n E.1 E.2.1 dX10_init_196 rfl (lv_at hl 1 rfl) ?_
  refine m_get E G 0 (ci := 10) rfl 8 (C := RX10) (T := TX10) (N := 17) rfl (by decide) mw_fl_10_59 (v := .ref q26) rfl dX10_init_197 ?_
  refine lv_iload_n E.1 E.2.1 dX10_init_200 rfl (lv_at hl 0 rfl) ?_
  refine m_new E G 2 (C := RX2) (T := TX2) (N := 5) rfl fr_X2 mw_cl_10_52 mw_insta_2 mw_ini_2 (by decide) (by decide) dX10_init_201 (fun q83 H G => ?_)
  have G : mG D A s H locs ((q83, .inr (2, [.null, .null, .null, .int 0, .int 0])) :: (h0, .inr (10, [.ref q1, .ref q5, .ref q9, .ref q13, .ref q17, .int 0, .ref q18, .ref q22, .ref q26, .int 0, .ref q27, .ref q31, .ref q35, .ref q39, .ref q41, .ref q43, .ref q45])) :: (q17, .inl (K 4, 6, .inr (.inr (.inr (.inr (va_up (va_up (va_up (va_up (va_up (va_up (fun _ => none) 0 (some q47)) 1 (some q51)) 2 (some q55)) 3 (some q59)) 4 (some q63)) 5 (some q67))))))) :: (q26, .inl (K 5, 4, .inr (.inr (.inr (.inr (va_up (va_up (va_up (fun _ => none) 0 (some q71)) 1 (some q75)) 2 (some q79))))))) :: ac82) := G.pm (pm_f _ _)
  refine lv_dup E.1 E.2.1 dX10_init_204 rfl ?_
  refine n_in E G hl (n_Moment l D K 157 (by decide : at_ 2 157 = true) q83) rfl mw_code_X2_init mw_ini_2 mw_mn_10_54 mw_inst_X2_init hd_X2_init ⟨by decide, by decide⟩ rfl (Nat.le_of_ble_eq_true rfl) ⟨by decide, by decide⟩ dX10_init_205 (fun g84 H locs hp85 G => ?_)
  have G : mG D A s H locs (Bk K 157 25 g84 ++ ((h0, .inr (10, [.ref q1, .ref q5, .ref q9, .ref q13, .ref q17, .int 0, .ref q18, .ref q22, .ref q26, .int 0, .ref q27, .ref q31, .ref q35, .ref q39, .ref q41, .ref q43, .ref q45])) :: (q17, .inl (K 4, 6, .inr (.inr (.inr (.inr (va_up (va_up (va_up (va_up (va_up (va_up (fun _ => none) 0 (some q47)) 1 (some q51)) 2 (some q55)) 3 (some q59)) 4 (some q63)) 5 (some q67))))))) :: (q26, .inl (K 5, 4, .inr (.inr (.inr (.inr (va_up (va_up (va_up (fun _ => none) 0 (some q71)) 1 (some q75)) 2 (some q79))))))) :: ac82)) := G.pm List.perm_append_comm
  refine m_aast E G 27 5 0 (ci := 2) (r := (RX2, TX2, 5)) rfl rfl (show some (g84 157, cellF K g84 157) = _ by rw [hp85, cf_o (j := 157) (ci := 2) (rfl : ro 157 = 2) (by decide)]) rfl (by unfold vp_in; decide) dX10_init_208 (fun H locs G => ?_)
  have G : mG D A s H locs (Bk K 157 25 g84 ++ ((h0, .inr (10, [.ref q1, .ref q5, .ref q9, .ref q13, .ref q17, .int 0, .ref q18, .ref q22, .ref q26, .int 0, .ref q27, .ref q31, .ref q35, .ref q39, .ref q41, .ref q43, .ref q45])) :: (q17, .inl (K 4, 6, .inr (.inr (.inr (.inr (va_up (va_up (va_up (va_up (va_up (va_up (fun _ => none) 0 (some q47)) 1 (some q51)) 2 (some q55)) 3 (some q59)) 4 (some q63)) 5 (some q67))))))) :: (q26, .inl (K 5, 4, .inr (.inr (.inr (.inr (va_up (va_up (va_up (va_up (fun _ => none) 0 (some q71)) 1 (some q75)) 2 (some q79)) 3 (some q83))))))) :: ac82)) := G
  have G : mG D A s H locs (((h0, .inr (10, [.ref q1, .ref q5, .ref q9, .ref q13, .ref q17, .int 0, .ref q18, .ref q22, .ref q26, .int 0, .ref q27, .ref q31, .ref q35, .ref q39, .ref q41, .ref q43, .ref q45])) :: (q17, .inl (K 4, 6, .inr (.inr (.inr (.inr (va_up (va_up (va_up (va_up (va_up (va_up (fun _ => none) 0 (some q47)) 1 (some q51)) 2 (some q55)) 3 (some q59)) 4 (some q63)) 5 (some q67))))))) :: (q26, .inl (K 5, 4, .inr (.inr (.inr (.inr (va_up (va_up (va_up (va_up (fun _ => none) 0 (some q71)) 1 (some q75)) 2 (some q79)) 3 (some q83))))))) :: ac82) ++ (Bk K 157 25 g84)) := G.pm List.perm_append_comm
  obtain ⟨ac86, hac86⟩ : ∃ w : va_W, w = ac82 ++ (Bk K 157 25 g84) := ⟨_, rfl⟩
  have G : mG D A s H locs ((h0, .inr (10, [.ref q1, .ref q5, .ref q9, .ref q13, .ref q17, .int 0, .ref q18, .ref q22, .ref q26, .int 0, .ref q27, .ref q31, .ref q35, .ref q39, .ref q41, .ref q43, .ref q45])) :: (q17, .inl (K 4, 6, .inr (.inr (.inr (.inr (va_up (va_up (va_up (va_up (va_up (va_up (fun _ => none) 0 (some q47)) 1 (some q51)) 2 (some q55)) 3 (some q59)) 4 (some q63)) 5 (some q67))))))) :: (q26, .inl (K 5, 4, .inr (.inr (.inr (.inr (va_up (va_up (va_up (va_up (fun _ => none) 0 (some q71)) 1 (some q75)) 2 (some q79)) 3 (some q83))))))) :: ac86) := by rw [hac86]; exact G
  refine lv_iinc (v := 4) (lv' := [(1, .int 4), (0, .ref h0)]) E.1 E.2.1 dX10_init_209 hl (k := 0) rfl (by decide) (by decide) rfl (fun ls hl => ?_)
  refine lv_goto (tgt := 191) E.1 E.2.1 dX10_init_212 (by decide) ?_
  refine lv_iload_n E.1 E.2.1 dX10_init_191 rfl (lv_at hl 0 rfl) ?_
  refine lv_iconst (v := 4) E.1 E.2.1 dX10_init_192 (by decide) ?_
  refine lv_icmp_ge (tgt := 215) E.1 E.2.1 dX10_init_193 (by decide) (fun _ => ?_) (fun h => absurd (by decide) h)
  obtain ⟨X0, hX0⟩ : ∃ x : va_W, x = ([(h0, .inr (10, [.ref q1, .ref q5, .ref q9, .ref q13, .ref q17, .int 0, .ref q18, .ref q22, .ref q26, .int 0, .ref q27, .ref q31, .ref q35, .ref q39, .ref q41, .ref q43, .ref q45]))] : va_W) := ⟨_, rfl⟩
  obtain ⟨g, hq87, hq88, hq89, hq90, hq91, hq92, hq93, hq94, hq95, hq96, hq97, hq98, hq99, hq100, hq101, hq102, hq103, hq104, hq105, hq106, hq107, hq108, hq109, hq110, hq111, hq112, hq113, hq114, hq115, hq116, hq117, hq118⟩ : ∃ g : Nat → Nat, g 0 = h0 ∧ (∀ i, i < 2 → g (1 + i) = g2 (1 + i)) ∧ (∀ i, i < 2 → g (3 + i) = g6 (3 + i)) ∧ (∀ i, i < 2 → g (5 + i) = g10 (5 + i)) ∧ (∀ i, i < 13 → g (7 + i) = g14 (7 + i)) ∧ g 20 = q17 ∧ (∀ i, i < 5 → g (21 + i) = g48 (21 + i)) ∧ (∀ i, i < 5 → g (26 + i) = g52 (26 + i)) ∧ (∀ i, i < 5 → g (31 + i) = g56 (31 + i)) ∧ (∀ i, i < 5 → g (36 + i) = g60 (36 + i)) ∧ (∀ i, i < 5 → g (41 + i) = g64 (41 + i)) ∧ (∀ i, i < 5 → g (46 + i) = g68 (46 + i)) ∧ (∀ i, i < 5 → g (51 + i) = g19 (51 + i)) ∧ (∀ i, i < 25 → g (56 + i) = g23 (56 + i)) ∧ g 81 = q26 ∧ (∀ i, i < 25 → g (82 + i) = g72 (82 + i)) ∧ (∀ i, i < 25 → g (107 + i) = g76 (107 + i)) ∧ (∀ i, i < 25 → g (132 + i) = g80 (132 + i)) ∧ (∀ i, i < 25 → g (157 + i) = g84 (157 + i)) ∧ (∀ i, i < 142 → g (182 + i) = g28 (182 + i)) ∧ (∀ i, i < 11 → g (324 + i) = g32 (324 + i)) ∧ (∀ i, i < 7 → g (335 + i) = g36 (335 + i)) ∧ g 342 = q39 ∧ g 343 = q41 ∧ g 344 = q43 ∧ g 345 = q45 ∧ (∀ i, i < 2 → g (346 + i) = g6 (346 + i)) ∧ (∀ i, i < 13 → g (348 + i) = g6 (348 + i)) ∧ (∀ i, i < 2 → g (361 + i) = g10 (361 + i)) ∧ (∀ i, i < 5 → g (363 + i) = g10 (363 + i)) ∧ (∀ i, i < 13 → g (368 + i) = g32 (368 + i)) ∧ (∀ i, i < 5 → g (381 + i) = g32 (381 + i)) := by
    refine ⟨fun j => if j < 1 then h0 else if j < 3 then g2 j else if j < 5 then g6 j else if j < 7 then g10 j else if j < 20 then g14 j else if j < 21 then q17 else if j < 26 then g48 j else if j < 31 then g52 j else if j < 36 then g56 j else if j < 41 then g60 j else if j < 46 then g64 j else if j < 51 then g68 j else if j < 56 then g19 j else if j < 81 then g23 j else if j < 82 then q26 else if j < 107 then g72 j else if j < 132 then g76 j else if j < 157 then g80 j else if j < 182 then g84 j else if j < 324 then g28 j else if j < 335 then g32 j else if j < 342 then g36 j else if j < 343 then q39 else if j < 344 then q41 else if j < 345 then q43 else if j < 346 then q45 else if j < 348 then g6 j else if j < 361 then g6 j else if j < 363 then g10 j else if j < 368 then g10 j else if j < 381 then g32 j else g32 j, ?_, ?_, ?_, ?_, ?_, ?_, ?_, ?_, ?_, ?_, ?_, ?_, ?_, ?_, ?_, ?_, ?_, ?_, ?_, ?_, ?_, ?_, ?_, ?_, ?_, ?_, ?_, ?_, ?_, ?_, ?_, ?_⟩
    · exact (if_pos (by omega))
    · exact fun i hi => ((if_neg (by omega)).trans (if_pos (by omega)))
    · exact fun i hi => ((if_neg (by omega)).trans ((if_neg (by omega)).trans (if_pos (by omega))))
    · exact fun i hi => ((if_neg (by omega)).trans ((if_neg (by omega)).trans ((if_neg (by omega)).trans (if_pos (by omega)))))
    · exact fun i hi => ((if_neg (by omega)).trans ((if_neg (by omega)).trans ((if_neg (by omega)).trans ((if_neg (by omega)).trans (if_pos (by omega))))))
    · exact ((if_neg (by omega)).trans ((if_neg (by omega)).trans ((if_neg (by omega)).trans ((if_neg (by omega)).trans ((if_neg (by omega)).trans (if_pos (by omega)))))))
    · exact fun i hi => ((if_neg (by omega)).trans ((if_neg (by omega)).trans ((if_neg (by omega)).trans ((if_neg (by omega)).trans ((if_neg (by omega)).trans ((if_neg (by omega)).trans (if_pos (by omega))))))))
    · exact fun i hi => ((if_neg (by omega)).trans ((if_neg (by omega)).trans ((if_neg (by omega)).trans ((if_neg (by omega)).trans ((if_neg (by omega)).trans ((if_neg (by omega)).trans ((if_neg (by omega)).trans (if_pos (by omega)))))))))
    · exact fun i hi => ((if_neg (by omega)).trans ((if_neg (by omega)).trans ((if_neg (by omega)).trans ((if_neg (by omega)).trans ((if_neg (by omega)).trans ((if_neg (by omega)).trans ((if_neg (by omega)).trans ((if_neg (by omega)).trans (if_pos (by omega))))))))))
    · exact fun i hi => ((if_neg (by omega)).trans ((if_neg (by omega)).trans ((if_neg (by omega)).trans ((if_neg (by omega)).trans ((if_neg (by omega)).trans ((if_neg (by omega)).trans ((if_neg (by omega)).trans ((if_neg (by omega)).trans ((if_neg (by omega)).trans (if_pos (by omega)))))))))))
    · exact fun i hi => ((if_neg (by omega)).trans ((if_neg (by omega)).trans ((if_neg (by omega)).trans ((if_neg (by omega)).trans ((if_neg (by omega)).trans ((if_neg (by omega)).trans ((if_neg (by omega)).trans ((if_neg (by omega)).trans ((if_neg (by omega)).trans ((if_neg (by omega)).trans (if_pos (by omega))))))))))))
    · exact fun i hi => ((if_neg (by omega)).trans ((if_neg (by omega)).trans ((if_neg (by omega)).trans ((if_neg (by omega)).trans ((if_neg (by omega)).trans ((if_neg (by omega)).trans ((if_neg (by omega)).trans ((if_neg (by omega)).trans ((if_neg (by omega)).trans ((if_neg (by omega)).trans ((if_neg (by omega)).trans (if_pos (by omega)))))))))))))
    · exact fun i hi => ((if_neg (by omega)).trans ((if_neg (by omega)).trans ((if_neg (by omega)).trans ((if_neg (by omega)).trans ((if_neg (by omega)).trans ((if_neg (by omega)).trans ((if_neg (by omega)).trans ((if_neg (by omega)).trans ((if_neg (by omega)).trans ((if_neg (by omega)).trans ((if_neg (by omega)).trans ((if_neg (by omega)).trans (if_pos (by omega))))))))))))))
    · exact fun i hi => ((if_neg (by omega)).trans ((if_neg (by omega)).trans ((if_neg (by omega)).trans ((if_neg (by omega)).trans ((if_neg (by omega)).trans ((if_neg (by omega)).trans ((if_neg (by omega)).trans ((if_neg (by omega)).trans ((if_neg (by omega)).trans ((if_neg (by omega)).trans ((if_neg (by omega)).trans ((if_neg (by omega)).trans ((if_neg (by omega)).trans (if_pos (by omega)))))))))))))))
    · exact ((if_neg (by omega)).trans ((if_neg (by omega)).trans ((if_neg (by omega)).trans ((if_neg (by omega)).trans ((if_neg (by omega)).trans ((if_neg (by omega)).trans ((if_neg (by omega)).trans ((if_neg (by omega)).trans ((if_neg (by omega)).trans ((if_neg (by omega)).trans ((if_neg (by omega)).trans ((if_neg (by omega)).trans ((if_neg (by omega)).trans ((if_neg (by omega)).trans (if_pos (by omega))))))))))))))))
    · exact fun i hi => ((if_neg (by omega)).trans ((if_neg (by omega)).trans ((if_neg (by omega)).trans ((if_neg (by omega)).trans ((if_neg (by omega)).trans ((if_neg (by omega)).trans ((if_neg (by omega)).trans ((if_neg (by omega)).trans ((if_neg (by omega)).trans ((if_neg (by omega)).trans ((if_neg (by omega)).trans ((if_neg (by omega)).trans ((if_neg (by omega)).trans ((if_neg (by omega)).trans ((if_neg (by omega)).trans (if_pos (by omega)))))))))))))))))
    · exact fun i hi => ((if_neg (by omega)).trans ((if_neg (by omega)).trans ((if_neg (by omega)).trans ((if_neg (by omega)).trans ((if_neg (by omega)).trans ((if_neg (by omega)).trans ((if_neg (by omega)).trans ((if_neg (by omega)).trans ((if_neg (by omega)).trans ((if_neg (by omega)).trans ((if_neg (by omega)).trans ((if_neg (by omega)).trans ((if_neg (by omega)).trans ((if_neg (by omega)).trans ((if_neg (by omega)).trans ((if_neg (by omega)).trans (if_pos (by omega))))))))))))))))))
    · exact fun i hi => ((if_neg (by omega)).trans ((if_neg (by omega)).trans ((if_neg (by omega)).trans ((if_neg (by omega)).trans ((if_neg (by omega)).trans ((if_neg (by omega)).trans ((if_neg (by omega)).trans ((if_neg (by omega)).trans ((if_neg (by omega)).trans ((if_neg (by omega)).trans ((if_neg (by omega)).trans ((if_neg (by omega)).trans ((if_neg (by omega)).trans ((if_neg (by omega)).trans ((if_neg (by omega)).trans ((if_neg (by omega)).trans ((if_neg (by omega)).trans (if_pos (by omega)))))))))))))))))))
    · exact fun i hi => ((if_neg (by omega)).trans ((if_neg (by omega)).trans ((if_neg (by omega)).trans ((if_neg (by omega)).trans ((if_neg (by omega)).trans ((if_neg (by omega)).trans ((if_neg (by omega)).trans ((if_neg (by omega)).trans ((if_neg (by omega)).trans ((if_neg (by omega)).trans ((if_neg (by omega)).trans ((if_neg (by omega)).trans ((if_neg (by omega)).trans ((if_neg (by omega)).trans ((if_neg (by omega)).trans ((if_neg (by omega)).trans ((if_neg (by omega)).trans ((if_neg (by omega)).trans (if_pos (by omega))))))))))))))))))))
    · exact fun i hi => ((if_neg (by omega)).trans ((if_neg (by omega)).trans ((if_neg (by omega)).trans ((if_neg (by omega)).trans ((if_neg (by omega)).trans ((if_neg (by omega)).trans ((if_neg (by omega)).trans ((if_neg (by omega)).trans ((if_neg (by omega)).trans ((if_neg (by omega)).trans ((if_neg (by omega)).trans ((if_neg (by omega)).trans ((if_neg (by omega)).trans ((if_neg (by omega)).trans ((if_neg (by omega)).trans ((if_neg (by omega)).trans ((if_neg (by omega)).trans ((if_neg (by omega)).trans ((if_neg (by omega)).trans (if_pos (by omega)))))))))))))))))))))
    · exact fun i hi => ((if_neg (by omega)).trans ((if_neg (by omega)).trans ((if_neg (by omega)).trans ((if_neg (by omega)).trans ((if_neg (by omega)).trans ((if_neg (by omega)).trans ((if_neg (by omega)).trans ((if_neg (by omega)).trans ((if_neg (by omega)).trans ((if_neg (by omega)).trans ((if_neg (by omega)).trans ((if_neg (by omega)).trans ((if_neg (by omega)).trans ((if_neg (by omega)).trans ((if_neg (by omega)).trans ((if_neg (by omega)).trans ((if_neg (by omega)).trans ((if_neg (by omega)).trans ((if_neg (by omega)).trans ((if_neg (by omega)).trans (if_pos (by omega))))))))))))))))))))))
    · exact fun i hi => ((if_neg (by omega)).trans ((if_neg (by omega)).trans ((if_neg (by omega)).trans ((if_neg (by omega)).trans ((if_neg (by omega)).trans ((if_neg (by omega)).trans ((if_neg (by omega)).trans ((if_neg (by omega)).trans ((if_neg (by omega)).trans ((if_neg (by omega)).trans ((if_neg (by omega)).trans ((if_neg (by omega)).trans ((if_neg (by omega)).trans ((if_neg (by omega)).trans ((if_neg (by omega)).trans ((if_neg (by omega)).trans ((if_neg (by omega)).trans ((if_neg (by omega)).trans ((if_neg (by omega)).trans ((if_neg (by omega)).trans ((if_neg (by omega)).trans (if_pos (by omega)))))))))))))))))))))))
    · exact ((if_neg (by omega)).trans ((if_neg (by omega)).trans ((if_neg (by omega)).trans ((if_neg (by omega)).trans ((if_neg (by omega)).trans ((if_neg (by omega)).trans ((if_neg (by omega)).trans ((if_neg (by omega)).trans ((if_neg (by omega)).trans ((if_neg (by omega)).trans ((if_neg (by omega)).trans ((if_neg (by omega)).trans ((if_neg (by omega)).trans ((if_neg (by omega)).trans ((if_neg (by omega)).trans ((if_neg (by omega)).trans ((if_neg (by omega)).trans ((if_neg (by omega)).trans ((if_neg (by omega)).trans ((if_neg (by omega)).trans ((if_neg (by omega)).trans ((if_neg (by omega)).trans (if_pos (by omega))))))))))))))))))))))))
    · exact ((if_neg (by omega)).trans ((if_neg (by omega)).trans ((if_neg (by omega)).trans ((if_neg (by omega)).trans ((if_neg (by omega)).trans ((if_neg (by omega)).trans ((if_neg (by omega)).trans ((if_neg (by omega)).trans ((if_neg (by omega)).trans ((if_neg (by omega)).trans ((if_neg (by omega)).trans ((if_neg (by omega)).trans ((if_neg (by omega)).trans ((if_neg (by omega)).trans ((if_neg (by omega)).trans ((if_neg (by omega)).trans ((if_neg (by omega)).trans ((if_neg (by omega)).trans ((if_neg (by omega)).trans ((if_neg (by omega)).trans ((if_neg (by omega)).trans ((if_neg (by omega)).trans ((if_neg (by omega)).trans (if_pos (by omega)))))))))))))))))))))))))
    · exact ((if_neg (by omega)).trans ((if_neg (by omega)).trans ((if_neg (by omega)).trans ((if_neg (by omega)).trans ((if_neg (by omega)).trans ((if_neg (by omega)).trans ((if_neg (by omega)).trans ((if_neg (by omega)).trans ((if_neg (by omega)).trans ((if_neg (by omega)).trans ((if_neg (by omega)).trans ((if_neg (by omega)).trans ((if_neg (by omega)).trans ((if_neg (by omega)).trans ((if_neg (by omega)).trans ((if_neg (by omega)).trans ((if_neg (by omega)).trans ((if_neg (by omega)).trans ((if_neg (by omega)).trans ((if_neg (by omega)).trans ((if_neg (by omega)).trans ((if_neg (by omega)).trans ((if_neg (by omega)).trans ((if_neg (by omega)).trans (if_pos (by omega))))))))))))))))))))))))))
    · exact ((if_neg (by omega)).trans ((if_neg (by omega)).trans ((if_neg (by omega)).trans ((if_neg (by omega)).trans ((if_neg (by omega)).trans ((if_neg (by omega)).trans ((if_neg (by omega)).trans ((if_neg (by omega)).trans ((if_neg (by omega)).trans ((if_neg (by omega)).trans ((if_neg (by omega)).trans ((if_neg (by omega)).trans ((if_neg (by omega)).trans ((if_neg (by omega)).trans ((if_neg (by omega)).trans ((if_neg (by omega)).trans ((if_neg (by omega)).trans ((if_neg (by omega)).trans ((if_neg (by omega)).trans ((if_neg (by omega)).trans ((if_neg (by omega)).trans ((if_neg (by omega)).trans ((if_neg (by omega)).trans ((if_neg (by omega)).trans ((if_neg (by omega)).trans (if_pos (by omega)))))))))))))))))))))))))))
    · exact fun i hi => ((if_neg (by omega)).trans ((if_neg (by omega)).trans ((if_neg (by omega)).trans ((if_neg (by omega)).trans ((if_neg (by omega)).trans ((if_neg (by omega)).trans ((if_neg (by omega)).trans ((if_neg (by omega)).trans ((if_neg (by omega)).trans ((if_neg (by omega)).trans ((if_neg (by omega)).trans ((if_neg (by omega)).trans ((if_neg (by omega)).trans ((if_neg (by omega)).trans ((if_neg (by omega)).trans ((if_neg (by omega)).trans ((if_neg (by omega)).trans ((if_neg (by omega)).trans ((if_neg (by omega)).trans ((if_neg (by omega)).trans ((if_neg (by omega)).trans ((if_neg (by omega)).trans ((if_neg (by omega)).trans ((if_neg (by omega)).trans ((if_neg (by omega)).trans ((if_neg (by omega)).trans (if_pos (by omega))))))))))))))))))))))))))))
    · exact fun i hi => ((if_neg (by omega)).trans ((if_neg (by omega)).trans ((if_neg (by omega)).trans ((if_neg (by omega)).trans ((if_neg (by omega)).trans ((if_neg (by omega)).trans ((if_neg (by omega)).trans ((if_neg (by omega)).trans ((if_neg (by omega)).trans ((if_neg (by omega)).trans ((if_neg (by omega)).trans ((if_neg (by omega)).trans ((if_neg (by omega)).trans ((if_neg (by omega)).trans ((if_neg (by omega)).trans ((if_neg (by omega)).trans ((if_neg (by omega)).trans ((if_neg (by omega)).trans ((if_neg (by omega)).trans ((if_neg (by omega)).trans ((if_neg (by omega)).trans ((if_neg (by omega)).trans ((if_neg (by omega)).trans ((if_neg (by omega)).trans ((if_neg (by omega)).trans ((if_neg (by omega)).trans ((if_neg (by omega)).trans (if_pos (by omega)))))))))))))))))))))))))))))
    · exact fun i hi => ((if_neg (by omega)).trans ((if_neg (by omega)).trans ((if_neg (by omega)).trans ((if_neg (by omega)).trans ((if_neg (by omega)).trans ((if_neg (by omega)).trans ((if_neg (by omega)).trans ((if_neg (by omega)).trans ((if_neg (by omega)).trans ((if_neg (by omega)).trans ((if_neg (by omega)).trans ((if_neg (by omega)).trans ((if_neg (by omega)).trans ((if_neg (by omega)).trans ((if_neg (by omega)).trans ((if_neg (by omega)).trans ((if_neg (by omega)).trans ((if_neg (by omega)).trans ((if_neg (by omega)).trans ((if_neg (by omega)).trans ((if_neg (by omega)).trans ((if_neg (by omega)).trans ((if_neg (by omega)).trans ((if_neg (by omega)).trans ((if_neg (by omega)).trans ((if_neg (by omega)).trans ((if_neg (by omega)).trans ((if_neg (by omega)).trans (if_pos (by omega))))))))))))))))))))))))))))))
    · exact fun i hi => ((if_neg (by omega)).trans ((if_neg (by omega)).trans ((if_neg (by omega)).trans ((if_neg (by omega)).trans ((if_neg (by omega)).trans ((if_neg (by omega)).trans ((if_neg (by omega)).trans ((if_neg (by omega)).trans ((if_neg (by omega)).trans ((if_neg (by omega)).trans ((if_neg (by omega)).trans ((if_neg (by omega)).trans ((if_neg (by omega)).trans ((if_neg (by omega)).trans ((if_neg (by omega)).trans ((if_neg (by omega)).trans ((if_neg (by omega)).trans ((if_neg (by omega)).trans ((if_neg (by omega)).trans ((if_neg (by omega)).trans ((if_neg (by omega)).trans ((if_neg (by omega)).trans ((if_neg (by omega)).trans ((if_neg (by omega)).trans ((if_neg (by omega)).trans ((if_neg (by omega)).trans ((if_neg (by omega)).trans ((if_neg (by omega)).trans ((if_neg (by omega)).trans (if_pos (by omega)))))))))))))))))))))))))))))))
    · exact fun i hi => ((if_neg (by omega)).trans ((if_neg (by omega)).trans ((if_neg (by omega)).trans ((if_neg (by omega)).trans ((if_neg (by omega)).trans ((if_neg (by omega)).trans ((if_neg (by omega)).trans ((if_neg (by omega)).trans ((if_neg (by omega)).trans ((if_neg (by omega)).trans ((if_neg (by omega)).trans ((if_neg (by omega)).trans ((if_neg (by omega)).trans ((if_neg (by omega)).trans ((if_neg (by omega)).trans ((if_neg (by omega)).trans ((if_neg (by omega)).trans ((if_neg (by omega)).trans ((if_neg (by omega)).trans ((if_neg (by omega)).trans ((if_neg (by omega)).trans ((if_neg (by omega)).trans ((if_neg (by omega)).trans ((if_neg (by omega)).trans ((if_neg (by omega)).trans ((if_neg (by omega)).trans ((if_neg (by omega)).trans ((if_neg (by omega)).trans ((if_neg (by omega)).trans ((if_neg (by omega)).trans (if_pos (by omega))))))))))))))))))))))))))))))))
    · exact fun i hi => ((if_neg (by omega)).trans ((if_neg (by omega)).trans ((if_neg (by omega)).trans ((if_neg (by omega)).trans ((if_neg (by omega)).trans ((if_neg (by omega)).trans ((if_neg (by omega)).trans ((if_neg (by omega)).trans ((if_neg (by omega)).trans ((if_neg (by omega)).trans ((if_neg (by omega)).trans ((if_neg (by omega)).trans ((if_neg (by omega)).trans ((if_neg (by omega)).trans ((if_neg (by omega)).trans ((if_neg (by omega)).trans ((if_neg (by omega)).trans ((if_neg (by omega)).trans ((if_neg (by omega)).trans ((if_neg (by omega)).trans ((if_neg (by omega)).trans ((if_neg (by omega)).trans ((if_neg (by omega)).trans ((if_neg (by omega)).trans ((if_neg (by omega)).trans ((if_neg (by omega)).trans ((if_neg (by omega)).trans ((if_neg (by omega)).trans ((if_neg (by omega)).trans ((if_neg (by omega)).trans (if_neg (by omega))))))))))))))))))))))))))))))))
  have hW : ((h0, .inr (10, [.ref q1, .ref q5, .ref q9, .ref q13, .ref q17, .int 0, .ref q18, .ref q22, .ref q26, .int 0, .ref q27, .ref q31, .ref q35, .ref q39, .ref q41, .ref q43, .ref q45])) :: (q17, .inl (K 4, 6, .inr (.inr (.inr (.inr (va_up (va_up (va_up (va_up (va_up (va_up (fun _ => none) 0 (some q47)) 1 (some q51)) 2 (some q55)) 3 (some q59)) 4 (some q63)) 5 (some q67))))))) :: (q26, .inl (K 5, 4, .inr (.inr (.inr (.inr (va_up (va_up (va_up (va_up (fun _ => none) 0 (some q71)) 1 (some q75)) 2 (some q79)) 3 (some q83))))))) :: ac86) = X0 ++ (([(q17, .inl (K 4, 6, .inr (.inr (.inr (.inr (va_up (va_up (va_up (va_up (va_up (va_up (fun _ => none) 0 (some q47)) 1 (some q51)) 2 (some q55)) 3 (some q59)) 4 (some q63)) 5 (some q67)))))))] : va_W) ++ (([(q26, .inl (K 5, 4, .inr (.inr (.inr (.inr (va_up (va_up (va_up (va_up (fun _ => none) 0 (some q71)) 1 (some q75)) 2 (some q79)) 3 (some q83)))))))] : va_W) ++ (Bk K 1 2 g2 ++ (Bk K 3 2 g6 ++ (Bk K 346 2 g6 ++ (Bk K 348 13 g6 ++ (Bk K 5 2 g10 ++ (Bk K 361 2 g10 ++ (Bk K 363 5 g10 ++ (Bk K 7 13 g14 ++ (Bk K 51 5 g19 ++ (Bk K 56 25 g23 ++ (Bk K 182 142 g28 ++ (Bk K 324 11 g32 ++ (Bk K 368 13 g32 ++ (Bk K 381 5 g32 ++ (Bk K 335 7 g36 ++ (([(q39, .inl (K 0, 40, .inl (fun _ => 0)))] : va_W) ++ (([(q41, .inl (K 0, 61, .inl (fun _ => 0)))] : va_W) ++ (([(q43, .inl (K 0, 64, .inl (fun _ => 0)))] : va_W) ++ (([(q45, .inl (K 0, 64, .inl (fun _ => 0)))] : va_W) ++ (Bk K 21 5 g48 ++ (Bk K 26 5 g52 ++ (Bk K 31 5 g56 ++ (Bk K 36 5 g60 ++ (Bk K 41 5 g64 ++ (Bk K 46 5 g68 ++ (Bk K 82 25 g72 ++ (Bk K 107 25 g76 ++ (Bk K 132 25 g80 ++ (Bk K 157 25 g84 ++ ([])))))))))))))))))))))))))))))))) := by
    rw [hX0, hac86, hac82, hac78, hac74, hac70, hac66, hac62, hac58, hac54, hac50, hac46, hac44, hac42, hac40, hac38, hac34, hac30, hac25, hac21, hac16, hac12, hac8, hac4, hac0]
    simp only [List.nil_append, List.append_nil, List.append_assoc, List.cons_append]
  have hP : List.Perm (X0 ++ (([(q17, .inl (K 4, 6, .inr (.inr (.inr (.inr (va_up (va_up (va_up (va_up (va_up (va_up (fun _ => none) 0 (some q47)) 1 (some q51)) 2 (some q55)) 3 (some q59)) 4 (some q63)) 5 (some q67)))))))] : va_W) ++ (([(q26, .inl (K 5, 4, .inr (.inr (.inr (.inr (va_up (va_up (va_up (va_up (fun _ => none) 0 (some q71)) 1 (some q75)) 2 (some q79)) 3 (some q83)))))))] : va_W) ++ (Bk K 1 2 g2 ++ (Bk K 3 2 g6 ++ (Bk K 346 2 g6 ++ (Bk K 348 13 g6 ++ (Bk K 5 2 g10 ++ (Bk K 361 2 g10 ++ (Bk K 363 5 g10 ++ (Bk K 7 13 g14 ++ (Bk K 51 5 g19 ++ (Bk K 56 25 g23 ++ (Bk K 182 142 g28 ++ (Bk K 324 11 g32 ++ (Bk K 368 13 g32 ++ (Bk K 381 5 g32 ++ (Bk K 335 7 g36 ++ (([(q39, .inl (K 0, 40, .inl (fun _ => 0)))] : va_W) ++ (([(q41, .inl (K 0, 61, .inl (fun _ => 0)))] : va_W) ++ (([(q43, .inl (K 0, 64, .inl (fun _ => 0)))] : va_W) ++ (([(q45, .inl (K 0, 64, .inl (fun _ => 0)))] : va_W) ++ (Bk K 21 5 g48 ++ (Bk K 26 5 g52 ++ (Bk K 31 5 g56 ++ (Bk K 36 5 g60 ++ (Bk K 41 5 g64 ++ (Bk K 46 5 g68 ++ (Bk K 82 25 g72 ++ (Bk K 107 25 g76 ++ (Bk K 132 25 g80 ++ (Bk K 157 25 g84 ++ ([])))))))))))))))))))))))))))))))) : va_W) (X0 ++ (Bk K 1 2 g2 ++ (Bk K 3 2 g6 ++ (Bk K 5 2 g10 ++ (Bk K 7 13 g14 ++ (([(q17, .inl (K 4, 6, .inr (.inr (.inr (.inr (va_up (va_up (va_up (va_up (va_up (va_up (fun _ => none) 0 (some q47)) 1 (some q51)) 2 (some q55)) 3 (some q59)) 4 (some q63)) 5 (some q67)))))))] : va_W) ++ (Bk K 21 5 g48 ++ (Bk K 26 5 g52 ++ (Bk K 31 5 g56 ++ (Bk K 36 5 g60 ++ (Bk K 41 5 g64 ++ (Bk K 46 5 g68 ++ (Bk K 51 5 g19 ++ (Bk K 56 25 g23 ++ (([(q26, .inl (K 5, 4, .inr (.inr (.inr (.inr (va_up (va_up (va_up (va_up (fun _ => none) 0 (some q71)) 1 (some q75)) 2 (some q79)) 3 (some q83)))))))] : va_W) ++ (Bk K 82 25 g72 ++ (Bk K 107 25 g76 ++ (Bk K 132 25 g80 ++ (Bk K 157 25 g84 ++ (Bk K 182 142 g28 ++ (Bk K 324 11 g32 ++ (Bk K 335 7 g36 ++ (([(q39, .inl (K 0, 40, .inl (fun _ => 0)))] : va_W) ++ (([(q41, .inl (K 0, 61, .inl (fun _ => 0)))] : va_W) ++ (([(q43, .inl (K 0, 64, .inl (fun _ => 0)))] : va_W) ++ (([(q45, .inl (K 0, 64, .inl (fun _ => 0)))] : va_W) ++ (Bk K 346 2 g6 ++ (Bk K 348 13 g6 ++ (Bk K 361 2 g10 ++ (Bk K 363 5 g10 ++ (Bk K 368 13 g32 ++ (Bk K 381 5 g32 ++ ([])))))))))))))))))))))))))))))))) : va_W) := pm_of (f := fun i => ([X0, ([(q17, .inl (K 4, 6, .inr (.inr (.inr (.inr (va_up (va_up (va_up (va_up (va_up (va_up (fun _ => none) 0 (some q47)) 1 (some q51)) 2 (some q55)) 3 (some q59)) 4 (some q63)) 5 (some q67)))))))] : va_W), ([(q26, .inl (K 5, 4, .inr (.inr (.inr (.inr (va_up (va_up (va_up (va_up (fun _ => none) 0 (some q71)) 1 (some q75)) 2 (some q79)) 3 (some q83)))))))] : va_W), Bk K 1 2 g2, Bk K 3 2 g6, Bk K 346 2 g6, Bk K 348 13 g6, Bk K 5 2 g10, Bk K 361 2 g10, Bk K 363 5 g10, Bk K 7 13 g14, Bk K 51 5 g19, Bk K 56 25 g23, Bk K 182 142 g28, Bk K 324 11 g32, Bk K 368 13 g32, Bk K 381 5 g32, Bk K 335 7 g36, ([(q39, .inl (K 0, 40, .inl (fun _ => 0)))] : va_W), ([(q41, .inl (K 0, 61, .inl (fun _ => 0)))] : va_W), ([(q43, .inl (K 0, 64, .inl (fun _ => 0)))] : va_W), ([(q45, .inl (K 0, 64, .inl (fun _ => 0)))] : va_W), Bk K 21 5 g48, Bk K 26 5 g52, Bk K 31 5 g56, Bk K 36 5 g60, Bk K 41 5 g64, Bk K 46 5 g68, Bk K 82 25 g72, Bk K 107 25 g76, Bk K 132 25 g80, Bk K 157 25 g84] : List va_W).getD i []) (m := 32) (π := [0, 3, 4, 7, 10, 1, 22, 23, 24, 25, 26, 27, 11, 12, 2, 28, 29, 30, 31, 13, 14, 17, 18, 19, 20, 21, 5, 6, 8, 9, 15, 16]) (by decide)
  have hr119 : g 1 = q1 := (hq88 0 (by decide)).trans hp3
  have hr120 : g 3 = q5 := (hq89 0 (by decide)).trans hp7
  have hr121 : g 5 = q9 := (hq90 0 (by decide)).trans hp11
  have hr122 : g 7 = q13 := (hq91 0 (by decide)).trans hp15
  have hr123 : g 21 = q47 := (hq93 0 (by decide)).trans hp49
  have hr124 : g 26 = q51 := (hq94 0 (by decide)).trans hp53
  have hr125 : g 31 = q55 := (hq95 0 (by decide)).trans hp57
  have hr126 : g 36 = q59 := (hq96 0 (by decide)).trans hp61
  have hr127 : g 41 = q63 := (hq97 0 (by decide)).trans hp65
  have hr128 : g 46 = q67 := (hq98 0 (by decide)).trans hp69
  have hr129 : g 51 = q18 := (hq99 0 (by decide)).trans hp20
  have hr130 : g 56 = q22 := (hq100 0 (by decide)).trans hp24
  have hr131 : g 82 = q71 := (hq102 0 (by decide)).trans hp73
  have hr132 : g 107 = q75 := (hq103 0 (by decide)).trans hp77
  have hr133 : g 132 = q79 := (hq104 0 (by decide)).trans hp81
  have hr134 : g 157 = q83 := (hq105 0 (by decide)).trans hp85
  have hr135 : g 182 = q27 := (hq106 0 (by decide)).trans hp29
  have hr136 : g 324 = q31 := (hq107 0 (by decide)).trans hp33
  have hr137 : g 335 = q35 := (hq108 0 (by decide)).trans hp37
  have hr138 : g 346 = g6 346 := hq113 0 (by decide)
  have hr139 : g 348 = g6 348 := hq114 0 (by decide)
  have hr140 : g 361 = g10 361 := hq115 0 (by decide)
  have hr141 : g 363 = g10 363 := hq116 0 (by decide)
  have hr142 : g 368 = g32 368 := hq117 0 (by decide)
  have hr143 : g 381 = g32 381 := hq118 0 (by decide)
  have tt144 : Bk K 0 1 g = X0 := by
    rw [hX0, Bk_one, cf_o (j := 0) (ci := 10) (rfl : ro 0 = 10) (by decide)]
    show ([(g 0, .inr (10, [.ref (g 1), .ref (g 3), .ref (g 5), .ref (g 7), .ref (g 20), .int 0, .ref (g 51), .ref (g 56), .ref (g 81), .int 0, .ref (g 182), .ref (g 324), .ref (g 335), .ref (g 342), .ref (g 343), .ref (g 344), .ref (g 345)]))] : va_W) = _
    rw [hq87, hr119, hr120, hr121, hr122, hq92, hr129, hr130, hq101, hr135, hr136, hr137, hq109, hq110, hq111, hq112]
  have tt145 : Bk K 1 2 g = Bk K 1 2 g2 := Bk_ca 7 (by decide : at_ 7 1 = true) rfl (by decide +kernel) hq88
  have tt146 : Bk K 3 2 g = Bk K 3 2 g6 := by
    refine Bk_cq 3 2 [3, 4, 346, 348] (by decide +kernel) (fun q hq => ?_) hq89
    rcases (by simpa using hq : q = 3 ∨ q = 4 ∨ q = 346 ∨ q = 348) with rfl | rfl | rfl | rfl
    · exact hq89 0 (by decide)
    · exact hq89 1 (by decide)
    · exact hq113 0 (by decide)
    · exact hq114 0 (by decide)
  have tt147 : Bk K 5 2 g = Bk K 5 2 g10 := by
    refine Bk_cq 5 2 [5, 6, 361, 363] (by decide +kernel) (fun q hq => ?_) hq90
    rcases (by simpa using hq : q = 5 ∨ q = 6 ∨ q = 361 ∨ q = 363) with rfl | rfl | rfl | rfl
    · exact hq90 0 (by decide)
    · exact hq90 1 (by decide)
    · exact hq115 0 (by decide)
    · exact hq116 0 (by decide)
  have tt148 : Bk K 7 13 g = Bk K 7 13 g14 := Bk_ca 8 (by decide : at_ 8 7 = true) rfl (by decide +kernel) hq91
  have tt149 : Bk K 20 1 g = ([(q17, .inl (K 4, 6, .inr (.inr (.inr (.inr (va_up (va_up (va_up (va_up (va_up (va_up (fun _ => none) 0 (some q47)) 1 (some q51)) 2 (some q55)) 3 (some q59)) 4 (some q63)) 5 (some q67)))))))] : va_W) := by
    rw [Bk_one, hq92, cf_r (j := 20) (rfl : ro 20 = 37) (by decide)]
    show ([(q17, .inl (K 4, 6, .inr (.inr (.inr (.inr (fun i => if i < 6 then some (g (20 + 1 + 5 * i)) else none))))))] : va_W) = _
    have e : (fun i => if i < 6 then some (g (20 + 1 + 5 * i)) else none) = (va_up (va_up (va_up (va_up (va_up (va_up (fun _ => none) 0 (some q47)) 1 (some q51)) 2 (some q55)) 3 (some q59)) 4 (some q63)) 5 (some q67)) := by
      funext i
      match i with
      | 0 => exact congrArg some hr123
      | 1 => exact congrArg some hr124
      | 2 => exact congrArg some hr125
      | 3 => exact congrArg some hr126
      | 4 => exact congrArg some hr127
      | 5 => exact congrArg some hr128
      | k + 6 => rw [if_neg (by omega)]; simp [va_up]
    rw [e]
  have tt150 : Bk K 21 5 g = Bk K 21 5 g48 := Bk_ca 4 (by decide : at_ 4 21 = true) rfl (by decide +kernel) hq93
  have tt151 : Bk K 26 5 g = Bk K 26 5 g52 := Bk_ca 4 (by decide : at_ 4 26 = true) rfl (by decide +kernel) hq94
  have tt152 : Bk K 31 5 g = Bk K 31 5 g56 := Bk_ca 4 (by decide : at_ 4 31 = true) rfl (by decide +kernel) hq95
  have tt153 : Bk K 36 5 g = Bk K 36 5 g60 := Bk_ca 4 (by decide : at_ 4 36 = true) rfl (by decide +kernel) hq96
  have tt154 : Bk K 41 5 g = Bk K 41 5 g64 := Bk_ca 4 (by decide : at_ 4 41 = true) rfl (by decide +kernel) hq97
  have tt155 : Bk K 46 5 g = Bk K 46 5 g68 := Bk_ca 4 (by decide : at_ 4 46 = true) rfl (by decide +kernel) hq98
  have tt156 : Bk K 51 5 g = Bk K 51 5 g19 := Bk_ca 4 (by decide : at_ 4 51 = true) rfl (by decide +kernel) hq99
  have tt157 : Bk K 56 25 g = Bk K 56 25 g23 := Bk_ca 2 (by decide : at_ 2 56 = true) rfl (by decide +kernel) hq100
  have tt158 : Bk K 81 1 g = ([(q26, .inl (K 5, 4, .inr (.inr (.inr (.inr (va_up (va_up (va_up (va_up (fun _ => none) 0 (some q71)) 1 (some q75)) 2 (some q79)) 3 (some q83)))))))] : va_W) := by
    rw [Bk_one, hq101, cf_r (j := 81) (rfl : ro 81 = 38) (by decide)]
    show ([(q26, .inl (K 5, 4, .inr (.inr (.inr (.inr (fun i => if i < 4 then some (g (81 + 1 + 25 * i)) else none))))))] : va_W) = _
    have e : (fun i => if i < 4 then some (g (81 + 1 + 25 * i)) else none) = (va_up (va_up (va_up (va_up (fun _ => none) 0 (some q71)) 1 (some q75)) 2 (some q79)) 3 (some q83)) := by
      funext i
      match i with
      | 0 => exact congrArg some hr131
      | 1 => exact congrArg some hr132
      | 2 => exact congrArg some hr133
      | 3 => exact congrArg some hr134
      | k + 4 => rw [if_neg (by omega)]; simp [va_up]
    rw [e]
  have tt159 : Bk K 82 25 g = Bk K 82 25 g72 := Bk_ca 2 (by decide : at_ 2 82 = true) rfl (by decide +kernel) hq102
  have tt160 : Bk K 107 25 g = Bk K 107 25 g76 := Bk_ca 2 (by decide : at_ 2 107 = true) rfl (by decide +kernel) hq103
  have tt161 : Bk K 132 25 g = Bk K 132 25 g80 := Bk_ca 2 (by decide : at_ 2 132 = true) rfl (by decide +kernel) hq104
  have tt162 : Bk K 157 25 g = Bk K 157 25 g84 := Bk_ca 2 (by decide : at_ 2 157 = true) rfl (by decide +kernel) hq105
  have tt163 : Bk K 182 142 g = Bk K 182 142 g28 := Bk_cc 182 142 (by decide +kernel) hq106
  have tt164 : Bk K 324 11 g = Bk K 324 11 g32 := by
    refine Bk_cq 324 11 [324, 325, 326, 327, 328, 329, 330, 331, 332, 333, 334, 368, 381] (by decide +kernel) (fun q hq => ?_) hq107
    rcases (by simpa using hq : q = 324 ∨ q = 325 ∨ q = 326 ∨ q = 327 ∨ q = 328 ∨ q = 329 ∨ q = 330 ∨ q = 331 ∨ q = 332 ∨ q = 333 ∨ q = 334 ∨ q = 368 ∨ q = 381) with rfl | rfl | rfl | rfl | rfl | rfl | rfl | rfl | rfl | rfl | rfl | rfl | rfl
    · exact hq107 0 (by decide)
    · exact hq107 1 (by decide)
    · exact hq107 2 (by decide)
    · exact hq107 3 (by decide)
    · exact hq107 4 (by decide)
    · exact hq107 5 (by decide)
    · exact hq107 6 (by decide)
    · exact hq107 7 (by decide)
    · exact hq107 8 (by decide)
    · exact hq107 9 (by decide)
    · exact hq107 10 (by decide)
    · exact hq117 0 (by decide)
    · exact hq118 0 (by decide)
  have tt165 : Bk K 335 7 g = Bk K 335 7 g36 := Bk_ca 6 (by decide : at_ 6 335 = true) rfl (by decide +kernel) hq108
  have tt166 : Bk K 342 1 g = ([(q39, .inl (K 0, 40, .inl (fun _ => 0)))] : va_W) := by rw [Bk_one, hq109, cf_r (j := 342) (r := 42) (rfl : ro 342 = 42) (by decide), show akN 42 = 40 by decide +kernel, show akK 42 = 0 by decide +kernel]; rfl
  have tt167 : Bk K 343 1 g = ([(q41, .inl (K 0, 61, .inl (fun _ => 0)))] : va_W) := by rw [Bk_one, hq110, cf_r (j := 343) (r := 43) (rfl : ro 343 = 43) (by decide), show akN 43 = 61 by decide +kernel, show akK 43 = 0 by decide +kernel]; rfl
  have tt168 : Bk K 344 1 g = ([(q43, .inl (K 0, 64, .inl (fun _ => 0)))] : va_W) := by rw [Bk_one, hq111, cf_r (j := 344) (r := 44) (rfl : ro 344 = 44) (by decide), show akN 44 = 64 by decide +kernel, show akK 44 = 0 by decide +kernel]; rfl
  have tt169 : Bk K 345 1 g = ([(q45, .inl (K 0, 64, .inl (fun _ => 0)))] : va_W) := by rw [Bk_one, hq112, cf_r (j := 345) (r := 44) (rfl : ro 345 = 44) (by decide), show akN 44 = 64 by decide +kernel, show akK 44 = 0 by decide +kernel]; rfl
  have tt170 : Bk K 346 2 g = Bk K 346 2 g6 := Bk_cc 346 2 (by decide +kernel) hq113
  have tt171 : Bk K 348 13 g = Bk K 348 13 g6 := Bk_cc 348 13 (by decide +kernel) hq114
  have tt172 : Bk K 361 2 g = Bk K 361 2 g10 := Bk_cc 361 2 (by decide +kernel) hq115
  have tt173 : Bk K 363 5 g = Bk K 363 5 g10 := Bk_cc 363 5 (by decide +kernel) hq116
  have tt174 : Bk K 368 13 g = Bk K 368 13 g32 := Bk_cc 368 13 (by decide +kernel) hq117
  have tt175 : Bk K 381 5 g = Bk K 381 5 g32 := Bk_cc 381 5 (by decide +kernel) hq118
  have ss176 : Bk K 0 386 g = Bk K 0 1 g ++ Bk K 1 385 g := Bk_split 0 1 385
  have ss177 : Bk K 1 385 g = Bk K 1 2 g ++ Bk K 3 383 g := Bk_split 1 2 383
  have ss178 : Bk K 3 383 g = Bk K 3 2 g ++ Bk K 5 381 g := Bk_split 3 2 381
  have ss179 : Bk K 5 381 g = Bk K 5 2 g ++ Bk K 7 379 g := Bk_split 5 2 379
  have ss180 : Bk K 7 379 g = Bk K 7 13 g ++ Bk K 20 366 g := Bk_split 7 13 366
  have ss181 : Bk K 20 366 g = Bk K 20 1 g ++ Bk K 21 365 g := Bk_split 20 1 365
  have ss182 : Bk K 21 365 g = Bk K 21 5 g ++ Bk K 26 360 g := Bk_split 21 5 360
  have ss183 : Bk K 26 360 g = Bk K 26 5 g ++ Bk K 31 355 g := Bk_split 26 5 355
  have ss184 : Bk K 31 355 g = Bk K 31 5 g ++ Bk K 36 350 g := Bk_split 31 5 350
  have ss185 : Bk K 36 350 g = Bk K 36 5 g ++ Bk K 41 345 g := Bk_split 36 5 345
  have ss186 : Bk K 41 345 g = Bk K 41 5 g ++ Bk K 46 340 g := Bk_split 41 5 340
  have ss187 : Bk K 46 340 g = Bk K 46 5 g ++ Bk K 51 335 g := Bk_split 46 5 335
  have ss188 : Bk K 51 335 g = Bk K 51 5 g ++ Bk K 56 330 g := Bk_split 51 5 330
  have ss189 : Bk K 56 330 g = Bk K 56 25 g ++ Bk K 81 305 g := Bk_split 56 25 305
  have ss190 : Bk K 81 305 g = Bk K 81 1 g ++ Bk K 82 304 g := Bk_split 81 1 304
  have ss191 : Bk K 82 304 g = Bk K 82 25 g ++ Bk K 107 279 g := Bk_split 82 25 279
  have ss192 : Bk K 107 279 g = Bk K 107 25 g ++ Bk K 132 254 g := Bk_split 107 25 254
  have ss193 : Bk K 132 254 g = Bk K 132 25 g ++ Bk K 157 229 g := Bk_split 132 25 229
  have ss194 : Bk K 157 229 g = Bk K 157 25 g ++ Bk K 182 204 g := Bk_split 157 25 204
  have ss195 : Bk K 182 204 g = Bk K 182 142 g ++ Bk K 324 62 g := Bk_split 182 142 62
  have ss196 : Bk K 324 62 g = Bk K 324 11 g ++ Bk K 335 51 g := Bk_split 324 11 51
  have ss197 : Bk K 335 51 g = Bk K 335 7 g ++ Bk K 342 44 g := Bk_split 335 7 44
  have ss198 : Bk K 342 44 g = Bk K 342 1 g ++ Bk K 343 43 g := Bk_split 342 1 43
  have ss199 : Bk K 343 43 g = Bk K 343 1 g ++ Bk K 344 42 g := Bk_split 343 1 42
  have ss200 : Bk K 344 42 g = Bk K 344 1 g ++ Bk K 345 41 g := Bk_split 344 1 41
  have ss201 : Bk K 345 41 g = Bk K 345 1 g ++ Bk K 346 40 g := Bk_split 345 1 40
  have ss202 : Bk K 346 40 g = Bk K 346 2 g ++ Bk K 348 38 g := Bk_split 346 2 38
  have ss203 : Bk K 348 38 g = Bk K 348 13 g ++ Bk K 361 25 g := Bk_split 348 13 25
  have ss204 : Bk K 361 25 g = Bk K 361 2 g ++ Bk K 363 23 g := Bk_split 361 2 23
  have ss205 : Bk K 363 23 g = Bk K 363 5 g ++ Bk K 368 18 g := Bk_split 363 5 18
  have ss206 : Bk K 368 18 g = Bk K 368 13 g ++ Bk K 381 5 g := Bk_split 368 13 5
  have ss207 : Bk K 381 5 g = Bk K 381 5 g ++ Bk K 386 0 g := Bk_split 381 5 0
  have hB208 : Bk K 0 386 g = X0 ++ (Bk K 1 2 g2 ++ (Bk K 3 2 g6 ++ (Bk K 5 2 g10 ++ (Bk K 7 13 g14 ++ (([(q17, .inl (K 4, 6, .inr (.inr (.inr (.inr (va_up (va_up (va_up (va_up (va_up (va_up (fun _ => none) 0 (some q47)) 1 (some q51)) 2 (some q55)) 3 (some q59)) 4 (some q63)) 5 (some q67)))))))] : va_W) ++ (Bk K 21 5 g48 ++ (Bk K 26 5 g52 ++ (Bk K 31 5 g56 ++ (Bk K 36 5 g60 ++ (Bk K 41 5 g64 ++ (Bk K 46 5 g68 ++ (Bk K 51 5 g19 ++ (Bk K 56 25 g23 ++ (([(q26, .inl (K 5, 4, .inr (.inr (.inr (.inr (va_up (va_up (va_up (va_up (fun _ => none) 0 (some q71)) 1 (some q75)) 2 (some q79)) 3 (some q83)))))))] : va_W) ++ (Bk K 82 25 g72 ++ (Bk K 107 25 g76 ++ (Bk K 132 25 g80 ++ (Bk K 157 25 g84 ++ (Bk K 182 142 g28 ++ (Bk K 324 11 g32 ++ (Bk K 335 7 g36 ++ (([(q39, .inl (K 0, 40, .inl (fun _ => 0)))] : va_W) ++ (([(q41, .inl (K 0, 61, .inl (fun _ => 0)))] : va_W) ++ (([(q43, .inl (K 0, 64, .inl (fun _ => 0)))] : va_W) ++ (([(q45, .inl (K 0, 64, .inl (fun _ => 0)))] : va_W) ++ (Bk K 346 2 g6 ++ (Bk K 348 13 g6 ++ (Bk K 361 2 g10 ++ (Bk K 363 5 g10 ++ (Bk K 368 13 g32 ++ (Bk K 381 5 g32 ++ ([])))))))))))))))))))))))))))))))) := by rw [ss176, tt144, ss177, tt145, ss178, tt146, ss179, tt147, ss180, tt148, ss181, tt149, ss182, tt150, ss183, tt151, ss184, tt152, ss185, tt153, ss186, tt154, ss187, tt155, ss188, tt156, ss189, tt157, ss190, tt158, ss191, tt159, ss192, tt160, ss193, tt161, ss194, tt162, ss195, tt163, ss196, tt164, ss197, tt165, ss198, tt166, ss199, tt167, ss200, tt168, ss201, tt169, ss202, tt170, ss203, tt171, ss204, tt172, ss205, tt173, ss206, tt174, ss207, tt175, Bk_nil]
  have hB : X0 ++ (Bk K 1 2 g2 ++ (Bk K 3 2 g6 ++ (Bk K 5 2 g10 ++ (Bk K 7 13 g14 ++ (([(q17, .inl (K 4, 6, .inr (.inr (.inr (.inr (va_up (va_up (va_up (va_up (va_up (va_up (fun _ => none) 0 (some q47)) 1 (some q51)) 2 (some q55)) 3 (some q59)) 4 (some q63)) 5 (some q67)))))))] : va_W) ++ (Bk K 21 5 g48 ++ (Bk K 26 5 g52 ++ (Bk K 31 5 g56 ++ (Bk K 36 5 g60 ++ (Bk K 41 5 g64 ++ (Bk K 46 5 g68 ++ (Bk K 51 5 g19 ++ (Bk K 56 25 g23 ++ (([(q26, .inl (K 5, 4, .inr (.inr (.inr (.inr (va_up (va_up (va_up (va_up (fun _ => none) 0 (some q71)) 1 (some q75)) 2 (some q79)) 3 (some q83)))))))] : va_W) ++ (Bk K 82 25 g72 ++ (Bk K 107 25 g76 ++ (Bk K 132 25 g80 ++ (Bk K 157 25 g84 ++ (Bk K 182 142 g28 ++ (Bk K 324 11 g32 ++ (Bk K 335 7 g36 ++ (([(q39, .inl (K 0, 40, .inl (fun _ => 0)))] : va_W) ++ (([(q41, .inl (K 0, 61, .inl (fun _ => 0)))] : va_W) ++ (([(q43, .inl (K 0, 64, .inl (fun _ => 0)))] : va_W) ++ (([(q45, .inl (K 0, 64, .inl (fun _ => 0)))] : va_W) ++ (Bk K 346 2 g6 ++ (Bk K 348 13 g6 ++ (Bk K 361 2 g10 ++ (Bk K 363 5 g10 ++ (Bk K 368 13 g32 ++ (Bk K 381 5 g32 ++ ([])))))))))))))))))))))))))))))))) = Bk K 0 386 g := by
    rw [hB208]
    try simp only [List.append_assoc, List.append_nil, List.nil_append, List.cons_append]
  rw [hW] at G
  have hP := hP.trans (List.Perm.of_eq hB)
  exact n_retv E G hr g hq87 hP (by decide) (by decide) dX10_init_215
