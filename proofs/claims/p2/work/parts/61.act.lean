-- ===== 61.act: act of the reference, by program =====
theorem k_998 : (Jvm.Cond.fieldLink "ChannelMachineModel" (189 : Nat) "ChannelMachineModel" "stamp" "I") ∈ x_T := x_at 998 (by decide +kernel) (by decide +kernel)
theorem k_999 : (Jvm.Cond.fieldLink "ChannelMachineModel" (192 : Nat) "ChannelMachineModel" "acts" "I") ∈ x_T := x_at 999 (by decide +kernel) (by decide +kernel)
theorem k_1238 : (Jvm.Cond.methodLink "ChannelMachineModel" (252 : Nat) ({ cls := "ChannelMachineModel", name := "parallel", desc := "(II)V" } : Jvm.MethodName)) ∈ x_T := x_at 1238 (by decide +kernel) (by decide +kernel)
theorem k_1240 : (Jvm.Cond.instanceMethod ({ cls := "ChannelMachineModel", name := "parallel", desc := "(II)V" } : Jvm.MethodName)) ∈ x_T := x_at 1240 (by decide +kernel) (by decide +kernel)
theorem k_1241 : (Jvm.Cond.code ({ cls := "ChannelMachineModel", name := "parallel", desc := "(II)V" } : Jvm.MethodName) prog_12_method_39_code (5 : Nat) (Option.none : Option Jvm.ClassFile.FieldType)) ∈ x_T := x_at 1241 (by decide +kernel) (by decide +kernel)
theorem k_1242 : (Jvm.Cond.methodLink "ChannelMachineModel" (255 : Nat) ({ cls := "ChannelMachineModel", name := "output", desc := "(III)V" } : Jvm.MethodName)) ∈ x_T := x_at 1242 (by decide +kernel) (by decide +kernel)
theorem k_1244 : (Jvm.Cond.instanceMethod ({ cls := "ChannelMachineModel", name := "output", desc := "(III)V" } : Jvm.MethodName)) ∈ x_T := x_at 1244 (by decide +kernel) (by decide +kernel)
theorem k_1245 : (Jvm.Cond.code ({ cls := "ChannelMachineModel", name := "output", desc := "(III)V" } : Jvm.MethodName) prog_12_method_37_code (4 : Nat) (Option.none : Option Jvm.ClassFile.FieldType)) ∈ x_T := x_at 1245 (by decide +kernel) (by decide +kernel)
theorem k_1262 : (Jvm.Cond.methodLink "ChannelMachineModel" (259 : Nat) ({ cls := "ChannelMachineModel", name := "alternative", desc := "(II)V" } : Jvm.MethodName)) ∈ x_T := x_at 1262 (by decide +kernel) (by decide +kernel)
theorem k_1264 : (Jvm.Cond.instanceMethod ({ cls := "ChannelMachineModel", name := "alternative", desc := "(II)V" } : Jvm.MethodName)) ∈ x_T := x_at 1264 (by decide +kernel) (by decide +kernel)
theorem k_1265 : (Jvm.Cond.code ({ cls := "ChannelMachineModel", name := "alternative", desc := "(II)V" } : Jvm.MethodName) prog_12_method_38_code (8 : Nat) (Option.none : Option Jvm.ClassFile.FieldType)) ∈ x_T := x_at 1265 (by decide +kernel) (by decide +kernel)
theorem kp_74 : (Jvm.Cond.selects "ChannelMachineModel" ({ cls := "ChannelMachineModel", name := "parallel", desc := "(II)V" } : Jvm.MethodName) ({ cls := "ChannelMachineModel", name := "parallel", desc := "(II)V" } : Jvm.MethodName)) ∈ x_T := x_sel (q := (({ cls := "ChannelMachineModel", name := "parallel", desc := "(II)V" } : Jvm.MethodName), 45)) 74 (by decide +kernel) (by decide +kernel)
theorem kp_75 : (Jvm.Cond.selects "ChannelMachineModel" ({ cls := "ChannelMachineModel", name := "output", desc := "(III)V" } : Jvm.MethodName) ({ cls := "ChannelMachineModel", name := "output", desc := "(III)V" } : Jvm.MethodName)) ∈ x_T := x_sel (q := (({ cls := "ChannelMachineModel", name := "output", desc := "(III)V" } : Jvm.MethodName), 45)) 75 (by decide +kernel) (by decide +kernel)
theorem kp_80 : (Jvm.Cond.selects "ChannelMachineModel" ({ cls := "ChannelMachineModel", name := "alternative", desc := "(II)V" } : Jvm.MethodName) ({ cls := "ChannelMachineModel", name := "alternative", desc := "(II)V" } : Jvm.MethodName)) ∈ x_T := x_sel (q := (({ cls := "ChannelMachineModel", name := "alternative", desc := "(II)V" } : Jvm.MethodName), 45)) 80 (by decide +kernel) (by decide +kernel)
theorem d_Mo_act_0 : decode prog_12_method_40_code 0 = .ok (.aload_n 0, 1) := by decide +kernel
theorem d_Mo_act_1 : decode prog_12_method_40_code 1 = .ok (.getfield 79, 3) := by decide +kernel
theorem d_Mo_act_4 : decode prog_12_method_40_code 4 = .ok (.istore_n 1, 1) := by decide +kernel
theorem d_Mo_act_5 : decode prog_12_method_40_code 5 = .ok (.aload_n 0, 1) := by decide +kernel
theorem d_Mo_act_6 : decode prog_12_method_40_code 6 = .ok (.getfield 51, 3) := by decide +kernel
theorem d_Mo_act_9 : decode prog_12_method_40_code 9 = .ok (.iload_n 1, 1) := by decide +kernel
theorem d_Mo_act_10 : decode prog_12_method_40_code 10 = .ok (.iaload, 1) := by decide +kernel
theorem d_Mo_act_11 : decode prog_12_method_40_code 11 = .ok (.istore_n 2, 1) := by decide +kernel
theorem d_Mo_act_12 : decode prog_12_method_40_code 12 = .ok (.iconst 0, 1) := by decide +kernel
theorem d_Mo_act_13 : decode prog_12_method_40_code 13 = .ok (.istore_n 3, 1) := by decide +kernel
theorem d_Mo_act_14 : decode prog_12_method_40_code 14 = .ok (.aload_n 0, 1) := by decide +kernel
theorem d_Mo_act_15 : decode prog_12_method_40_code 15 = .ok (.dup, 1) := by decide +kernel
theorem d_Mo_act_16 : decode prog_12_method_40_code 16 = .ok (.getfield 192, 3) := by decide +kernel
theorem d_Mo_act_19 : decode prog_12_method_40_code 19 = .ok (.iconst 1, 1) := by decide +kernel
theorem d_Mo_act_20 : decode prog_12_method_40_code 20 = .ok (.iadd, 1) := by decide +kernel
theorem d_Mo_act_21 : decode prog_12_method_40_code 21 = .ok (.putfield 192, 3) := by decide +kernel
theorem d_Mo_act_24 : decode prog_12_method_40_code 24 = .ok (.aload_n 0, 1) := by decide +kernel
theorem d_Mo_act_25 : decode prog_12_method_40_code 25 = .ok (.getfield 13, 3) := by decide +kernel
theorem d_Mo_act_28 : decode prog_12_method_40_code 28 = .ok (.iload_n 2, 1) := by decide +kernel
theorem d_Mo_act_29 : decode prog_12_method_40_code 29 = .ok (.iaload, 1) := by decide +kernel
theorem d_Mo_act_30 : decode prog_12_method_40_code 30 = .ok (.tableswitch 275 1 8 #[46, 89, 102, 110, 146, 155, 187, 266], 46) := by decide +kernel
theorem d_Mo_act_76 : decode prog_12_method_40_code 76 = .ok (.aload_n 0, 1) := by decide +kernel
theorem d_Mo_act_77 : decode prog_12_method_40_code 77 = .ok (.iload_n 2, 1) := by decide +kernel
theorem d_Mo_act_78 : decode prog_12_method_40_code 78 = .ok (.iconst 2, 1) := by decide +kernel
theorem d_Mo_act_79 : decode prog_12_method_40_code 79 = .ok (.iadd, 1) := by decide +kernel
theorem d_Mo_act_80 : decode prog_12_method_40_code 80 = .ok (.invokevirtual 239, 3) := by decide +kernel
theorem d_Mo_act_83 : decode prog_12_method_40_code 83 = .ok (.istore_n 3, 1) := by decide +kernel
theorem d_Mo_act_84 : decode prog_12_method_40_code 84 = .ok (.aload_n 0, 1) := by decide +kernel
theorem d_Mo_act_85 : decode prog_12_method_40_code 85 = .ok (.getfield 103, 3) := by decide +kernel
theorem d_Mo_act_88 : decode prog_12_method_40_code 88 = .ok (.ifCond .le 4, 3) := by decide +kernel
theorem d_Mo_act_91 : decode prog_12_method_40_code 91 = .ok (.return_, 1) := by decide +kernel
theorem d_Mo_act_92 : decode prog_12_method_40_code 92 = .ok (.aload_n 0, 1) := by decide +kernel
theorem d_Mo_act_93 : decode prog_12_method_40_code 93 = .ok (.getfield 19, 3) := by decide +kernel
theorem d_Mo_act_96 : decode prog_12_method_40_code 96 = .ok (.aload_n 0, 1) := by decide +kernel
theorem d_Mo_act_97 : decode prog_12_method_40_code 97 = .ok (.getfield 13, 3) := by decide +kernel
theorem d_Mo_act_100 : decode prog_12_method_40_code 100 = .ok (.iload_n 2, 1) := by decide +kernel
theorem d_Mo_act_101 : decode prog_12_method_40_code 101 = .ok (.iconst 1, 1) := by decide +kernel
theorem d_Mo_act_102 : decode prog_12_method_40_code 102 = .ok (.iadd, 1) := by decide +kernel
theorem d_Mo_act_103 : decode prog_12_method_40_code 103 = .ok (.iaload, 1) := by decide +kernel
theorem d_Mo_act_104 : decode prog_12_method_40_code 104 = .ok (.iload_n 3, 1) := by decide +kernel
theorem d_Mo_act_105 : decode prog_12_method_40_code 105 = .ok (.iastore, 1) := by decide +kernel
theorem d_Mo_act_106 : decode prog_12_method_40_code 106 = .ok (.aload_n 0, 1) := by decide +kernel
theorem d_Mo_act_107 : decode prog_12_method_40_code 107 = .ok (.getfield 51, 3) := by decide +kernel
theorem d_Mo_act_110 : decode prog_12_method_40_code 110 = .ok (.iload_n 1, 1) := by decide +kernel
theorem d_Mo_act_111 : decode prog_12_method_40_code 111 = .ok (.aload_n 0, 1) := by decide +kernel
theorem d_Mo_act_112 : decode prog_12_method_40_code 112 = .ok (.getfield 233, 3) := by decide +kernel
theorem d_Mo_act_115 : decode prog_12_method_40_code 115 = .ok (.iastore, 1) := by decide +kernel
theorem d_Mo_act_116 : decode prog_12_method_40_code 116 = .ok (.goto 264, 3) := by decide +kernel
theorem d_Mo_act_119 : decode prog_12_method_40_code 119 = .ok (.aload_n 0, 1) := by decide +kernel
theorem d_Mo_act_120 : decode prog_12_method_40_code 120 = .ok (.getfield 51, 3) := by decide +kernel
theorem d_Mo_act_123 : decode prog_12_method_40_code 123 = .ok (.iload_n 1, 1) := by decide +kernel
theorem d_Mo_act_124 : decode prog_12_method_40_code 124 = .ok (.dup2, 1) := by decide +kernel
theorem d_Mo_act_125 : decode prog_12_method_40_code 125 = .ok (.iaload, 1) := by decide +kernel
theorem d_Mo_act_126 : decode prog_12_method_40_code 126 = .ok (.iconst 1, 1) := by decide +kernel
theorem d_Mo_act_127 : decode prog_12_method_40_code 127 = .ok (.iadd, 1) := by decide +kernel
theorem d_Mo_act_128 : decode prog_12_method_40_code 128 = .ok (.iastore, 1) := by decide +kernel
theorem d_Mo_act_129 : decode prog_12_method_40_code 129 = .ok (.goto 251, 3) := by decide +kernel
theorem d_Mo_act_132 : decode prog_12_method_40_code 132 = .ok (.aload_n 0, 1) := by decide +kernel
theorem d_Mo_act_133 : decode prog_12_method_40_code 133 = .ok (.iconst (-1), 1) := by decide +kernel
theorem d_Mo_act_134 : decode prog_12_method_40_code 134 = .ok (.putfield 79, 3) := by decide +kernel
theorem d_Mo_act_137 : decode prog_12_method_40_code 137 = .ok (.goto 243, 3) := by decide +kernel
theorem d_Mo_act_140 : decode prog_12_method_40_code 140 = .ok (.aload_n 0, 1) := by decide +kernel
theorem d_Mo_act_141 : decode prog_12_method_40_code 141 = .ok (.iload_n 2, 1) := by decide +kernel
theorem d_Mo_act_142 : decode prog_12_method_40_code 142 = .ok (.iconst 2, 1) := by decide +kernel
theorem d_Mo_act_143 : decode prog_12_method_40_code 143 = .ok (.iadd, 1) := by decide +kernel
theorem d_Mo_act_144 : decode prog_12_method_40_code 144 = .ok (.invokevirtual 239, 3) := by decide +kernel
theorem d_Mo_act_147 : decode prog_12_method_40_code 147 = .ok (.istore_n 3, 1) := by decide +kernel
theorem d_Mo_act_148 : decode prog_12_method_40_code 148 = .ok (.aload_n 0, 1) := by decide +kernel
theorem d_Mo_act_149 : decode prog_12_method_40_code 149 = .ok (.getfield 51, 3) := by decide +kernel
theorem d_Mo_act_152 : decode prog_12_method_40_code 152 = .ok (.iload_n 1, 1) := by decide +kernel
theorem d_Mo_act_153 : decode prog_12_method_40_code 153 = .ok (.iload_n 3, 1) := by decide +kernel
theorem d_Mo_act_154 : decode prog_12_method_40_code 154 = .ok (.ifCond .eq 10, 3) := by decide +kernel
theorem d_Mo_act_157 : decode prog_12_method_40_code 157 = .ok (.aload_n 0, 1) := by decide +kernel
theorem d_Mo_act_158 : decode prog_12_method_40_code 158 = .ok (.getfield 233, 3) := by decide +kernel
theorem d_Mo_act_161 : decode prog_12_method_40_code 161 = .ok (.goto 11, 3) := by decide +kernel
theorem d_Mo_act_164 : decode prog_12_method_40_code 164 = .ok (.aload_n 0, 1) := by decide +kernel
theorem d_Mo_act_165 : decode prog_12_method_40_code 165 = .ok (.getfield 13, 3) := by decide +kernel
theorem d_Mo_act_168 : decode prog_12_method_40_code 168 = .ok (.iload_n 2, 1) := by decide +kernel
theorem d_Mo_act_169 : decode prog_12_method_40_code 169 = .ok (.iconst 1, 1) := by decide +kernel
theorem d_Mo_act_170 : decode prog_12_method_40_code 170 = .ok (.iadd, 1) := by decide +kernel
theorem d_Mo_act_171 : decode prog_12_method_40_code 171 = .ok (.iaload, 1) := by decide +kernel
theorem d_Mo_act_172 : decode prog_12_method_40_code 172 = .ok (.iastore, 1) := by decide +kernel
theorem d_Mo_act_173 : decode prog_12_method_40_code 173 = .ok (.goto 207, 3) := by decide +kernel
theorem d_Mo_act_176 : decode prog_12_method_40_code 176 = .ok (.aload_n 0, 1) := by decide +kernel
theorem d_Mo_act_177 : decode prog_12_method_40_code 177 = .ok (.iload_n 1, 1) := by decide +kernel
theorem d_Mo_act_178 : decode prog_12_method_40_code 178 = .ok (.iload_n 2, 1) := by decide +kernel
theorem d_Mo_act_179 : decode prog_12_method_40_code 179 = .ok (.invokevirtual 252, 3) := by decide +kernel
theorem d_Mo_act_182 : decode prog_12_method_40_code 182 = .ok (.goto 198, 3) := by decide +kernel
theorem d_Mo_act_185 : decode prog_12_method_40_code 185 = .ok (.aload_n 0, 1) := by decide +kernel
theorem d_Mo_act_186 : decode prog_12_method_40_code 186 = .ok (.iload_n 2, 1) := by decide +kernel
theorem d_Mo_act_187 : decode prog_12_method_40_code 187 = .ok (.iconst 2, 1) := by decide +kernel
theorem d_Mo_act_188 : decode prog_12_method_40_code 188 = .ok (.iadd, 1) := by decide +kernel
theorem d_Mo_act_189 : decode prog_12_method_40_code 189 = .ok (.invokevirtual 239, 3) := by decide +kernel
theorem d_Mo_act_192 : decode prog_12_method_40_code 192 = .ok (.istore_n 3, 1) := by decide +kernel
theorem d_Mo_act_193 : decode prog_12_method_40_code 193 = .ok (.aload_n 0, 1) := by decide +kernel
theorem d_Mo_act_194 : decode prog_12_method_40_code 194 = .ok (.getfield 103, 3) := by decide +kernel
theorem d_Mo_act_197 : decode prog_12_method_40_code 197 = .ok (.ifCond .ne 183, 3) := by decide +kernel
theorem d_Mo_act_200 : decode prog_12_method_40_code 200 = .ok (.aload_n 0, 1) := by decide +kernel
theorem d_Mo_act_201 : decode prog_12_method_40_code 201 = .ok (.iload_n 1, 1) := by decide +kernel
theorem d_Mo_act_202 : decode prog_12_method_40_code 202 = .ok (.aload_n 0, 1) := by decide +kernel
theorem d_Mo_act_203 : decode prog_12_method_40_code 203 = .ok (.getfield 13, 3) := by decide +kernel
theorem d_Mo_act_206 : decode prog_12_method_40_code 206 = .ok (.iload_n 2, 1) := by decide +kernel
theorem d_Mo_act_207 : decode prog_12_method_40_code 207 = .ok (.iconst 1, 1) := by decide +kernel
theorem d_Mo_act_208 : decode prog_12_method_40_code 208 = .ok (.iadd, 1) := by decide +kernel
theorem d_Mo_act_209 : decode prog_12_method_40_code 209 = .ok (.iaload, 1) := by decide +kernel
theorem d_Mo_act_210 : decode prog_12_method_40_code 210 = .ok (.iload_n 3, 1) := by decide +kernel
theorem d_Mo_act_211 : decode prog_12_method_40_code 211 = .ok (.invokevirtual 255, 3) := by decide +kernel
theorem d_Mo_act_214 : decode prog_12_method_40_code 214 = .ok (.goto 166, 3) := by decide +kernel
theorem d_Mo_act_217 : decode prog_12_method_40_code 217 = .ok (.aload_n 0, 1) := by decide +kernel
theorem d_Mo_act_218 : decode prog_12_method_40_code 218 = .ok (.getfield 51, 3) := by decide +kernel
theorem d_Mo_act_221 : decode prog_12_method_40_code 221 = .ok (.iload_n 1, 1) := by decide +kernel
theorem d_Mo_act_222 : decode prog_12_method_40_code 222 = .ok (.iload_n 2, 1) := by decide +kernel
theorem d_Mo_act_223 : decode prog_12_method_40_code 223 = .ok (.iconst 3, 1) := by decide +kernel
theorem d_Mo_act_224 : decode prog_12_method_40_code 224 = .ok (.iadd, 1) := by decide +kernel
theorem d_Mo_act_225 : decode prog_12_method_40_code 225 = .ok (.iastore, 1) := by decide +kernel
theorem d_Mo_act_226 : decode prog_12_method_40_code 226 = .ok (.aload_n 0, 1) := by decide +kernel
theorem d_Mo_act_227 : decode prog_12_method_40_code 227 = .ok (.aload_n 0, 1) := by decide +kernel
theorem d_Mo_act_228 : decode prog_12_method_40_code 228 = .ok (.getfield 13, 3) := by decide +kernel
theorem d_Mo_act_231 : decode prog_12_method_40_code 231 = .ok (.iload_n 2, 1) := by decide +kernel
theorem d_Mo_act_232 : decode prog_12_method_40_code 232 = .ok (.iconst 1, 1) := by decide +kernel
theorem d_Mo_act_233 : decode prog_12_method_40_code 233 = .ok (.iadd, 1) := by decide +kernel
theorem d_Mo_act_234 : decode prog_12_method_40_code 234 = .ok (.iaload, 1) := by decide +kernel
theorem d_Mo_act_235 : decode prog_12_method_40_code 235 = .ok (.invokevirtual 242, 3) := by decide +kernel
theorem d_Mo_act_238 : decode prog_12_method_40_code 238 = .ok (.ifCond .eq 26, 3) := by decide +kernel
theorem d_Mo_act_241 : decode prog_12_method_40_code 241 = .ok (.aload_n 0, 1) := by decide +kernel
theorem d_Mo_act_242 : decode prog_12_method_40_code 242 = .ok (.aload_n 0, 1) := by decide +kernel
theorem d_Mo_act_243 : decode prog_12_method_40_code 243 = .ok (.getfield 13, 3) := by decide +kernel
theorem d_Mo_act_246 : decode prog_12_method_40_code 246 = .ok (.iload_n 2, 1) := by decide +kernel
theorem d_Mo_act_247 : decode prog_12_method_40_code 247 = .ok (.iconst 1, 1) := by decide +kernel
theorem d_Mo_act_248 : decode prog_12_method_40_code 248 = .ok (.iadd, 1) := by decide +kernel
theorem d_Mo_act_249 : decode prog_12_method_40_code 249 = .ok (.iaload, 1) := by decide +kernel
theorem d_Mo_act_250 : decode prog_12_method_40_code 250 = .ok (.aload_n 0, 1) := by decide +kernel
theorem d_Mo_act_251 : decode prog_12_method_40_code 251 = .ok (.getfield 13, 3) := by decide +kernel
theorem d_Mo_act_254 : decode prog_12_method_40_code 254 = .ok (.iload_n 2, 1) := by decide +kernel
theorem d_Mo_act_255 : decode prog_12_method_40_code 255 = .ok (.iconst 2, 1) := by decide +kernel
theorem d_Mo_act_256 : decode prog_12_method_40_code 256 = .ok (.iadd, 1) := by decide +kernel
theorem d_Mo_act_257 : decode prog_12_method_40_code 257 = .ok (.iaload, 1) := by decide +kernel
theorem d_Mo_act_258 : decode prog_12_method_40_code 258 = .ok (.invokevirtual 245, 3) := by decide +kernel
theorem d_Mo_act_261 : decode prog_12_method_40_code 261 = .ok (.goto 119, 3) := by decide +kernel
theorem d_Mo_act_264 : decode prog_12_method_40_code 264 = .ok (.aload_n 0, 1) := by decide +kernel
theorem d_Mo_act_265 : decode prog_12_method_40_code 265 = .ok (.aload_n 0, 1) := by decide +kernel
theorem d_Mo_act_266 : decode prog_12_method_40_code 266 = .ok (.getfield 13, 3) := by decide +kernel
theorem d_Mo_act_269 : decode prog_12_method_40_code 269 = .ok (.iload_n 2, 1) := by decide +kernel
theorem d_Mo_act_270 : decode prog_12_method_40_code 270 = .ok (.iconst 1, 1) := by decide +kernel
theorem d_Mo_act_271 : decode prog_12_method_40_code 271 = .ok (.iadd, 1) := by decide +kernel
theorem d_Mo_act_272 : decode prog_12_method_40_code 272 = .ok (.iaload, 1) := by decide +kernel
theorem d_Mo_act_273 : decode prog_12_method_40_code 273 = .ok (.iload_n 1, 1) := by decide +kernel
theorem d_Mo_act_274 : decode prog_12_method_40_code 274 = .ok (.aload_n 0, 1) := by decide +kernel
theorem d_Mo_act_275 : decode prog_12_method_40_code 275 = .ok (.getfield 13, 3) := by decide +kernel
theorem d_Mo_act_278 : decode prog_12_method_40_code 278 = .ok (.iload_n 2, 1) := by decide +kernel
theorem d_Mo_act_279 : decode prog_12_method_40_code 279 = .ok (.iconst 2, 1) := by decide +kernel
theorem d_Mo_act_280 : decode prog_12_method_40_code 280 = .ok (.iadd, 1) := by decide +kernel
theorem d_Mo_act_281 : decode prog_12_method_40_code 281 = .ok (.iaload, 1) := by decide +kernel
theorem d_Mo_act_282 : decode prog_12_method_40_code 282 = .ok (.iload_n 2, 1) := by decide +kernel
theorem d_Mo_act_283 : decode prog_12_method_40_code 283 = .ok (.iconst 3, 1) := by decide +kernel
theorem d_Mo_act_284 : decode prog_12_method_40_code 284 = .ok (.iadd, 1) := by decide +kernel
theorem d_Mo_act_285 : decode prog_12_method_40_code 285 = .ok (.invokevirtual 248, 3) := by decide +kernel
theorem d_Mo_act_288 : decode prog_12_method_40_code 288 = .ok (.aload_n 0, 1) := by decide +kernel
theorem d_Mo_act_289 : decode prog_12_method_40_code 289 = .ok (.iconst (-1), 1) := by decide +kernel
theorem d_Mo_act_290 : decode prog_12_method_40_code 290 = .ok (.putfield 79, 3) := by decide +kernel
theorem d_Mo_act_293 : decode prog_12_method_40_code 293 = .ok (.goto 87, 3) := by decide +kernel
theorem d_Mo_act_296 : decode prog_12_method_40_code 296 = .ok (.aload_n 0, 1) := by decide +kernel
theorem d_Mo_act_297 : decode prog_12_method_40_code 297 = .ok (.iload_n 1, 1) := by decide +kernel
theorem d_Mo_act_298 : decode prog_12_method_40_code 298 = .ok (.iload_n 2, 1) := by decide +kernel
theorem d_Mo_act_299 : decode prog_12_method_40_code 299 = .ok (.invokevirtual 259, 3) := by decide +kernel
theorem d_Mo_act_302 : decode prog_12_method_40_code 302 = .ok (.goto 78, 3) := by decide +kernel
theorem d_Mo_act_305 : decode prog_12_method_40_code 305 = .ok (.aload_n 0, 1) := by decide +kernel
theorem d_Mo_act_306 : decode prog_12_method_40_code 306 = .ok (.iload_n 2, 1) := by decide +kernel
theorem d_Mo_act_307 : decode prog_12_method_40_code 307 = .ok (.iconst 1, 1) := by decide +kernel
theorem d_Mo_act_308 : decode prog_12_method_40_code 308 = .ok (.iadd, 1) := by decide +kernel
theorem d_Mo_act_309 : decode prog_12_method_40_code 309 = .ok (.invokevirtual 239, 3) := by decide +kernel
theorem d_Mo_act_312 : decode prog_12_method_40_code 312 = .ok (.istore_n 3, 1) := by decide +kernel
theorem d_Mo_act_313 : decode prog_12_method_40_code 313 = .ok (.aload_n 0, 1) := by decide +kernel
theorem d_Mo_act_314 : decode prog_12_method_40_code 314 = .ok (.getfield 51, 3) := by decide +kernel
theorem d_Mo_act_317 : decode prog_12_method_40_code 317 = .ok (.iload_n 1, 1) := by decide +kernel
theorem d_Mo_act_318 : decode prog_12_method_40_code 318 = .ok (.aload_n 0, 1) := by decide +kernel
theorem d_Mo_act_319 : decode prog_12_method_40_code 319 = .ok (.getfield 233, 3) := by decide +kernel
theorem d_Mo_act_322 : decode prog_12_method_40_code 322 = .ok (.iastore, 1) := by decide +kernel
theorem d_Mo_act_323 : decode prog_12_method_40_code 323 = .ok (.aload_n 0, 1) := by decide +kernel
theorem d_Mo_act_324 : decode prog_12_method_40_code 324 = .ok (.getfield 103, 3) := by decide +kernel
theorem d_Mo_act_327 : decode prog_12_method_40_code 327 = .ok (.ifCond .gt 7, 3) := by decide +kernel
theorem d_Mo_act_330 : decode prog_12_method_40_code 330 = .ok (.iload_n 3, 1) := by decide +kernel
theorem d_Mo_act_331 : decode prog_12_method_40_code 331 = .ok (.ifCond .gt 4, 3) := by decide +kernel
theorem d_Mo_act_334 : decode prog_12_method_40_code 334 = .ok (.return_, 1) := by decide +kernel
theorem d_Mo_act_335 : decode prog_12_method_40_code 335 = .ok (.aload_n 0, 1) := by decide +kernel
theorem d_Mo_act_336 : decode prog_12_method_40_code 336 = .ok (.getfield 76, 3) := by decide +kernel
theorem d_Mo_act_339 : decode prog_12_method_40_code 339 = .ok (.iload_n 1, 1) := by decide +kernel
theorem d_Mo_act_340 : decode prog_12_method_40_code 340 = .ok (.iconst 1, 1) := by decide +kernel
theorem d_Mo_act_341 : decode prog_12_method_40_code 341 = .ok (.bastore, 1) := by decide +kernel
theorem d_Mo_act_342 : decode prog_12_method_40_code 342 = .ok (.aload_n 0, 1) := by decide +kernel
theorem d_Mo_act_343 : decode prog_12_method_40_code 343 = .ok (.getfield 69, 3) := by decide +kernel
theorem d_Mo_act_346 : decode prog_12_method_40_code 346 = .ok (.iload_n 1, 1) := by decide +kernel
theorem d_Mo_act_347 : decode prog_12_method_40_code 347 = .ok (.aload_n 0, 1) := by decide +kernel
theorem d_Mo_act_348 : decode prog_12_method_40_code 348 = .ok (.getfield 204, 3) := by decide +kernel
theorem d_Mo_act_351 : decode prog_12_method_40_code 351 = .ok (.iload_n 3, 1) := by decide +kernel
theorem d_Mo_act_352 : decode prog_12_method_40_code 352 = .ok (.i2l, 1) := by decide +kernel
theorem d_Mo_act_353 : decode prog_12_method_40_code 353 = .ok (.ladd, 1) := by decide +kernel
theorem d_Mo_act_354 : decode prog_12_method_40_code 354 = .ok (.lastore, 1) := by decide +kernel
theorem d_Mo_act_355 : decode prog_12_method_40_code 355 = .ok (.aload_n 0, 1) := by decide +kernel
theorem d_Mo_act_356 : decode prog_12_method_40_code 356 = .ok (.dup, 1) := by decide +kernel
theorem d_Mo_act_357 : decode prog_12_method_40_code 357 = .ok (.getfield 189, 3) := by decide +kernel
theorem d_Mo_act_360 : decode prog_12_method_40_code 360 = .ok (.iconst 1, 1) := by decide +kernel
theorem d_Mo_act_361 : decode prog_12_method_40_code 361 = .ok (.iadd, 1) := by decide +kernel
theorem d_Mo_act_362 : decode prog_12_method_40_code 362 = .ok (.putfield 189, 3) := by decide +kernel
theorem d_Mo_act_365 : decode prog_12_method_40_code 365 = .ok (.aload_n 0, 1) := by decide +kernel
theorem d_Mo_act_366 : decode prog_12_method_40_code 366 = .ok (.getfield 60, 3) := by decide +kernel
theorem d_Mo_act_369 : decode prog_12_method_40_code 369 = .ok (.iload_n 1, 1) := by decide +kernel
theorem d_Mo_act_370 : decode prog_12_method_40_code 370 = .ok (.aload_n 0, 1) := by decide +kernel
theorem d_Mo_act_371 : decode prog_12_method_40_code 371 = .ok (.getfield 189, 3) := by decide +kernel
theorem d_Mo_act_374 : decode prog_12_method_40_code 374 = .ok (.iastore, 1) := by decide +kernel
theorem d_Mo_act_375 : decode prog_12_method_40_code 375 = .ok (.aload_n 0, 1) := by decide +kernel
theorem d_Mo_act_376 : decode prog_12_method_40_code 376 = .ok (.iconst (-1), 1) := by decide +kernel
theorem d_Mo_act_377 : decode prog_12_method_40_code 377 = .ok (.putfield 79, 3) := by decide +kernel
theorem d_Mo_act_380 : decode prog_12_method_40_code 380 = .ok (.return_, 1) := by decide +kernel
section RP
variable {f : Nat → Int32} {V : Nat → Prop} {own pown : Nat → Nat} {bl : List Nat} {role : Nat → Nat}
/-- the branches of a PAR as a function -/
theorem m_ys {p n : Nat} (a4 : ∀ k, k < n → ∃ y, m_k f role (p + 2 + k) y ∧ V y ∧ own y = y ∧ pown y = own p ∧ y ∈ bl ∧ (0 < y ∧ y < 1200) ∧ ∀ k', k' < n → k' ≠ k → ∃ y', m_k f role (p + 2 + k') y' ∧ y' < 1200 ∧ y' ≠ y) :
    ∃ ys : Nat → Nat, (∀ k, k < n → f (p + 2 + k) = Int32.ofNat (ys k) ∧ V (ys k) ∧ own (ys k) = ys k ∧ pown (ys k) = own p ∧ ys k ∈ bl ∧ 0 < ys k ∧ ys k < 1200) ∧ ∀ k k', k < n → k' < n → k ≠ k' → ys k ≠ ys k' := by
  have h1 : ∀ k, ∃ y, k < n → m_k f role (p + 2 + k) y ∧ V y ∧ own y = y ∧ pown y = own p ∧ y ∈ bl ∧ (0 < y ∧ y < 1200) ∧ ∀ k', k' < n → k' ≠ k → ∃ y', m_k f role (p + 2 + k') y' ∧ y' < 1200 ∧ y' ≠ y := fun k => by
    by_cases hk : k < n
    · obtain ⟨y, hy⟩ := a4 k hk
      exact ⟨y, fun _ => hy⟩
    · exact ⟨0, fun h => absurd h hk⟩
  refine ⟨fun k => Classical.choose (h1 k), fun k hk => ?_, fun k k' hk hk' hne => ?_⟩
  · obtain ⟨b1, b2, b3, b4, b5, b6, b7⟩ := Classical.choose_spec (h1 k) hk
    exact ⟨b1.2, b2, b3, b4, b5, b6.1, b6.2⟩
  · obtain ⟨b1, b2, b3, b4, b5, b6, b7⟩ := Classical.choose_spec (h1 k) hk
    obtain ⟨d1, d2, d3, d4, d5, d6, d7⟩ := Classical.choose_spec (h1 k') hk'
    obtain ⟨y', c1, c2, c3⟩ := b7 k' hk' (fun h => hne h.symm)
    have e := x_inj (by omega) (by omega) (c1.2.symm.trans d1.2)
    intro h9
    exact c3 (e.trans h9.symm)
end RP
set_option maxHeartbeats 4000000 in
set_option maxRecDepth 100000 in
theorem m_act (l : Launch) (dC : Nat → ClassId) (dI : Nat → Nat → Nat) (ar : Nat → ClassId) (N0 : Nat) (z : Nat → Nat) (h0 : Nat) (ad : Nat → Nat) (I : Nat → Int32) (T : Int64) (A : Nat → Nat → Int32) (U : Nat → Int64) (V : Nat → Prop) (own pown : Nat → Nat) (bl : List Nat) (role : Nat → Nat) (k9 q : Nat) (pn br st : Nat → Nat) (tt : Nat) (sz : Nat) (h29 : I 29 = Int32.ofNat q) (h30 : I 30 = Int32.ofNat tt) (hri : m_RI A q V own pown bl role k9 pn br st) (htt : tt < 90) (hal : m_al A tt) (hst : st tt = 2) (h10 : ¬ A 1 (pn tt) = 10) (h11 : ¬ A 1 (pn tt) = 11) (h12 : ¬ A 1 (pn tt) = 12) (h33 : I 33 = 0) (hbx : m_BX I) : Met l ({ cls := "ChannelMachineModel", name := "act", desc := "()V" } : Jvm.MethodName) ((Jvm.Cond.code ({ cls := "ChannelMachineModel", name := "act", desc := "()V" } : Jvm.MethodName) prog_12_method_40_code (4 : Nat) (Option.none : Option Jvm.ClassFile.FieldType)) :: x_T) ({ frames := 4, cells := 1, slots := 4, locals := 95 }) (x_Pc (dC, dI) ar N0 z (m_W h0 ad ar I T A U) sz [.ref h0]) (va_Qv (fun (u : (Nat → Int32) × Int64 × (Nat → Nat → Int32) × (Nat → Int64)) => m_fr [29, 30, 31, 32, 33, 42, 43, 44] I u.1 ∧ m_fa [3, 20, 21, 22, 23, 24, 25, 27, 28, 35, 36, 37, 38, 39, 40, 41] A u.2.2.1 ∧ u.2.1 = T ∧ u.1 32 = I 32 + 1 ∧ m_BX u.1 ∧ (u.1 33 = 0 → m_RUN u.1 u.2.2.1)) (fun u t => va_P (dC, dI) x_cl (m_W h0 ad ar u.1 u.2.1 u.2.2.1 u.2.2.2) t.heap) (va_A (m_W h0 ad ar I T A U) sz)) 1 4 (va_A (m_W h0 ad ar I T A U) sz) := by
  refine Met.ofW (cc := prog_12_method_40_code) (maxL := 4) (ret := none) (by decide) rfl ?_
  intro p e s m args below meth c s₁ B hml hv
  obtain ⟨rfl, hsz, hN0, hP, hU, hZ, hD0⟩ := hv
  have hK := hU.1
  have hx := B.exec
  have hb := B.bytes
  have hr := B.returns
  have hts : ∀ w ∈ x_T, w.before ([.ref h0] : List Value).toArray s = true := fun w h => atoms_spec (ws := (Jvm.Cond.code ({ cls := "ChannelMachineModel", name := "act", desc := "()V" } : Jvm.MethodName) prog_12_method_40_code (4 : Nat) (Option.none : Option Jvm.ClassFile.FieldType)) :: x_T) B.pre w (List.mem_cons_of_mem _ h)
  have hown : s.vm.findClass "ChannelMachineModel" = some m.cls := findClass_of_methodNamed B.named
  have hlocks := B.notSynchronized
  subst hsz
  have hD := hD0.self (sz := s.heap.size)
  have hAN := x_AN hD0 hN0
  generalize hAe : va_A (m_W h0 ad ar I T A U) s.heap.size = Bq at hD hAN ⊢
  have hA : ∀ q : Nat, s.heap.size ≤ q → Bq q := fun q h => by rw [← hAe]; exact Or.inr h
  have hS : va_S Bq s.heap s.heap [] := va_S.rf
  have hl := lv_entry ([.ref h0]) (n := 4) (Nat.le_of_ble_eq_true rfl)
  rw [lg_entry_eq]
  generalize (lg_sl ([.ref h0]) ++ List.replicate (4 - (lg_sl ([.ref h0])).length) Slot.unset).toArray = ls at hl ⊢
  have hl : lv_has ls 4 [(0, .ref h0)] := hl
  obtain ⟨⟨gv, hgv, h42⟩, b9, hb9, h43⟩ := hbx
  have hk := hri.kc0 htt hal (by omega)
  have hri0 := hri.st20 hst
  have hst0 : (fun x => if x = tt then 0 else st x) tt = 0 := if_pos rfl
  generalize (fun x => if x = tt then 0 else st x) = st0 at hri0 hst0
  obtain ⟨p20, p1001, pV, pown9, pin⟩ := hri.at htt hal
  generalize hpp : pn tt = pp at p20 p1001 pV pown9 pin h10 h11 h12
  obtain ⟨hr0, pin⟩ := pin
  rcases pin with ⟨e, v9, q9, a1, a2, a3, a4⟩ | ⟨e, a1⟩ | e | ⟨e, ⟨q9, a1, a2⟩, a3⟩ | ⟨e, a1, n9, a2, a3, a4⟩ | ⟨e, c9, q9, a1, a2, a3, a4⟩ | ⟨e, ⟨c9, v9, a1, a2, a3, a4⟩, a5⟩ | ⟨e, n9, a1, a2, a3⟩ | ⟨e, q9, a1, a2⟩ | ⟨e, a1, a2⟩ | ⟨e, a1⟩ | e
  · have hq9 := hri.vlt a4.1
    refine lv_aload_n hx hb d_Mo_act_0 rfl (lv_at hl 0 rfl) ?_
    refine m_g hx hb hts hown hK hP 30 (by decide) rfl (hts _ k_997) (v := .int (Int32.ofNat tt)) (congrArg Value.int h30) d_Mo_act_1 ?_
    refine lv_istore_n (lv' := [(1, .int (Int32.ofNat tt)), (0, .ref h0)]) hx hb d_Mo_act_4 rfl hl (by decide) rfl (fun ls hl => ?_)
    refine lv_aload_n hx hb d_Mo_act_5 rfl (lv_at hl 1 rfl) ?_
    refine m_g hx hb hts hown hK hP 20 (by decide) rfl (hts _ k_987) (v := .ref (ad 20)) rfl d_Mo_act_6 ?_
    refine lv_iload_n hx hb d_Mo_act_9 rfl (lv_at hl 0 rfl) ?_
    refine m_ld hx hb hK hP 12 rfl (by decide) (j := (Int32.ofNat tt)) (x_inN (by omega) (by decide)) d_Mo_act_10 ?_
    refine W.eq (g2 := F0 m 11 ls [.int (Int32.ofNat pp)]) (by rw [x_nat (a := tt) (by omega), show A 20 tt = (Int32.ofNat pp) from p20]) ?_
    refine lv_istore_n (lv' := [(2, .int (Int32.ofNat pp)), (1, .int (Int32.ofNat tt)), (0, .ref h0)]) hx hb d_Mo_act_11 rfl hl (by decide) rfl (fun ls hl => ?_)
    refine lv_iconst (v := 0) hx hb d_Mo_act_12 (by decide) ?_
    refine lv_istore_n (lv' := [(3, .int 0), (2, .int (Int32.ofNat pp)), (1, .int (Int32.ofNat tt)), (0, .ref h0)]) hx hb d_Mo_act_13 rfl hl (by decide) rfl (fun ls hl => ?_)
    refine lv_aload_n hx hb d_Mo_act_14 rfl (lv_at hl 3 rfl) ?_
    refine lv_dup hx hb d_Mo_act_15 rfl ?_
    refine m_g hx hb hts hown hK hP 32 (by decide) rfl (hts _ k_999) (v := .int (I 32)) rfl d_Mo_act_16 ?_
    refine lv_iconst (v := 1) hx hb d_Mo_act_19 (by decide) ?_
    refine lv_iadd hx hb d_Mo_act_20 ?_
    refine m_p hx hb hts hown hK hP hD hS 32 (by decide) rfl (hts _ k_999) rfl (by decide +kernel) rfl (by decide) (x := ((I 32) + 1)) d_Mo_act_21 (fun H locs hP hD hS => ?_)
    refine lv_aload_n hx hb d_Mo_act_24 rfl (lv_at hl 3 rfl) ?_
    refine m_g hx hb hts hown hK hP 1 (by decide) rfl (hts _ k_968) (v := .ref (ad 1)) rfl d_Mo_act_25 ?_
    refine lv_iload_n hx hb d_Mo_act_28 rfl (lv_at hl 1 rfl) ?_
    refine m_ld hx hb hK hP 1 rfl (by decide) (j := (Int32.ofNat pp)) (x_inN (by omega) (by decide)) d_Mo_act_29 ?_
    refine W.eq (g2 := F0 m 30 ls [.int 1]) (by rw [x_nat (a := pp) (by omega), show A 1 pp = 1 from e]) ?_
    refine lv_tableIn (tgt := 76) hx hb d_Mo_act_30 (by decide) (by decide) (off := 46) rfl (by decide) ?_
    refine lv_aload_n hx hb d_Mo_act_76 rfl (lv_at hl 3 rfl) ?_
    refine lv_iload_n hx hb d_Mo_act_77 rfl (lv_at hl 1 rfl) ?_
    refine lv_iconst (v := 2) hx hb d_Mo_act_78 (by decide) ?_
    refine lv_iadd hx hb d_Mo_act_79 ?_
    refine W.eq (g2 := F0 m 80 ls [.int (Int32.ofNat (pp + 2)), .ref h0]) (by rw [← x_addN (a := pp) (b := 2)] <;> rfl) ?_
    have hFc := m_free hD hS hA
    refine va_calli (va_runV (As := [.int (Int32.ofNat (pp + 2))]) (rest := []) ⟨hx, hb, hml, hown, hts⟩ (m_value l dC dI ar N0 z h0 ad (upd I 32 ((I 32) + 1)) T A U ((pp + 2)) q9 H.size (by omega) h33 a3.1 a3.2.1) (cwV 1 hts (x_goodV k_1230 k_1232 kp_72 k_9 k_1233) rfl rfl rfl (by decide +kernel) ⟨Nat.le_of_ble_eq_true rfl, Nat.le_of_ble_eq_true rfl⟩) ⟨x_blind, va_recv hK hP (ci := 6) (q0 := 0) rfl rfl, fun U9 hU9 hW9 => x_pre hU9 hW9 hP hD hU hZ hS hAN hN0⟩ rfl rfl hl.1 rfl (lv_room (Nat.le_of_ble_eq_true rfl)) d_Mo_act_80 ⟨Nat.le_of_ble_eq_true rfl, Nat.le_of_ble_eq_true rfl⟩) hS (fun q _ h => hFc q h) hFc (fun r_1 u t H1 locs ht hvm hw hB hz1 hk1 hS => ?_)
    obtain ⟨I3, T3, A3, U3⟩ := u
    dsimp only at hw hB
    rw [ht] at hB
    have hP : va_P (dC, dI) x_cl (m_W h0 ad ar I3 T3 A3 U3) H1 := hB
    have hD : va_D Bq (m_W h0 ad ar I3 T3 A3 U3) := m_D hD
    generalize H1 = H at hP hS ⊢
    refine W.widen (k := 0) (n := 0) (Nat.le_of_ble_eq_true rfl) (Nat.le_of_ble_eq_true rfl) ?_
    obtain ⟨fr4, fa4, eT, eU, hv33⟩ := hw
    cases eT
    cases eU
    rcases hv33 with hv33 | hv33
    · refine lv_istore_n (lv' := [(3, .int r_1), (2, .int (Int32.ofNat pp)), (1, .int (Int32.ofNat tt)), (0, .ref h0)]) hx hb d_Mo_act_83 rfl hl (by decide) rfl (fun ls hl => ?_)
      refine lv_aload_n hx hb d_Mo_act_84 rfl (lv_at hl 3 rfl) ?_
      refine m_g hx hb hts hown hK hP 33 (by decide) rfl (hts _ k_1000) (v := .int 0) (congrArg Value.int hv33.1) d_Mo_act_85 ?_
      refine lv_if_le (tgt := 92) hx hb d_Mo_act_88 (by decide) (fun _ => ?_) (fun c_5 => absurd (by decide) c_5)
      refine lv_aload_n hx hb d_Mo_act_92 rfl (lv_at hl 3 rfl) ?_
      refine m_g hx hb hts hown hK hP 3 (by decide) rfl (hts _ k_970) (v := .ref (ad 3)) rfl d_Mo_act_93 ?_
      refine lv_aload_n hx hb d_Mo_act_96 rfl (lv_at hl 3 rfl) ?_
      refine m_g hx hb hts hown hK hP 1 (by decide) rfl (hts _ k_968) (v := .ref (ad 1)) rfl d_Mo_act_97 ?_
      refine lv_iload_n hx hb d_Mo_act_100 rfl (lv_at hl 1 rfl) ?_
      refine lv_iconst (v := 1) hx hb d_Mo_act_101 (by decide) ?_
      refine lv_iadd hx hb d_Mo_act_102 ?_
      refine W.eq (g2 := F0 m 103 ls [.int (Int32.ofNat (pp + 1)), .ref (ad 1), .ref (ad 3)]) (by rw [← x_addN (a := pp) (b := 1)] <;> rfl) ?_
      refine m_ld hx hb hK hP 1 rfl (by decide) (j := (Int32.ofNat (pp + 1))) (x_inN (by omega) (by decide)) d_Mo_act_103 ?_
      refine W.eq (g2 := F0 m 104 ls [.int (Int32.ofNat v9), .ref (ad 3)]) (by rw [x_nat (a := (pp + 1)) (by omega), show A3 1 ((pp + 1)) = (Int32.ofNat v9) from (by rw [fa4 1 (by decide)]; exact a1.2)]) ?_
      refine lv_iload_n hx hb d_Mo_act_104 rfl (lv_at hl 0 rfl) ?_
      refine m_st hx hb hK hP hD hS 3 rfl (by decide) (j := (Int32.ofNat v9)) (x := r_1) (x_inN (by omega) (by decide)) d_Mo_act_105 (fun H locs hP hD hS => ?_)
      rw [x_nat (a := v9) (by omega)] at hP hD
      have hP : va_P (dC, dI) x_cl (m_W h0 ad ar I3 T (m_up A3 3 (upd (A3 3) v9 r_1)) U) H := hP
      have hD : va_D Bq (m_W h0 ad ar I3 T (m_up A3 3 (upd (A3 3) v9 r_1)) U) := hD
      refine lv_aload_n hx hb d_Mo_act_106 rfl (lv_at hl 3 rfl) ?_
      refine m_g hx hb hts hown hK hP 20 (by decide) rfl (hts _ k_987) (v := .ref (ad 20)) rfl d_Mo_act_107 ?_
      refine lv_iload_n hx hb d_Mo_act_110 rfl (lv_at hl 2 rfl) ?_
      refine lv_aload_n hx hb d_Mo_act_111 rfl (lv_at hl 3 rfl) ?_
      refine m_g hx hb hts hown hK hP 44 (by decide) rfl (hts _ k_1011) (v := .int (Int32.ofNat (q9 + 1))) (congrArg Value.int hv33.2) d_Mo_act_112 ?_
      refine m_st hx hb hK hP hD hS 12 rfl (by decide) (j := (Int32.ofNat tt)) (x := (Int32.ofNat (q9 + 1))) (x_inN (by omega) (by decide)) d_Mo_act_115 (fun H locs hP hD hS => ?_)
      rw [x_nat (a := tt) (by omega)] at hP hD
      have hP : va_P (dC, dI) x_cl (m_W h0 ad ar I3 T (m_up (m_up A3 3 (upd (A3 3) v9 r_1)) 20 (upd (A3 20) tt (Int32.ofNat (q9 + 1)))) U) H := hP
      have hD : va_D Bq (m_W h0 ad ar I3 T (m_up (m_up A3 3 (upd (A3 3) v9 r_1)) 20 (upd (A3 20) tt (Int32.ofNat (q9 + 1)))) U) := hD
      refine lv_goto (tgt := 380) hx hb d_Mo_act_116 (by decide) ?_
      refine W.widen (k := 1) (n := 4) (Nat.le_of_ble_eq_true rfl) (Nat.le_of_ble_eq_true rfl) ?_
      exact W.vret hx hb hr (fun t ht hW => ⟨⟨(I3, T, (m_up (m_up A3 3 (upd (A3 3) v9 r_1)) 20 (upd (A3 20) tt (Int32.ofNat (q9 + 1)))), U), rfl, ⟨((m_fr.rf.up (k := 32) (by decide) _).tr fr4 (by decide)), (((m_fa.rf.tr fa4 (by decide)).up (by decide) _).up (by decide) _), rfl, (fr4 32 (by decide)), ⟨⟨gv, hgv, ((fr4 42 (by decide)).trans h42)⟩, b9, hb9, ((fr4 43 (by decide)).trans h43)⟩, fun _ => ⟨V, own, pown, bl, role, k9, q, _, br, _, ((fr4 29 (by decide)).trans h29), (((hri0.fa fa4 (by decide)).pc (t := tt) a4.1 (a4.2.trans pown9)).eq (A' := (m_up (m_up A3 3 (upd (A3 3) v9 r_1)) 20 (upd (A3 20) tt (Int32.ofNat (q9 + 1))))) rfl rfl rfl rfl rfl rfl rfl rfl rfl rfl rfl).st02 (t := tt) hst0 (by show m_kc (A3 27) (A3 21) tt 90 = 0; rw [fa4 27 (by decide), fa4 21 (by decide)]; exact hk), Or.inr ⟨tt, htt, ((fr4 30 (by decide)).trans h30), (by show ¬ A3 27 tt = 0; rw [fa4 27 (by decide)]; exact hal), if_pos rfl⟩⟩⟩, by dsimp only; rw [ht]; exact hP⟩, hS.F ht⟩) hS.2.2 d_Mo_act_380
    · refine lv_istore_n (lv' := [(3, .int r_1), (2, .int (Int32.ofNat pp)), (1, .int (Int32.ofNat tt)), (0, .ref h0)]) hx hb d_Mo_act_83 rfl hl (by decide) rfl (fun ls hl => ?_)
      refine lv_aload_n hx hb d_Mo_act_84 rfl (lv_at hl 3 rfl) ?_
      refine m_g hx hb hts hown hK hP 33 (by decide) rfl (hts _ k_1000) (v := .int 3) (congrArg Value.int hv33) d_Mo_act_85 ?_
      refine lv_if_le (tgt := 92) hx hb d_Mo_act_88 (by decide) (fun c_6 => absurd c_6 (by decide)) (fun _ => ?_)
      refine W.widen (k := 1) (n := 4) (Nat.le_of_ble_eq_true rfl) (Nat.le_of_ble_eq_true rfl) ?_
      exact W.vret hx hb hr (fun t ht hW => ⟨⟨(I3, T, A3, U), rfl, ⟨((m_fr.rf.up (k := 32) (by decide) _).tr fr4 (by decide)), (m_fa.rf.tr fa4 (by decide)), rfl, (fr4 32 (by decide)), ⟨⟨gv, hgv, ((fr4 42 (by decide)).trans h42)⟩, b9, hb9, ((fr4 43 (by decide)).trans h43)⟩, fun h9 => absurd (h9.symm.trans hv33) (by decide)⟩, by dsimp only; rw [ht]; exact hP⟩, hS.F ht⟩) hS.2.2 d_Mo_act_91
  · refine lv_aload_n hx hb d_Mo_act_0 rfl (lv_at hl 0 rfl) ?_
    refine m_g hx hb hts hown hK hP 30 (by decide) rfl (hts _ k_997) (v := .int (Int32.ofNat tt)) (congrArg Value.int h30) d_Mo_act_1 ?_
    refine lv_istore_n (lv' := [(1, .int (Int32.ofNat tt)), (0, .ref h0)]) hx hb d_Mo_act_4 rfl hl (by decide) rfl (fun ls hl => ?_)
    refine lv_aload_n hx hb d_Mo_act_5 rfl (lv_at hl 1 rfl) ?_
    refine m_g hx hb hts hown hK hP 20 (by decide) rfl (hts _ k_987) (v := .ref (ad 20)) rfl d_Mo_act_6 ?_
    refine lv_iload_n hx hb d_Mo_act_9 rfl (lv_at hl 0 rfl) ?_
    refine m_ld hx hb hK hP 12 rfl (by decide) (j := (Int32.ofNat tt)) (x_inN (by omega) (by decide)) d_Mo_act_10 ?_
    refine W.eq (g2 := F0 m 11 ls [.int (Int32.ofNat pp)]) (by rw [x_nat (a := tt) (by omega), show A 20 tt = (Int32.ofNat pp) from p20]) ?_
    refine lv_istore_n (lv' := [(2, .int (Int32.ofNat pp)), (1, .int (Int32.ofNat tt)), (0, .ref h0)]) hx hb d_Mo_act_11 rfl hl (by decide) rfl (fun ls hl => ?_)
    refine lv_iconst (v := 0) hx hb d_Mo_act_12 (by decide) ?_
    refine lv_istore_n (lv' := [(3, .int 0), (2, .int (Int32.ofNat pp)), (1, .int (Int32.ofNat tt)), (0, .ref h0)]) hx hb d_Mo_act_13 rfl hl (by decide) rfl (fun ls hl => ?_)
    refine lv_aload_n hx hb d_Mo_act_14 rfl (lv_at hl 3 rfl) ?_
    refine lv_dup hx hb d_Mo_act_15 rfl ?_
    refine m_g hx hb hts hown hK hP 32 (by decide) rfl (hts _ k_999) (v := .int (I 32)) rfl d_Mo_act_16 ?_
    refine lv_iconst (v := 1) hx hb d_Mo_act_19 (by decide) ?_
    refine lv_iadd hx hb d_Mo_act_20 ?_
    refine m_p hx hb hts hown hK hP hD hS 32 (by decide) rfl (hts _ k_999) rfl (by decide +kernel) rfl (by decide) (x := ((I 32) + 1)) d_Mo_act_21 (fun H locs hP hD hS => ?_)
    refine lv_aload_n hx hb d_Mo_act_24 rfl (lv_at hl 3 rfl) ?_
    refine m_g hx hb hts hown hK hP 1 (by decide) rfl (hts _ k_968) (v := .ref (ad 1)) rfl d_Mo_act_25 ?_
    refine lv_iload_n hx hb d_Mo_act_28 rfl (lv_at hl 1 rfl) ?_
    refine m_ld hx hb hK hP 1 rfl (by decide) (j := (Int32.ofNat pp)) (x_inN (by omega) (by decide)) d_Mo_act_29 ?_
    refine W.eq (g2 := F0 m 30 ls [.int 2]) (by rw [x_nat (a := pp) (by omega), show A 1 pp = 2 from e]) ?_
    refine lv_tableIn (tgt := 119) hx hb d_Mo_act_30 (by decide) (by decide) (off := 89) rfl (by decide) ?_
    refine lv_aload_n hx hb d_Mo_act_119 rfl (lv_at hl 3 rfl) ?_
    refine m_g hx hb hts hown hK hP 20 (by decide) rfl (hts _ k_987) (v := .ref (ad 20)) rfl d_Mo_act_120 ?_
    refine lv_iload_n hx hb d_Mo_act_123 rfl (lv_at hl 2 rfl) ?_
    refine lv_dup2_11 hx hb d_Mo_act_124 rfl rfl ?_
    refine m_ld hx hb hK hP 12 rfl (by decide) (j := (Int32.ofNat tt)) (x_inN (by omega) (by decide)) d_Mo_act_125 ?_
    refine W.eq (g2 := F0 m 126 ls [.int (Int32.ofNat pp), .int (Int32.ofNat tt), .ref (ad 20)]) (by rw [x_nat (a := tt) (by omega), show A 20 tt = (Int32.ofNat pp) from p20]) ?_
    refine lv_iconst (v := 1) hx hb d_Mo_act_126 (by decide) ?_
    refine lv_iadd hx hb d_Mo_act_127 ?_
    refine W.eq (g2 := F0 m 128 ls [.int (Int32.ofNat (pp + 1)), .int (Int32.ofNat tt), .ref (ad 20)]) (by rw [← x_addN (a := pp) (b := 1)] <;> rfl) ?_
    refine m_st hx hb hK hP hD hS 12 rfl (by decide) (j := (Int32.ofNat tt)) (x := (Int32.ofNat (pp + 1))) (x_inN (by omega) (by decide)) d_Mo_act_128 (fun H locs hP hD hS => ?_)
    rw [x_nat (a := tt) (by omega)] at hP hD
    have hP : va_P (dC, dI) x_cl (m_W h0 ad ar (upd I 32 ((I 32) + 1)) T (m_up A 20 (upd (A 20) tt (Int32.ofNat (pp + 1)))) U) H := hP
    have hD : va_D Bq (m_W h0 ad ar (upd I 32 ((I 32) + 1)) T (m_up A 20 (upd (A 20) tt (Int32.ofNat (pp + 1)))) U) := hD
    refine lv_goto (tgt := 380) hx hb d_Mo_act_129 (by decide) ?_
    refine W.widen (k := 1) (n := 4) (Nat.le_of_ble_eq_true rfl) (Nat.le_of_ble_eq_true rfl) ?_
    exact W.vret hx hb hr (fun t ht hW => ⟨⟨((upd I 32 ((I 32) + 1)), T, (m_up A 20 (upd (A 20) tt (Int32.ofNat (pp + 1)))), U), rfl, ⟨(m_fr.rf.up (by decide) _), (m_fa.rf.up (by decide) _), rfl, rfl, ⟨⟨gv, hgv, h42⟩, b9, hb9, h43⟩, fun _ => ⟨V, own, pown, bl, role, k9, q, _, br, _, h29, ((hri0.pc (t := tt) a1.1 (a1.2.trans pown9))).st02 (t := tt) hst0 hk, Or.inr ⟨tt, htt, h30, hal, if_pos rfl⟩⟩⟩, by dsimp only; rw [ht]; exact hP⟩, hS.F ht⟩) hS.2.2 d_Mo_act_380
  · refine lv_aload_n hx hb d_Mo_act_0 rfl (lv_at hl 0 rfl) ?_
    refine m_g hx hb hts hown hK hP 30 (by decide) rfl (hts _ k_997) (v := .int (Int32.ofNat tt)) (congrArg Value.int h30) d_Mo_act_1 ?_
    refine lv_istore_n (lv' := [(1, .int (Int32.ofNat tt)), (0, .ref h0)]) hx hb d_Mo_act_4 rfl hl (by decide) rfl (fun ls hl => ?_)
    refine lv_aload_n hx hb d_Mo_act_5 rfl (lv_at hl 1 rfl) ?_
    refine m_g hx hb hts hown hK hP 20 (by decide) rfl (hts _ k_987) (v := .ref (ad 20)) rfl d_Mo_act_6 ?_
    refine lv_iload_n hx hb d_Mo_act_9 rfl (lv_at hl 0 rfl) ?_
    refine m_ld hx hb hK hP 12 rfl (by decide) (j := (Int32.ofNat tt)) (x_inN (by omega) (by decide)) d_Mo_act_10 ?_
    refine W.eq (g2 := F0 m 11 ls [.int (Int32.ofNat pp)]) (by rw [x_nat (a := tt) (by omega), show A 20 tt = (Int32.ofNat pp) from p20]) ?_
    refine lv_istore_n (lv' := [(2, .int (Int32.ofNat pp)), (1, .int (Int32.ofNat tt)), (0, .ref h0)]) hx hb d_Mo_act_11 rfl hl (by decide) rfl (fun ls hl => ?_)
    refine lv_iconst (v := 0) hx hb d_Mo_act_12 (by decide) ?_
    refine lv_istore_n (lv' := [(3, .int 0), (2, .int (Int32.ofNat pp)), (1, .int (Int32.ofNat tt)), (0, .ref h0)]) hx hb d_Mo_act_13 rfl hl (by decide) rfl (fun ls hl => ?_)
    refine lv_aload_n hx hb d_Mo_act_14 rfl (lv_at hl 3 rfl) ?_
    refine lv_dup hx hb d_Mo_act_15 rfl ?_
    refine m_g hx hb hts hown hK hP 32 (by decide) rfl (hts _ k_999) (v := .int (I 32)) rfl d_Mo_act_16 ?_
    refine lv_iconst (v := 1) hx hb d_Mo_act_19 (by decide) ?_
    refine lv_iadd hx hb d_Mo_act_20 ?_
    refine m_p hx hb hts hown hK hP hD hS 32 (by decide) rfl (hts _ k_999) rfl (by decide +kernel) rfl (by decide) (x := ((I 32) + 1)) d_Mo_act_21 (fun H locs hP hD hS => ?_)
    refine lv_aload_n hx hb d_Mo_act_24 rfl (lv_at hl 3 rfl) ?_
    refine m_g hx hb hts hown hK hP 1 (by decide) rfl (hts _ k_968) (v := .ref (ad 1)) rfl d_Mo_act_25 ?_
    refine lv_iload_n hx hb d_Mo_act_28 rfl (lv_at hl 1 rfl) ?_
    refine m_ld hx hb hK hP 1 rfl (by decide) (j := (Int32.ofNat pp)) (x_inN (by omega) (by decide)) d_Mo_act_29 ?_
    refine W.eq (g2 := F0 m 30 ls [.int 3]) (by rw [x_nat (a := pp) (by omega), show A 1 pp = 3 from e]) ?_
    refine lv_tableIn (tgt := 132) hx hb d_Mo_act_30 (by decide) (by decide) (off := 102) rfl (by decide) ?_
    refine lv_aload_n hx hb d_Mo_act_132 rfl (lv_at hl 3 rfl) ?_
    refine lv_iconst (v := (-1)) hx hb d_Mo_act_133 (by decide) ?_
    refine m_p hx hb hts hown hK hP hD hS 30 (by decide) rfl (hts _ k_997) rfl (by decide +kernel) rfl (by decide) (x := (-1)) d_Mo_act_134 (fun H locs hP hD hS => ?_)
    refine lv_goto (tgt := 380) hx hb d_Mo_act_137 (by decide) ?_
    refine W.widen (k := 1) (n := 4) (Nat.le_of_ble_eq_true rfl) (Nat.le_of_ble_eq_true rfl) ?_
    exact W.vret hx hb hr (fun t ht hW => ⟨⟨((upd (upd I 32 ((I 32) + 1)) 30 (-1)), T, A, U), rfl, ⟨((m_fr.rf.up (by decide) _).up (by decide) _), m_fa.rf, rfl, rfl, ⟨⟨gv, hgv, h42⟩, b9, hb9, h43⟩, fun _ => ⟨V, own, pown, bl, role, k9, q, _, br, _, h29, hri0, Or.inl rfl⟩⟩, by dsimp only; rw [ht]; exact hP⟩, hS.F ht⟩) hS.2.2 d_Mo_act_380
  · have hq9 := hri.vlt a2.1
    obtain ⟨x9, b1, b2, b3⟩ : ∃ x9, A 1 (pp + 1) = Int32.ofNat x9 ∧ V x9 ∧ own x9 = own pp := by
      rcases a3.2 with h8 | ⟨_, h8⟩
      · exact nomatch h8
      · exact h8
    refine lv_aload_n hx hb d_Mo_act_0 rfl (lv_at hl 0 rfl) ?_
    refine m_g hx hb hts hown hK hP 30 (by decide) rfl (hts _ k_997) (v := .int (Int32.ofNat tt)) (congrArg Value.int h30) d_Mo_act_1 ?_
    refine lv_istore_n (lv' := [(1, .int (Int32.ofNat tt)), (0, .ref h0)]) hx hb d_Mo_act_4 rfl hl (by decide) rfl (fun ls hl => ?_)
    refine lv_aload_n hx hb d_Mo_act_5 rfl (lv_at hl 1 rfl) ?_
    refine m_g hx hb hts hown hK hP 20 (by decide) rfl (hts _ k_987) (v := .ref (ad 20)) rfl d_Mo_act_6 ?_
    refine lv_iload_n hx hb d_Mo_act_9 rfl (lv_at hl 0 rfl) ?_
    refine m_ld hx hb hK hP 12 rfl (by decide) (j := (Int32.ofNat tt)) (x_inN (by omega) (by decide)) d_Mo_act_10 ?_
    refine W.eq (g2 := F0 m 11 ls [.int (Int32.ofNat pp)]) (by rw [x_nat (a := tt) (by omega), show A 20 tt = (Int32.ofNat pp) from p20]) ?_
    refine lv_istore_n (lv' := [(2, .int (Int32.ofNat pp)), (1, .int (Int32.ofNat tt)), (0, .ref h0)]) hx hb d_Mo_act_11 rfl hl (by decide) rfl (fun ls hl => ?_)
    refine lv_iconst (v := 0) hx hb d_Mo_act_12 (by decide) ?_
    refine lv_istore_n (lv' := [(3, .int 0), (2, .int (Int32.ofNat pp)), (1, .int (Int32.ofNat tt)), (0, .ref h0)]) hx hb d_Mo_act_13 rfl hl (by decide) rfl (fun ls hl => ?_)
    refine lv_aload_n hx hb d_Mo_act_14 rfl (lv_at hl 3 rfl) ?_
    refine lv_dup hx hb d_Mo_act_15 rfl ?_
    refine m_g hx hb hts hown hK hP 32 (by decide) rfl (hts _ k_999) (v := .int (I 32)) rfl d_Mo_act_16 ?_
    refine lv_iconst (v := 1) hx hb d_Mo_act_19 (by decide) ?_
    refine lv_iadd hx hb d_Mo_act_20 ?_
    refine m_p hx hb hts hown hK hP hD hS 32 (by decide) rfl (hts _ k_999) rfl (by decide +kernel) rfl (by decide) (x := ((I 32) + 1)) d_Mo_act_21 (fun H locs hP hD hS => ?_)
    refine lv_aload_n hx hb d_Mo_act_24 rfl (lv_at hl 3 rfl) ?_
    refine m_g hx hb hts hown hK hP 1 (by decide) rfl (hts _ k_968) (v := .ref (ad 1)) rfl d_Mo_act_25 ?_
    refine lv_iload_n hx hb d_Mo_act_28 rfl (lv_at hl 1 rfl) ?_
    refine m_ld hx hb hK hP 1 rfl (by decide) (j := (Int32.ofNat pp)) (x_inN (by omega) (by decide)) d_Mo_act_29 ?_
    refine W.eq (g2 := F0 m 30 ls [.int 4]) (by rw [x_nat (a := pp) (by omega), show A 1 pp = 4 from e]) ?_
    refine lv_tableIn (tgt := 140) hx hb d_Mo_act_30 (by decide) (by decide) (off := 110) rfl (by decide) ?_
    refine lv_aload_n hx hb d_Mo_act_140 rfl (lv_at hl 3 rfl) ?_
    refine lv_iload_n hx hb d_Mo_act_141 rfl (lv_at hl 1 rfl) ?_
    refine lv_iconst (v := 2) hx hb d_Mo_act_142 (by decide) ?_
    refine lv_iadd hx hb d_Mo_act_143 ?_
    refine W.eq (g2 := F0 m 144 ls [.int (Int32.ofNat (pp + 2)), .ref h0]) (by rw [← x_addN (a := pp) (b := 2)] <;> rfl) ?_
    have hFc := m_free hD hS hA
    refine va_calli (va_runV (As := [.int (Int32.ofNat (pp + 2))]) (rest := []) ⟨hx, hb, hml, hown, hts⟩ (m_value l dC dI ar N0 z h0 ad (upd I 32 ((I 32) + 1)) T A U ((pp + 2)) q9 H.size (by omega) h33 a1.1 a1.2.1) (cwV 1 hts (x_goodV k_1230 k_1232 kp_72 k_9 k_1233) rfl rfl rfl (by decide +kernel) ⟨Nat.le_of_ble_eq_true rfl, Nat.le_of_ble_eq_true rfl⟩) ⟨x_blind, va_recv hK hP (ci := 6) (q0 := 0) rfl rfl, fun U9 hU9 hW9 => x_pre hU9 hW9 hP hD hU hZ hS hAN hN0⟩ rfl rfl hl.1 rfl (lv_room (Nat.le_of_ble_eq_true rfl)) d_Mo_act_144 ⟨Nat.le_of_ble_eq_true rfl, Nat.le_of_ble_eq_true rfl⟩) hS (fun q _ h => hFc q h) hFc (fun r_7 u t H1 locs ht hvm hw hB hz1 hk1 hS => ?_)
    obtain ⟨I9, T9, A9, U9⟩ := u
    dsimp only at hw hB
    rw [ht] at hB
    have hP : va_P (dC, dI) x_cl (m_W h0 ad ar I9 T9 A9 U9) H1 := hB
    have hD : va_D Bq (m_W h0 ad ar I9 T9 A9 U9) := m_D hD
    generalize H1 = H at hP hS ⊢
    refine W.widen (k := 0) (n := 0) (Nat.le_of_ble_eq_true rfl) (Nat.le_of_ble_eq_true rfl) ?_
    obtain ⟨fr10, fa10, eT, eU, hv33⟩ := hw
    cases eT
    cases eU
    rcases hv33 with hv33 | hv33
    · refine lv_istore_n (lv' := [(3, .int r_7), (2, .int (Int32.ofNat pp)), (1, .int (Int32.ofNat tt)), (0, .ref h0)]) hx hb d_Mo_act_147 rfl hl (by decide) rfl (fun ls hl => ?_)
      refine lv_aload_n hx hb d_Mo_act_148 rfl (lv_at hl 3 rfl) ?_
      refine m_g hx hb hts hown hK hP 20 (by decide) rfl (hts _ k_987) (v := .ref (ad 20)) rfl d_Mo_act_149 ?_
      refine lv_iload_n hx hb d_Mo_act_152 rfl (lv_at hl 2 rfl) ?_
      refine lv_iload_n hx hb d_Mo_act_153 rfl (lv_at hl 0 rfl) ?_
      refine lv_if_eq (tgt := 164) hx hb d_Mo_act_154 (by decide) (fun c_11 => ?_) (fun c_11 => ?_)
      · refine lv_aload_n hx hb d_Mo_act_164 rfl (lv_at hl 3 rfl) ?_
        refine m_g hx hb hts hown hK hP 1 (by decide) rfl (hts _ k_968) (v := .ref (ad 1)) rfl d_Mo_act_165 ?_
        refine lv_iload_n hx hb d_Mo_act_168 rfl (lv_at hl 1 rfl) ?_
        refine lv_iconst (v := 1) hx hb d_Mo_act_169 (by decide) ?_
        refine lv_iadd hx hb d_Mo_act_170 ?_
        refine W.eq (g2 := F0 m 171 ls [.int (Int32.ofNat (pp + 1)), .ref (ad 1), .int (Int32.ofNat tt), .ref (ad 20)]) (by rw [← x_addN (a := pp) (b := 1)] <;> rfl) ?_
        refine m_ld hx hb hK hP 1 rfl (by decide) (j := (Int32.ofNat (pp + 1))) (x_inN (by omega) (by decide)) d_Mo_act_171 ?_
        refine W.eq (g2 := F0 m 172 ls [.int (Int32.ofNat x9), .int (Int32.ofNat tt), .ref (ad 20)]) (by rw [x_nat (a := (pp + 1)) (by omega), show A9 1 ((pp + 1)) = (Int32.ofNat x9) from (by rw [fa10 1 (by decide)]; exact b1)]) ?_
        refine m_st hx hb hK hP hD hS 12 rfl (by decide) (j := (Int32.ofNat tt)) (x := (Int32.ofNat x9)) (x_inN (by omega) (by decide)) d_Mo_act_172 (fun H locs hP hD hS => ?_)
        rw [x_nat (a := tt) (by omega)] at hP hD
        have hP : va_P (dC, dI) x_cl (m_W h0 ad ar I9 T (m_up A9 20 (upd (A9 20) tt (Int32.ofNat x9))) U) H := hP
        have hD : va_D Bq (m_W h0 ad ar I9 T (m_up A9 20 (upd (A9 20) tt (Int32.ofNat x9))) U) := hD
        refine lv_goto (tgt := 380) hx hb d_Mo_act_173 (by decide) ?_
        refine W.widen (k := 1) (n := 4) (Nat.le_of_ble_eq_true rfl) (Nat.le_of_ble_eq_true rfl) ?_
        exact W.vret hx hb hr (fun t ht hW => ⟨⟨(I9, T, (m_up A9 20 (upd (A9 20) tt (Int32.ofNat x9))), U), rfl, ⟨((m_fr.rf.up (k := 32) (by decide) _).tr fr10 (by decide)), ((m_fa.rf.tr fa10 (by decide)).up (by decide) _), rfl, (fr10 32 (by decide)), ⟨⟨gv, hgv, ((fr10 42 (by decide)).trans h42)⟩, b9, hb9, ((fr10 43 (by decide)).trans h43)⟩, fun _ => ⟨V, own, pown, bl, role, k9, q, _, br, _, ((fr10 29 (by decide)).trans h29), (((hri0.fa fa10 (by decide)).pc (t := tt) b2 (b3.trans pown9))).st02 (t := tt) hst0 (by show m_kc (A9 27) (A9 21) tt 90 = 0; rw [fa10 27 (by decide), fa10 21 (by decide)]; exact hk), Or.inr ⟨tt, htt, ((fr10 30 (by decide)).trans h30), (by show ¬ A9 27 tt = 0; rw [fa10 27 (by decide)]; exact hal), if_pos rfl⟩⟩⟩, by dsimp only; rw [ht]; exact hP⟩, hS.F ht⟩) hS.2.2 d_Mo_act_380
      · refine lv_aload_n hx hb d_Mo_act_157 rfl (lv_at hl 3 rfl) ?_
        refine m_g hx hb hts hown hK hP 44 (by decide) rfl (hts _ k_1011) (v := .int (Int32.ofNat (q9 + 1))) (congrArg Value.int hv33.2) d_Mo_act_158 ?_
        refine lv_goto (tgt := 172) hx hb d_Mo_act_161 (by decide) ?_
        refine m_st hx hb hK hP hD hS 12 rfl (by decide) (j := (Int32.ofNat tt)) (x := (Int32.ofNat (q9 + 1))) (x_inN (by omega) (by decide)) d_Mo_act_172 (fun H locs hP hD hS => ?_)
        rw [x_nat (a := tt) (by omega)] at hP hD
        have hP : va_P (dC, dI) x_cl (m_W h0 ad ar I9 T (m_up A9 20 (upd (A9 20) tt (Int32.ofNat (q9 + 1)))) U) H := hP
        have hD : va_D Bq (m_W h0 ad ar I9 T (m_up A9 20 (upd (A9 20) tt (Int32.ofNat (q9 + 1)))) U) := hD
        refine lv_goto (tgt := 380) hx hb d_Mo_act_173 (by decide) ?_
        refine W.widen (k := 1) (n := 4) (Nat.le_of_ble_eq_true rfl) (Nat.le_of_ble_eq_true rfl) ?_
        exact W.vret hx hb hr (fun t ht hW => ⟨⟨(I9, T, (m_up A9 20 (upd (A9 20) tt (Int32.ofNat (q9 + 1)))), U), rfl, ⟨((m_fr.rf.up (k := 32) (by decide) _).tr fr10 (by decide)), ((m_fa.rf.tr fa10 (by decide)).up (by decide) _), rfl, (fr10 32 (by decide)), ⟨⟨gv, hgv, ((fr10 42 (by decide)).trans h42)⟩, b9, hb9, ((fr10 43 (by decide)).trans h43)⟩, fun _ => ⟨V, own, pown, bl, role, k9, q, _, br, _, ((fr10 29 (by decide)).trans h29), (((hri0.fa fa10 (by decide)).pc (t := tt) a2.1 (a2.2.trans pown9))).st02 (t := tt) hst0 (by show m_kc (A9 27) (A9 21) tt 90 = 0; rw [fa10 27 (by decide), fa10 21 (by decide)]; exact hk), Or.inr ⟨tt, htt, ((fr10 30 (by decide)).trans h30), (by show ¬ A9 27 tt = 0; rw [fa10 27 (by decide)]; exact hal), if_pos rfl⟩⟩⟩, by dsimp only; rw [ht]; exact hP⟩, hS.F ht⟩) hS.2.2 d_Mo_act_380
    · refine lv_istore_n (lv' := [(3, .int r_7), (2, .int (Int32.ofNat pp)), (1, .int (Int32.ofNat tt)), (0, .ref h0)]) hx hb d_Mo_act_147 rfl hl (by decide) rfl (fun ls hl => ?_)
      refine lv_aload_n hx hb d_Mo_act_148 rfl (lv_at hl 3 rfl) ?_
      refine m_g hx hb hts hown hK hP 20 (by decide) rfl (hts _ k_987) (v := .ref (ad 20)) rfl d_Mo_act_149 ?_
      refine lv_iload_n hx hb d_Mo_act_152 rfl (lv_at hl 2 rfl) ?_
      refine lv_iload_n hx hb d_Mo_act_153 rfl (lv_at hl 0 rfl) ?_
      refine lv_if_eq (tgt := 164) hx hb d_Mo_act_154 (by decide) (fun c_12 => ?_) (fun c_12 => ?_)
      · refine lv_aload_n hx hb d_Mo_act_164 rfl (lv_at hl 3 rfl) ?_
        refine m_g hx hb hts hown hK hP 1 (by decide) rfl (hts _ k_968) (v := .ref (ad 1)) rfl d_Mo_act_165 ?_
        refine lv_iload_n hx hb d_Mo_act_168 rfl (lv_at hl 1 rfl) ?_
        refine lv_iconst (v := 1) hx hb d_Mo_act_169 (by decide) ?_
        refine lv_iadd hx hb d_Mo_act_170 ?_
        refine W.eq (g2 := F0 m 171 ls [.int (Int32.ofNat (pp + 1)), .ref (ad 1), .int (Int32.ofNat tt), .ref (ad 20)]) (by rw [← x_addN (a := pp) (b := 1)] <;> rfl) ?_
        refine m_ld hx hb hK hP 1 rfl (by decide) (j := (Int32.ofNat (pp + 1))) (x_inN (by omega) (by decide)) d_Mo_act_171 ?_
        refine W.eq (g2 := F0 m 172 ls [.int (Int32.ofNat x9), .int (Int32.ofNat tt), .ref (ad 20)]) (by rw [x_nat (a := (pp + 1)) (by omega), show A9 1 ((pp + 1)) = (Int32.ofNat x9) from (by rw [fa10 1 (by decide)]; exact b1)]) ?_
        refine m_st hx hb hK hP hD hS 12 rfl (by decide) (j := (Int32.ofNat tt)) (x := (Int32.ofNat x9)) (x_inN (by omega) (by decide)) d_Mo_act_172 (fun H locs hP hD hS => ?_)
        rw [x_nat (a := tt) (by omega)] at hP hD
        have hP : va_P (dC, dI) x_cl (m_W h0 ad ar I9 T (m_up A9 20 (upd (A9 20) tt (Int32.ofNat x9))) U) H := hP
        have hD : va_D Bq (m_W h0 ad ar I9 T (m_up A9 20 (upd (A9 20) tt (Int32.ofNat x9))) U) := hD
        refine lv_goto (tgt := 380) hx hb d_Mo_act_173 (by decide) ?_
        refine W.widen (k := 1) (n := 4) (Nat.le_of_ble_eq_true rfl) (Nat.le_of_ble_eq_true rfl) ?_
        exact W.vret hx hb hr (fun t ht hW => ⟨⟨(I9, T, (m_up A9 20 (upd (A9 20) tt (Int32.ofNat x9))), U), rfl, ⟨((m_fr.rf.up (k := 32) (by decide) _).tr fr10 (by decide)), ((m_fa.rf.tr fa10 (by decide)).up (by decide) _), rfl, (fr10 32 (by decide)), ⟨⟨gv, hgv, ((fr10 42 (by decide)).trans h42)⟩, b9, hb9, ((fr10 43 (by decide)).trans h43)⟩, fun h9 => absurd (h9.symm.trans hv33) (by decide)⟩, by dsimp only; rw [ht]; exact hP⟩, hS.F ht⟩) hS.2.2 d_Mo_act_380
      · refine lv_aload_n hx hb d_Mo_act_157 rfl (lv_at hl 3 rfl) ?_
        refine m_g hx hb hts hown hK hP 44 (by decide) rfl (hts _ k_1011) (v := .int (I9 44)) rfl d_Mo_act_158 ?_
        refine lv_goto (tgt := 172) hx hb d_Mo_act_161 (by decide) ?_
        refine m_st hx hb hK hP hD hS 12 rfl (by decide) (j := (Int32.ofNat tt)) (x := (I9 44)) (x_inN (by omega) (by decide)) d_Mo_act_172 (fun H locs hP hD hS => ?_)
        rw [x_nat (a := tt) (by omega)] at hP hD
        have hP : va_P (dC, dI) x_cl (m_W h0 ad ar I9 T (m_up A9 20 (upd (A9 20) tt (I9 44))) U) H := hP
        have hD : va_D Bq (m_W h0 ad ar I9 T (m_up A9 20 (upd (A9 20) tt (I9 44))) U) := hD
        refine lv_goto (tgt := 380) hx hb d_Mo_act_173 (by decide) ?_
        refine W.widen (k := 1) (n := 4) (Nat.le_of_ble_eq_true rfl) (Nat.le_of_ble_eq_true rfl) ?_
        exact W.vret hx hb hr (fun t ht hW => ⟨⟨(I9, T, (m_up A9 20 (upd (A9 20) tt (I9 44))), U), rfl, ⟨((m_fr.rf.up (k := 32) (by decide) _).tr fr10 (by decide)), ((m_fa.rf.tr fa10 (by decide)).up (by decide) _), rfl, (fr10 32 (by decide)), ⟨⟨gv, hgv, ((fr10 42 (by decide)).trans h42)⟩, b9, hb9, ((fr10 43 (by decide)).trans h43)⟩, fun h9 => absurd (h9.symm.trans hv33) (by decide)⟩, by dsimp only; rw [ht]; exact hP⟩, hS.F ht⟩) hS.2.2 d_Mo_act_380
  · obtain ⟨x9, b1, b2, b3⟩ : ∃ x9, A 1 (pp + 6) = Int32.ofNat x9 ∧ V x9 ∧ own x9 = own pp := by
      rcases a1.2 with h8 | ⟨_, h8⟩
      · exact nomatch h8
      · exact h8
    obtain ⟨ys, hys, hdis⟩ := m_ys a4
    refine lv_aload_n hx hb d_Mo_act_0 rfl (lv_at hl 0 rfl) ?_
    refine m_g hx hb hts hown hK hP 30 (by decide) rfl (hts _ k_997) (v := .int (Int32.ofNat tt)) (congrArg Value.int h30) d_Mo_act_1 ?_
    refine lv_istore_n (lv' := [(1, .int (Int32.ofNat tt)), (0, .ref h0)]) hx hb d_Mo_act_4 rfl hl (by decide) rfl (fun ls hl => ?_)
    refine lv_aload_n hx hb d_Mo_act_5 rfl (lv_at hl 1 rfl) ?_
    refine m_g hx hb hts hown hK hP 20 (by decide) rfl (hts _ k_987) (v := .ref (ad 20)) rfl d_Mo_act_6 ?_
    refine lv_iload_n hx hb d_Mo_act_9 rfl (lv_at hl 0 rfl) ?_
    refine m_ld hx hb hK hP 12 rfl (by decide) (j := (Int32.ofNat tt)) (x_inN (by omega) (by decide)) d_Mo_act_10 ?_
    refine W.eq (g2 := F0 m 11 ls [.int (Int32.ofNat pp)]) (by rw [x_nat (a := tt) (by omega), show A 20 tt = (Int32.ofNat pp) from p20]) ?_
    refine lv_istore_n (lv' := [(2, .int (Int32.ofNat pp)), (1, .int (Int32.ofNat tt)), (0, .ref h0)]) hx hb d_Mo_act_11 rfl hl (by decide) rfl (fun ls hl => ?_)
    refine lv_iconst (v := 0) hx hb d_Mo_act_12 (by decide) ?_
    refine lv_istore_n (lv' := [(3, .int 0), (2, .int (Int32.ofNat pp)), (1, .int (Int32.ofNat tt)), (0, .ref h0)]) hx hb d_Mo_act_13 rfl hl (by decide) rfl (fun ls hl => ?_)
    refine lv_aload_n hx hb d_Mo_act_14 rfl (lv_at hl 3 rfl) ?_
    refine lv_dup hx hb d_Mo_act_15 rfl ?_
    refine m_g hx hb hts hown hK hP 32 (by decide) rfl (hts _ k_999) (v := .int (I 32)) rfl d_Mo_act_16 ?_
    refine lv_iconst (v := 1) hx hb d_Mo_act_19 (by decide) ?_
    refine lv_iadd hx hb d_Mo_act_20 ?_
    refine m_p hx hb hts hown hK hP hD hS 32 (by decide) rfl (hts _ k_999) rfl (by decide +kernel) rfl (by decide) (x := ((I 32) + 1)) d_Mo_act_21 (fun H locs hP hD hS => ?_)
    refine lv_aload_n hx hb d_Mo_act_24 rfl (lv_at hl 3 rfl) ?_
    refine m_g hx hb hts hown hK hP 1 (by decide) rfl (hts _ k_968) (v := .ref (ad 1)) rfl d_Mo_act_25 ?_
    refine lv_iload_n hx hb d_Mo_act_28 rfl (lv_at hl 1 rfl) ?_
    refine m_ld hx hb hK hP 1 rfl (by decide) (j := (Int32.ofNat pp)) (x_inN (by omega) (by decide)) d_Mo_act_29 ?_
    refine W.eq (g2 := F0 m 30 ls [.int 5]) (by rw [x_nat (a := pp) (by omega), show A 1 pp = 5 from e]) ?_
    refine lv_tableIn (tgt := 176) hx hb d_Mo_act_30 (by decide) (by decide) (off := 146) rfl (by decide) ?_
    refine lv_aload_n hx hb d_Mo_act_176 rfl (lv_at hl 3 rfl) ?_
    refine lv_iload_n hx hb d_Mo_act_177 rfl (lv_at hl 2 rfl) ?_
    refine lv_iload_n hx hb d_Mo_act_178 rfl (lv_at hl 1 rfl) ?_
    have hFc := m_free hD hS hA
    refine va_callv (va_runV (As := [.int (Int32.ofNat tt), .int (Int32.ofNat pp)]) (rest := []) ⟨hx, hb, hml, hown, hts⟩ (m_parallel l dC dI ar N0 z h0 ad (upd I 32 ((I 32) + 1)) T A U V own pown bl role k9 q pn br st0 tt pp n9 x9 ys H.size h29 h30 hri0 htt hal hst0 hk p1001 a2.2 a3 (fun k hk9 => ⟨(hys k hk9).1, (hys k hk9).2.1, (hys k hk9).2.2.1, (hys k hk9).2.2.2.1.trans pown9, (hys k hk9).2.2.2.2.1, (hys k hk9).2.2.2.2.2.1, hri.vlt (hys k hk9).2.1⟩) hdis b1 b2 (b3.trans pown9)) (cwV 2 hts (x_goodV k_1238 k_1240 kp_74 k_9 k_1241) rfl rfl rfl (by decide +kernel) ⟨Nat.le_of_ble_eq_true rfl, Nat.le_of_ble_eq_true rfl⟩) ⟨x_blind, va_recv hK hP (ci := 6) (q0 := 0) rfl rfl, fun U9 hU9 hW9 => x_pre hU9 hW9 hP hD hU hZ hS hAN hN0⟩ rfl rfl hl.1 rfl (lv_room (Nat.le_of_ble_eq_true rfl)) d_Mo_act_179 ⟨Nat.le_of_ble_eq_true rfl, Nat.le_of_ble_eq_true rfl⟩) hS (fun q _ h => hFc q h) hFc (fun u t H1 locs ht hvm hw hB hz1 hk1 hS => ?_)
    obtain ⟨I14, T14, A14, U14⟩ := u
    dsimp only at hw hB
    rw [ht] at hB
    have hP : va_P (dC, dI) x_cl (m_W h0 ad ar I14 T14 A14 U14) H1 := hB
    have hD : va_D Bq (m_W h0 ad ar I14 T14 A14 U14) := m_D hD
    generalize H1 = H at hP hS ⊢
    refine W.widen (k := 0) (n := 0) (Nat.le_of_ble_eq_true rfl) (Nat.le_of_ble_eq_true rfl) ?_
    obtain ⟨fr15, fa15, eT, eU, hrun15⟩ := hw
    cases eT
    cases eU
    refine lv_goto (tgt := 380) hx hb d_Mo_act_182 (by decide) ?_
    refine W.widen (k := 1) (n := 4) (Nat.le_of_ble_eq_true rfl) (Nat.le_of_ble_eq_true rfl) ?_
    exact W.vret hx hb hr (fun t ht hW => ⟨⟨(I14, T, A14, U), rfl, ⟨((m_fr.rf.up (k := 32) (by decide) _).tr fr15 (by decide)), (m_fa.rf.tr fa15 (by decide)), rfl, ((fr15 32 (by decide)).trans rfl), ⟨⟨gv, hgv, (fr15 42 (by decide)).trans h42⟩, ⟨b9, hb9, (fr15 43 (by decide)).trans h43⟩⟩, fun _ => hrun15⟩, by dsimp only; rw [ht]; exact hP⟩, hS.F ht⟩) hS.2.2 d_Mo_act_380
  · have hq9 := hri.vlt a4.1
    refine lv_aload_n hx hb d_Mo_act_0 rfl (lv_at hl 0 rfl) ?_
    refine m_g hx hb hts hown hK hP 30 (by decide) rfl (hts _ k_997) (v := .int (Int32.ofNat tt)) (congrArg Value.int h30) d_Mo_act_1 ?_
    refine lv_istore_n (lv' := [(1, .int (Int32.ofNat tt)), (0, .ref h0)]) hx hb d_Mo_act_4 rfl hl (by decide) rfl (fun ls hl => ?_)
    refine lv_aload_n hx hb d_Mo_act_5 rfl (lv_at hl 1 rfl) ?_
    refine m_g hx hb hts hown hK hP 20 (by decide) rfl (hts _ k_987) (v := .ref (ad 20)) rfl d_Mo_act_6 ?_
    refine lv_iload_n hx hb d_Mo_act_9 rfl (lv_at hl 0 rfl) ?_
    refine m_ld hx hb hK hP 12 rfl (by decide) (j := (Int32.ofNat tt)) (x_inN (by omega) (by decide)) d_Mo_act_10 ?_
    refine W.eq (g2 := F0 m 11 ls [.int (Int32.ofNat pp)]) (by rw [x_nat (a := tt) (by omega), show A 20 tt = (Int32.ofNat pp) from p20]) ?_
    refine lv_istore_n (lv' := [(2, .int (Int32.ofNat pp)), (1, .int (Int32.ofNat tt)), (0, .ref h0)]) hx hb d_Mo_act_11 rfl hl (by decide) rfl (fun ls hl => ?_)
    refine lv_iconst (v := 0) hx hb d_Mo_act_12 (by decide) ?_
    refine lv_istore_n (lv' := [(3, .int 0), (2, .int (Int32.ofNat pp)), (1, .int (Int32.ofNat tt)), (0, .ref h0)]) hx hb d_Mo_act_13 rfl hl (by decide) rfl (fun ls hl => ?_)
    refine lv_aload_n hx hb d_Mo_act_14 rfl (lv_at hl 3 rfl) ?_
    refine lv_dup hx hb d_Mo_act_15 rfl ?_
    refine m_g hx hb hts hown hK hP 32 (by decide) rfl (hts _ k_999) (v := .int (I 32)) rfl d_Mo_act_16 ?_
    refine lv_iconst (v := 1) hx hb d_Mo_act_19 (by decide) ?_
    refine lv_iadd hx hb d_Mo_act_20 ?_
    refine m_p hx hb hts hown hK hP hD hS 32 (by decide) rfl (hts _ k_999) rfl (by decide +kernel) rfl (by decide) (x := ((I 32) + 1)) d_Mo_act_21 (fun H locs hP hD hS => ?_)
    refine lv_aload_n hx hb d_Mo_act_24 rfl (lv_at hl 3 rfl) ?_
    refine m_g hx hb hts hown hK hP 1 (by decide) rfl (hts _ k_968) (v := .ref (ad 1)) rfl d_Mo_act_25 ?_
    refine lv_iload_n hx hb d_Mo_act_28 rfl (lv_at hl 1 rfl) ?_
    refine m_ld hx hb hK hP 1 rfl (by decide) (j := (Int32.ofNat pp)) (x_inN (by omega) (by decide)) d_Mo_act_29 ?_
    refine W.eq (g2 := F0 m 30 ls [.int 6]) (by rw [x_nat (a := pp) (by omega), show A 1 pp = 6 from e]) ?_
    refine lv_tableIn (tgt := 185) hx hb d_Mo_act_30 (by decide) (by decide) (off := 155) rfl (by decide) ?_
    refine lv_aload_n hx hb d_Mo_act_185 rfl (lv_at hl 3 rfl) ?_
    refine lv_iload_n hx hb d_Mo_act_186 rfl (lv_at hl 1 rfl) ?_
    refine lv_iconst (v := 2) hx hb d_Mo_act_187 (by decide) ?_
    refine lv_iadd hx hb d_Mo_act_188 ?_
    refine W.eq (g2 := F0 m 189 ls [.int (Int32.ofNat (pp + 2)), .ref h0]) (by rw [← x_addN (a := pp) (b := 2)] <;> rfl) ?_
    have hFc := m_free hD hS hA
    refine va_calli (va_runV (As := [.int (Int32.ofNat (pp + 2))]) (rest := []) ⟨hx, hb, hml, hown, hts⟩ (m_value l dC dI ar N0 z h0 ad (upd I 32 ((I 32) + 1)) T A U ((pp + 2)) q9 H.size (by omega) h33 a3.1 a3.2.1) (cwV 1 hts (x_goodV k_1230 k_1232 kp_72 k_9 k_1233) rfl rfl rfl (by decide +kernel) ⟨Nat.le_of_ble_eq_true rfl, Nat.le_of_ble_eq_true rfl⟩) ⟨x_blind, va_recv hK hP (ci := 6) (q0 := 0) rfl rfl, fun U9 hU9 hW9 => x_pre hU9 hW9 hP hD hU hZ hS hAN hN0⟩ rfl rfl hl.1 rfl (lv_room (Nat.le_of_ble_eq_true rfl)) d_Mo_act_189 ⟨Nat.le_of_ble_eq_true rfl, Nat.le_of_ble_eq_true rfl⟩) hS (fun q _ h => hFc q h) hFc (fun r_16 u t H1 locs ht hvm hw hB hz1 hk1 hS => ?_)
    obtain ⟨I18, T18, A18, U18⟩ := u
    dsimp only at hw hB
    rw [ht] at hB
    have hP : va_P (dC, dI) x_cl (m_W h0 ad ar I18 T18 A18 U18) H1 := hB
    have hD : va_D Bq (m_W h0 ad ar I18 T18 A18 U18) := m_D hD
    generalize H1 = H at hP hS ⊢
    refine W.widen (k := 0) (n := 0) (Nat.le_of_ble_eq_true rfl) (Nat.le_of_ble_eq_true rfl) ?_
    obtain ⟨fr19, fa19, eT, eU, hv33⟩ := hw
    cases eT
    cases eU
    rcases hv33 with hv33 | hv33
    · refine lv_istore_n (lv' := [(3, .int r_16), (2, .int (Int32.ofNat pp)), (1, .int (Int32.ofNat tt)), (0, .ref h0)]) hx hb d_Mo_act_192 rfl hl (by decide) rfl (fun ls hl => ?_)
      refine lv_aload_n hx hb d_Mo_act_193 rfl (lv_at hl 3 rfl) ?_
      refine m_g hx hb hts hown hK hP 33 (by decide) rfl (hts _ k_1000) (v := .int 0) (congrArg Value.int hv33.1) d_Mo_act_194 ?_
      refine lv_if_ne (tgt := 380) hx hb d_Mo_act_197 (by decide) (fun c_20 => absurd rfl c_20) (fun _ => ?_)
      refine lv_aload_n hx hb d_Mo_act_200 rfl (lv_at hl 3 rfl) ?_
      refine lv_iload_n hx hb d_Mo_act_201 rfl (lv_at hl 2 rfl) ?_
      refine lv_aload_n hx hb d_Mo_act_202 rfl (lv_at hl 3 rfl) ?_
      refine m_g hx hb hts hown hK hP 1 (by decide) rfl (hts _ k_968) (v := .ref (ad 1)) rfl d_Mo_act_203 ?_
      refine lv_iload_n hx hb d_Mo_act_206 rfl (lv_at hl 1 rfl) ?_
      refine lv_iconst (v := 1) hx hb d_Mo_act_207 (by decide) ?_
      refine lv_iadd hx hb d_Mo_act_208 ?_
      refine W.eq (g2 := F0 m 209 ls [.int (Int32.ofNat (pp + 1)), .ref (ad 1), .int (Int32.ofNat tt), .ref h0]) (by rw [← x_addN (a := pp) (b := 1)] <;> rfl) ?_
      refine m_ld hx hb hK hP 1 rfl (by decide) (j := (Int32.ofNat (pp + 1))) (x_inN (by omega) (by decide)) d_Mo_act_209 ?_
      refine W.eq (g2 := F0 m 210 ls [.int (Int32.ofNat c9), .int (Int32.ofNat tt), .ref h0]) (by rw [x_nat (a := (pp + 1)) (by omega), show A18 1 ((pp + 1)) = (Int32.ofNat c9) from (by rw [fa19 1 (by decide)]; exact a1.2)]) ?_
      refine lv_iload_n hx hb d_Mo_act_210 rfl (lv_at hl 0 rfl) ?_
      have hFc := m_free hD hS hA
      refine va_callv (va_runV (As := [.int (Int32.ofNat tt), .int (Int32.ofNat c9), .int r_16]) (rest := []) ⟨hx, hb, hml, hown, hts⟩ (m_output l dC dI ar N0 z h0 ad I18 T A18 U V own pown bl role k9 q pn br st0 tt c9 b9 (q9 + 1) r_16 H.size ((fr19 29 (by decide)).trans h29) ((fr19 30 (by decide)).trans h30) (hri0.fa fa19 (by decide)) htt (by unfold m_al; rw [fa19 27 (by decide)]; exact hal) hst0 (by rw [fa19 27 (by decide), fa19 21 (by decide)]; exact hk) hv33.1 ((fr19 43 (by decide)).trans h43) hb9 hv33.2 a4.1 (a4.2.trans pown9) a2) (cwV 3 hts (x_goodV k_1242 k_1244 kp_75 k_9 k_1245) rfl rfl rfl (by decide +kernel) ⟨Nat.le_of_ble_eq_true rfl, Nat.le_of_ble_eq_true rfl⟩) ⟨x_blind, va_recv hK hP (ci := 6) (q0 := 0) rfl rfl, fun U9 hU9 hW9 => x_pre hU9 hW9 hP hD hU hZ hS hAN hN0⟩ rfl rfl hl.1 rfl (lv_room (Nat.le_of_ble_eq_true rfl)) d_Mo_act_211 ⟨Nat.le_of_ble_eq_true rfl, Nat.le_of_ble_eq_true rfl⟩) hS (fun q _ h => hFc q h) hFc (fun u t H1 locs ht hvm hw hB hz1 hk1 hS => ?_)
      obtain ⟨I22, T22, A22, U22⟩ := u
      dsimp only at hw hB
      rw [ht] at hB
      have hP : va_P (dC, dI) x_cl (m_W h0 ad ar I22 T22 A22 U22) H1 := hB
      have hD : va_D Bq (m_W h0 ad ar I22 T22 A22 U22) := m_D hD
      generalize H1 = H at hP hS ⊢
      refine W.widen (k := 0) (n := 0) (Nat.le_of_ble_eq_true rfl) (Nat.le_of_ble_eq_true rfl) ?_
      obtain ⟨fr23, fa23, eT, eU, hbx23, hrun23⟩ := hw
      cases eT
      cases eU
      refine lv_goto (tgt := 380) hx hb d_Mo_act_214 (by decide) ?_
      refine W.widen (k := 1) (n := 4) (Nat.le_of_ble_eq_true rfl) (Nat.le_of_ble_eq_true rfl) ?_
      exact W.vret hx hb hr (fun t ht hW => ⟨⟨(I22, T, A22, U), rfl, ⟨(((m_fr.rf.up (k := 32) (by decide) _).tr fr19 (by decide)).tr fr23 (by decide)), ((m_fa.rf.tr fa19 (by decide)).tr fa23 (by decide)), rfl, ((fr23 32 (by decide)).trans (fr19 32 (by decide))), ⟨⟨gv, hgv, (fr23 42 (by decide)).trans ((fr19 42 (by decide)).trans h42)⟩, hbx23⟩, hrun23⟩, by dsimp only; rw [ht]; exact hP⟩, hS.F ht⟩) hS.2.2 d_Mo_act_380
    · refine lv_istore_n (lv' := [(3, .int r_16), (2, .int (Int32.ofNat pp)), (1, .int (Int32.ofNat tt)), (0, .ref h0)]) hx hb d_Mo_act_192 rfl hl (by decide) rfl (fun ls hl => ?_)
      refine lv_aload_n hx hb d_Mo_act_193 rfl (lv_at hl 3 rfl) ?_
      refine m_g hx hb hts hown hK hP 33 (by decide) rfl (hts _ k_1000) (v := .int 3) (congrArg Value.int hv33) d_Mo_act_194 ?_
      refine lv_if_ne (tgt := 380) hx hb d_Mo_act_197 (by decide) (fun _ => ?_) (fun c_24 => absurd c_24 (by decide))
      refine W.widen (k := 1) (n := 4) (Nat.le_of_ble_eq_true rfl) (Nat.le_of_ble_eq_true rfl) ?_
      exact W.vret hx hb hr (fun t ht hW => ⟨⟨(I18, T, A18, U), rfl, ⟨((m_fr.rf.up (k := 32) (by decide) _).tr fr19 (by decide)), (m_fa.rf.tr fa19 (by decide)), rfl, (fr19 32 (by decide)), ⟨⟨gv, hgv, ((fr19 42 (by decide)).trans h42)⟩, b9, hb9, ((fr19 43 (by decide)).trans h43)⟩, fun h9 => absurd (h9.symm.trans hv33) (by decide)⟩, by dsimp only; rw [ht]; exact hP⟩, hS.F ht⟩) hS.2.2 d_Mo_act_380
  · refine lv_aload_n hx hb d_Mo_act_0 rfl (lv_at hl 0 rfl) ?_
    refine m_g hx hb hts hown hK hP 30 (by decide) rfl (hts _ k_997) (v := .int (Int32.ofNat tt)) (congrArg Value.int h30) d_Mo_act_1 ?_
    refine lv_istore_n (lv' := [(1, .int (Int32.ofNat tt)), (0, .ref h0)]) hx hb d_Mo_act_4 rfl hl (by decide) rfl (fun ls hl => ?_)
    refine lv_aload_n hx hb d_Mo_act_5 rfl (lv_at hl 1 rfl) ?_
    refine m_g hx hb hts hown hK hP 20 (by decide) rfl (hts _ k_987) (v := .ref (ad 20)) rfl d_Mo_act_6 ?_
    refine lv_iload_n hx hb d_Mo_act_9 rfl (lv_at hl 0 rfl) ?_
    refine m_ld hx hb hK hP 12 rfl (by decide) (j := (Int32.ofNat tt)) (x_inN (by omega) (by decide)) d_Mo_act_10 ?_
    refine W.eq (g2 := F0 m 11 ls [.int (Int32.ofNat pp)]) (by rw [x_nat (a := tt) (by omega), show A 20 tt = (Int32.ofNat pp) from p20]) ?_
    refine lv_istore_n (lv' := [(2, .int (Int32.ofNat pp)), (1, .int (Int32.ofNat tt)), (0, .ref h0)]) hx hb d_Mo_act_11 rfl hl (by decide) rfl (fun ls hl => ?_)
    refine lv_iconst (v := 0) hx hb d_Mo_act_12 (by decide) ?_
    refine lv_istore_n (lv' := [(3, .int 0), (2, .int (Int32.ofNat pp)), (1, .int (Int32.ofNat tt)), (0, .ref h0)]) hx hb d_Mo_act_13 rfl hl (by decide) rfl (fun ls hl => ?_)
    refine lv_aload_n hx hb d_Mo_act_14 rfl (lv_at hl 3 rfl) ?_
    refine lv_dup hx hb d_Mo_act_15 rfl ?_
    refine m_g hx hb hts hown hK hP 32 (by decide) rfl (hts _ k_999) (v := .int (I 32)) rfl d_Mo_act_16 ?_
    refine lv_iconst (v := 1) hx hb d_Mo_act_19 (by decide) ?_
    refine lv_iadd hx hb d_Mo_act_20 ?_
    refine m_p hx hb hts hown hK hP hD hS 32 (by decide) rfl (hts _ k_999) rfl (by decide +kernel) rfl (by decide) (x := ((I 32) + 1)) d_Mo_act_21 (fun H locs hP hD hS => ?_)
    refine lv_aload_n hx hb d_Mo_act_24 rfl (lv_at hl 3 rfl) ?_
    refine m_g hx hb hts hown hK hP 1 (by decide) rfl (hts _ k_968) (v := .ref (ad 1)) rfl d_Mo_act_25 ?_
    refine lv_iload_n hx hb d_Mo_act_28 rfl (lv_at hl 1 rfl) ?_
    refine m_ld hx hb hK hP 1 rfl (by decide) (j := (Int32.ofNat pp)) (x_inN (by omega) (by decide)) d_Mo_act_29 ?_
    refine W.eq (g2 := F0 m 30 ls [.int 7]) (by rw [x_nat (a := pp) (by omega), show A 1 pp = 7 from e]) ?_
    refine lv_tableIn (tgt := 217) hx hb d_Mo_act_30 (by decide) (by decide) (off := 187) rfl (by decide) ?_
    refine lv_aload_n hx hb d_Mo_act_217 rfl (lv_at hl 3 rfl) ?_
    refine m_g hx hb hts hown hK hP 20 (by decide) rfl (hts _ k_987) (v := .ref (ad 20)) rfl d_Mo_act_218 ?_
    refine lv_iload_n hx hb d_Mo_act_221 rfl (lv_at hl 2 rfl) ?_
    refine lv_iload_n hx hb d_Mo_act_222 rfl (lv_at hl 1 rfl) ?_
    refine lv_iconst (v := 3) hx hb d_Mo_act_223 (by decide) ?_
    refine lv_iadd hx hb d_Mo_act_224 ?_
    refine W.eq (g2 := F0 m 225 ls [.int (Int32.ofNat (pp + 3)), .int (Int32.ofNat tt), .ref (ad 20)]) (by rw [← x_addN (a := pp) (b := 3)] <;> rfl) ?_
    refine m_st hx hb hK hP hD hS 12 rfl (by decide) (j := (Int32.ofNat tt)) (x := (Int32.ofNat (pp + 3))) (x_inN (by omega) (by decide)) d_Mo_act_225 (fun H locs hP hD hS => ?_)
    rw [x_nat (a := tt) (by omega)] at hP hD
    have hP : va_P (dC, dI) x_cl (m_W h0 ad ar (upd I 32 ((I 32) + 1)) T (m_up A 20 (upd (A 20) tt (Int32.ofNat (pp + 3)))) U) H := hP
    have hD : va_D Bq (m_W h0 ad ar (upd I 32 ((I 32) + 1)) T (m_up A 20 (upd (A 20) tt (Int32.ofNat (pp + 3)))) U) := hD
    have hri1 := hri0.pc (t := tt) a5.1 (a5.2.trans pown9)
    refine lv_aload_n hx hb d_Mo_act_226 rfl (lv_at hl 3 rfl) ?_
    refine lv_aload_n hx hb d_Mo_act_227 rfl (lv_at hl 3 rfl) ?_
    refine m_g hx hb hts hown hK hP 1 (by decide) rfl (hts _ k_968) (v := .ref (ad 1)) rfl d_Mo_act_228 ?_
    refine lv_iload_n hx hb d_Mo_act_231 rfl (lv_at hl 1 rfl) ?_
    refine lv_iconst (v := 1) hx hb d_Mo_act_232 (by decide) ?_
    refine lv_iadd hx hb d_Mo_act_233 ?_
    refine W.eq (g2 := F0 m 234 ls [.int (Int32.ofNat (pp + 1)), .ref (ad 1), .ref h0]) (by rw [← x_addN (a := pp) (b := 1)] <;> rfl) ?_
    refine m_ld hx hb hK hP 1 rfl (by decide) (j := (Int32.ofNat (pp + 1))) (x_inN (by omega) (by decide)) d_Mo_act_234 ?_
    refine W.eq (g2 := F0 m 235 ls [.int (Int32.ofNat c9), .ref h0]) (by rw [x_nat (a := (pp + 1)) (by omega), show (m_up A 20 (upd (A 20) tt (Int32.ofNat (pp + 3)))) 1 ((pp + 1)) = (Int32.ofNat c9) from a1.2]) ?_
    have hFc := m_free hD hS hA
    refine va_calli (va_runV (As := [.int (Int32.ofNat c9)]) (rest := []) ⟨hx, hb, hml, hown, hts⟩ (m_ready l dC dI ar N0 z h0 ad (upd I 32 ((I 32) + 1)) T (m_up A 20 (upd (A 20) tt (Int32.ofNat (pp + 3)))) U gv ((Int32.ofNat c9)) H.size h42 hgv (Or.inr ⟨c9, by omega, rfl⟩)) (cwV 1 hts (x_goodV k_1250 k_1252 kp_77 k_9 k_1253) rfl rfl rfl (by decide +kernel) ⟨Nat.le_of_ble_eq_true rfl, Nat.le_of_ble_eq_true rfl⟩) ⟨x_blind, va_recv hK hP (ci := 6) (q0 := 0) rfl rfl, fun U9 hU9 hW9 => x_pre hU9 hW9 hP hD hU hZ hS hAN hN0⟩ rfl rfl hl.1 rfl (lv_room (Nat.le_of_ble_eq_true rfl)) d_Mo_act_235 ⟨Nat.le_of_ble_eq_true rfl, Nat.le_of_ble_eq_true rfl⟩) hS (fun q _ h => hFc q h) hFc (fun r_25 u t H1 locs ht hvm hw hB hz1 hk1 hS => ?_)
    obtain ⟨I27, T27, A27, U27⟩ := u
    dsimp only at hw hB
    rw [ht] at hB
    have hP : va_P (dC, dI) x_cl (m_W h0 ad ar I27 T27 A27 U27) H1 := hB
    have hD : va_D Bq (m_W h0 ad ar I27 T27 A27 U27) := m_D hD
    generalize H1 = H at hP hS ⊢
    refine W.widen (k := 0) (n := 0) (Nat.le_of_ble_eq_true rfl) (Nat.le_of_ble_eq_true rfl) ?_
    obtain ⟨h9, hrd⟩ := hw
    cases h9
    rcases hrd with ⟨rfl, hrd⟩ | ⟨rfl, hno⟩
    · refine lv_if_eq (tgt := 264) hx hb d_Mo_act_238 (by decide) (fun c_28 => absurd c_28 (by decide)) (fun _ => ?_)
      refine lv_aload_n hx hb d_Mo_act_241 rfl (lv_at hl 3 rfl) ?_
      refine lv_aload_n hx hb d_Mo_act_242 rfl (lv_at hl 3 rfl) ?_
      refine m_g hx hb hts hown hK hP 1 (by decide) rfl (hts _ k_968) (v := .ref (ad 1)) rfl d_Mo_act_243 ?_
      refine lv_iload_n hx hb d_Mo_act_246 rfl (lv_at hl 1 rfl) ?_
      refine lv_iconst (v := 1) hx hb d_Mo_act_247 (by decide) ?_
      refine lv_iadd hx hb d_Mo_act_248 ?_
      refine W.eq (g2 := F0 m 249 ls [.int (Int32.ofNat (pp + 1)), .ref (ad 1), .ref h0]) (by rw [← x_addN (a := pp) (b := 1)] <;> rfl) ?_
      refine m_ld hx hb hK hP 1 rfl (by decide) (j := (Int32.ofNat (pp + 1))) (x_inN (by omega) (by decide)) d_Mo_act_249 ?_
      refine W.eq (g2 := F0 m 250 ls [.int (Int32.ofNat c9), .ref h0]) (by rw [x_nat (a := (pp + 1)) (by omega), show (m_up A 20 (upd (A 20) tt (Int32.ofNat (pp + 3)))) 1 ((pp + 1)) = (Int32.ofNat c9) from a1.2]) ?_
      refine lv_aload_n hx hb d_Mo_act_250 rfl (lv_at hl 3 rfl) ?_
      refine m_g hx hb hts hown hK hP 1 (by decide) rfl (hts _ k_968) (v := .ref (ad 1)) rfl d_Mo_act_251 ?_
      refine lv_iload_n hx hb d_Mo_act_254 rfl (lv_at hl 1 rfl) ?_
      refine lv_iconst (v := 2) hx hb d_Mo_act_255 (by decide) ?_
      refine lv_iadd hx hb d_Mo_act_256 ?_
      refine W.eq (g2 := F0 m 257 ls [.int (Int32.ofNat (pp + 2)), .ref (ad 1), .int (Int32.ofNat c9), .ref h0]) (by rw [← x_addN (a := pp) (b := 2)] <;> rfl) ?_
      refine m_ld hx hb hK hP 1 rfl (by decide) (j := (Int32.ofNat (pp + 2))) (x_inN (by omega) (by decide)) d_Mo_act_257 ?_
      refine W.eq (g2 := F0 m 258 ls [.int (Int32.ofNat v9), .int (Int32.ofNat c9), .ref h0]) (by rw [x_nat (a := (pp + 2)) (by omega), show (m_up A 20 (upd (A 20) tt (Int32.ofNat (pp + 3)))) 1 ((pp + 2)) = (Int32.ofNat v9) from a3.2]) ?_
      have hFc := m_free hD hS hA
      refine va_callv (va_runV (As := [.int (Int32.ofNat c9), .int (Int32.ofNat v9)]) (rest := []) ⟨hx, hb, hml, hown, hts⟩ (m_input l dC dI ar N0 z h0 ad (upd I 32 ((I 32) + 1)) T (m_up A 20 (upd (A 20) tt (Int32.ofNat (pp + 3)))) U c9 v9 gv q H.size h42 hgv h29 (by omega) (by omega) (hri1.rdy (by omega) hrd)) (cwV 2 hts (x_goodV k_1254 k_1256 kp_78 k_9 k_1257) rfl rfl rfl (by decide +kernel) ⟨Nat.le_of_ble_eq_true rfl, Nat.le_of_ble_eq_true rfl⟩) ⟨x_blind, va_recv hK hP (ci := 6) (q0 := 0) rfl rfl, fun U9 hU9 hW9 => x_pre hU9 hW9 hP hD hU hZ hS hAN hN0⟩ rfl rfl hl.1 rfl (lv_room (Nat.le_of_ble_eq_true rfl)) d_Mo_act_258 ⟨Nat.le_of_ble_eq_true rfl, Nat.le_of_ble_eq_true rfl⟩) hS (fun q _ h => hFc q h) hFc (fun u t H1 locs ht hvm hw hB hz1 hk1 hS => ?_)
      obtain ⟨I30, T30, A30, U30⟩ := u
      dsimp only at hw hB
      rw [ht] at hB
      have hP : va_P (dC, dI) x_cl (m_W h0 ad ar I30 T30 A30 U30) H1 := hB
      have hD : va_D Bq (m_W h0 ad ar I30 T30 A30 U30) := m_D hD
      generalize H1 = H at hP hS ⊢
      refine W.widen (k := 0) (n := 0) (Nat.le_of_ble_eq_true rfl) (Nat.le_of_ble_eq_true rfl) ?_
      rcases hw with ⟨h4, e1, e2, e3, fa31⟩ | ⟨h4, w9, hw9, ew9, e1⟩
      · rw [e1, e2, e3] at hP hD
        have hP : va_P (dC, dI) x_cl (m_W h0 ad ar (upd (upd I 32 ((I 32) + 1)) 42 (Int32.ofNat (gv - 1))) T A30 U) H := hP
        have hD : va_D Bq (m_W h0 ad ar (upd (upd I 32 ((I 32) + 1)) 42 (Int32.ofNat (gv - 1))) T A30 U) := hD
        refine lv_goto (tgt := 380) hx hb d_Mo_act_261 (by decide) ?_
        refine W.widen (k := 1) (n := 4) (Nat.le_of_ble_eq_true rfl) (Nat.le_of_ble_eq_true rfl) ?_
        exact W.vret hx hb hr (fun t ht hW => ⟨⟨((upd (upd I 32 ((I 32) + 1)) 42 (Int32.ofNat (gv - 1))), T, A30, U), rfl, ⟨((m_fr.rf.up (by decide) _).up (by decide) _), ((m_fa.rf.up (by decide) _).tr fa31 (by decide)), rfl, rfl, ⟨⟨gv - 1, by omega, rfl⟩, b9, hb9, h43⟩, fun _ => ⟨V, own, pown, bl, role, k9, q, _, br, _, h29, (hri1.fa fa31 (by decide)).st02 (t := tt) hst0 (by rw [fa31 27 (by decide), fa31 21 (by decide)]; exact hk), Or.inr ⟨tt, htt, h30, (by show ¬ A30 27 tt = 0; rw [fa31 27 (by decide)]; exact hal), if_pos rfl⟩⟩⟩, by dsimp only; rw [ht]; exact hP⟩, hS.F ht⟩) hS.2.2 d_Mo_act_380
      · cases e1
        have hP : va_P (dC, dI) x_cl (m_W h0 ad ar (upd (upd I 32 ((I 32) + 1)) 29 (Int32.ofNat (q + 1))) T (m_up (m_up (m_up (m_up A 20 (upd (A 20) tt (Int32.ofNat (pp + 3)))) 3 (upd (A 3) v9 ((m_up A 20 (upd (A 20) tt (Int32.ofNat (pp + 3)))) 39 c9))) 24 (upd (A 24) q (Int32.ofNat w9))) 38 (upd (A 38) c9 (-1))) U) H := hP
        have hD : va_D Bq (m_W h0 ad ar (upd (upd I 32 ((I 32) + 1)) 29 (Int32.ofNat (q + 1))) T (m_up (m_up (m_up (m_up A 20 (upd (A 20) tt (Int32.ofNat (pp + 3)))) 3 (upd (A 3) v9 ((m_up A 20 (upd (A 20) tt (Int32.ofNat (pp + 3)))) 39 c9))) 24 (upd (A 24) q (Int32.ofNat w9))) 38 (upd (A 38) c9 (-1))) U) := hD
        refine lv_goto (tgt := 380) hx hb d_Mo_act_261 (by decide) ?_
        have hw5 := (hri1.took (A' := (m_up (m_up (m_up (m_up A 20 (upd (A 20) tt (Int32.ofNat (pp + 3)))) 3 (upd (A 3) v9 ((m_up A 20 (upd (A 20) tt (Int32.ofNat (pp + 3)))) 39 c9))) 24 (upd (A 24) q (Int32.ofNat w9))) 38 (upd (A 38) c9 (-1)))) (by omega) hw9 ew9 rfl rfl rfl rfl rfl rfl rfl rfl rfl rfl rfl).1
        have hne : tt ≠ w9 := fun e9 => by (rw [e9] at hst0; omega)
        have hst9 : (if tt = w9 then 1 else (if tt = w9 then 0 else st0 tt)) = 0 := by rw [if_neg hne, if_neg hne]; exact hst0
        refine W.widen (k := 1) (n := 4) (Nat.le_of_ble_eq_true rfl) (Nat.le_of_ble_eq_true rfl) ?_
        exact W.vret hx hb hr (fun t ht hW => ⟨⟨((upd (upd I 32 ((I 32) + 1)) 29 (Int32.ofNat (q + 1))), T, (m_up (m_up (m_up (m_up A 20 (upd (A 20) tt (Int32.ofNat (pp + 3)))) 3 (upd (A 3) v9 ((m_up A 20 (upd (A 20) tt (Int32.ofNat (pp + 3)))) 39 c9))) 24 (upd (A 24) q (Int32.ofNat w9))) 38 (upd (A 38) c9 (-1))), U), rfl, ⟨((m_fr.rf.up (by decide) _).up (by decide) _), ((((m_fa.rf.up (by decide) _).up (by decide) _).up (by decide) _).up (by decide) _), rfl, rfl, ⟨⟨gv, hgv, h42⟩, b9, hb9, h43⟩, fun _ => ⟨V, own, pown, bl, role, k9, q + 1, _, br, _, rfl, ((hri1.took (A' := (m_up (m_up (m_up (m_up A 20 (upd (A 20) tt (Int32.ofNat (pp + 3)))) 3 (upd (A 3) v9 ((m_up A 20 (upd (A 20) tt (Int32.ofNat (pp + 3)))) 39 c9))) 24 (upd (A 24) q (Int32.ofNat w9))) 38 (upd (A 38) c9 (-1)))) (by omega) hw9 ew9 rfl rfl rfl rfl rfl rfl rfl rfl rfl rfl rfl).2).st02 (t := tt) hst9 hk, Or.inr ⟨tt, htt, h30, hal, if_pos rfl⟩⟩⟩, by dsimp only; rw [ht]; exact hP⟩, hS.F ht⟩) hS.2.2 d_Mo_act_380
    · refine lv_if_eq (tgt := 264) hx hb d_Mo_act_238 (by decide) (fun _ => ?_) (fun c_32 => absurd (by decide) c_32)
      refine lv_aload_n hx hb d_Mo_act_264 rfl (lv_at hl 3 rfl) ?_
      refine lv_aload_n hx hb d_Mo_act_265 rfl (lv_at hl 3 rfl) ?_
      refine m_g hx hb hts hown hK hP 1 (by decide) rfl (hts _ k_968) (v := .ref (ad 1)) rfl d_Mo_act_266 ?_
      refine lv_iload_n hx hb d_Mo_act_269 rfl (lv_at hl 1 rfl) ?_
      refine lv_iconst (v := 1) hx hb d_Mo_act_270 (by decide) ?_
      refine lv_iadd hx hb d_Mo_act_271 ?_
      refine W.eq (g2 := F0 m 272 ls [.int (Int32.ofNat (pp + 1)), .ref (ad 1), .ref h0]) (by rw [← x_addN (a := pp) (b := 1)] <;> rfl) ?_
      refine m_ld hx hb hK hP 1 rfl (by decide) (j := (Int32.ofNat (pp + 1))) (x_inN (by omega) (by decide)) d_Mo_act_272 ?_
      refine W.eq (g2 := F0 m 273 ls [.int (Int32.ofNat c9), .ref h0]) (by rw [x_nat (a := (pp + 1)) (by omega), show (m_up A 20 (upd (A 20) tt (Int32.ofNat (pp + 3)))) 1 ((pp + 1)) = (Int32.ofNat c9) from a1.2]) ?_
      refine lv_iload_n hx hb d_Mo_act_273 rfl (lv_at hl 2 rfl) ?_
      refine lv_aload_n hx hb d_Mo_act_274 rfl (lv_at hl 3 rfl) ?_
      refine m_g hx hb hts hown hK hP 1 (by decide) rfl (hts _ k_968) (v := .ref (ad 1)) rfl d_Mo_act_275 ?_
      refine lv_iload_n hx hb d_Mo_act_278 rfl (lv_at hl 1 rfl) ?_
      refine lv_iconst (v := 2) hx hb d_Mo_act_279 (by decide) ?_
      refine lv_iadd hx hb d_Mo_act_280 ?_
      refine W.eq (g2 := F0 m 281 ls [.int (Int32.ofNat (pp + 2)), .ref (ad 1), .int (Int32.ofNat tt), .int (Int32.ofNat c9), .ref h0]) (by rw [← x_addN (a := pp) (b := 2)] <;> rfl) ?_
      refine m_ld hx hb hK hP 1 rfl (by decide) (j := (Int32.ofNat (pp + 2))) (x_inN (by omega) (by decide)) d_Mo_act_281 ?_
      refine W.eq (g2 := F0 m 282 ls [.int (Int32.ofNat v9), .int (Int32.ofNat tt), .int (Int32.ofNat c9), .ref h0]) (by rw [x_nat (a := (pp + 2)) (by omega), show (m_up A 20 (upd (A 20) tt (Int32.ofNat (pp + 3)))) 1 ((pp + 2)) = (Int32.ofNat v9) from a3.2]) ?_
      refine lv_iload_n hx hb d_Mo_act_282 rfl (lv_at hl 1 rfl) ?_
      refine lv_iconst (v := 3) hx hb d_Mo_act_283 (by decide) ?_
      refine lv_iadd hx hb d_Mo_act_284 ?_
      refine W.eq (g2 := F0 m 285 ls [.int (Int32.ofNat (pp + 3)), .int (Int32.ofNat v9), .int (Int32.ofNat tt), .int (Int32.ofNat c9), .ref h0]) (by rw [← x_addN (a := pp) (b := 3)] <;> rfl) ?_
      have hFc := m_free hD hS hA
      refine va_callv (va_runV (As := [.int (Int32.ofNat c9), .int (Int32.ofNat tt), .int (Int32.ofNat v9), .int (Int32.ofNat (pp + 3))]) (rest := []) ⟨hx, hb, hml, hown, hts⟩ (m_await l dC dI ar N0 z h0 ad (upd I 32 ((I 32) + 1)) T (m_up A 20 (upd (A 20) tt (Int32.ofNat (pp + 3)))) U c9 ((Int32.ofNat tt)) ((Int32.ofNat v9)) ((Int32.ofNat (pp + 3))) H.size (by omega)) (cwV 4 hts (x_goodV k_1258 k_1260 kp_79 k_9 k_1261) rfl rfl rfl (by decide +kernel) ⟨Nat.le_of_ble_eq_true rfl, Nat.le_of_ble_eq_true rfl⟩) ⟨x_blind, va_recv hK hP (ci := 6) (q0 := 0) rfl rfl, fun U9 hU9 hW9 => x_pre hU9 hW9 hP hD hU hZ hS hAN hN0⟩ rfl rfl hl.1 rfl (lv_room (Nat.le_of_ble_eq_true rfl)) d_Mo_act_285 ⟨Nat.le_of_ble_eq_true rfl, Nat.le_of_ble_eq_true rfl⟩) hS (fun q _ h => hFc q h) hFc (fun u t H1 locs ht hvm hw hB hz1 hk1 hS => ?_)
      obtain ⟨I34, T34, A34, U34⟩ := u
      dsimp only at hw hB
      rw [ht] at hB
      have hP : va_P (dC, dI) x_cl (m_W h0 ad ar I34 T34 A34 U34) H1 := hB
      have hD : va_D Bq (m_W h0 ad ar I34 T34 A34 U34) := m_D hD
      generalize H1 = H at hP hS ⊢
      refine W.widen (k := 0) (n := 0) (Nat.le_of_ble_eq_true rfl) (Nat.le_of_ble_eq_true rfl) ?_
      rcases hw with ⟨hlt9, h9⟩ | ⟨hlt9, h9 | h9⟩
      · cases h9
        have hP : va_P (dC, dI) x_cl (m_W h0 ad ar (upd I 32 ((I 32) + 1)) T (m_up (m_up (m_up (m_up A 20 (upd (A 20) tt (Int32.ofNat (pp + 3)))) 35 (upd (A 35) c9 (Int32.ofNat tt))) 36 (upd (A 36) c9 (Int32.ofNat v9))) 37 (upd (A 37) c9 (Int32.ofNat (pp + 3)))) U) H := hP
        have hD : va_D Bq (m_W h0 ad ar (upd I 32 ((I 32) + 1)) T (m_up (m_up (m_up (m_up A 20 (upd (A 20) tt (Int32.ofNat (pp + 3)))) 35 (upd (A 35) c9 (Int32.ofNat tt))) 36 (upd (A 36) c9 (Int32.ofNat v9))) 37 (upd (A 37) c9 (Int32.ofNat (pp + 3)))) U) := hD
        refine lv_aload_n hx hb d_Mo_act_288 rfl (lv_at hl 3 rfl) ?_
        refine lv_iconst (v := (-1)) hx hb d_Mo_act_289 (by decide) ?_
        refine m_p hx hb hts hown hK hP hD hS 30 (by decide) rfl (hts _ k_997) rfl (by decide +kernel) rfl (by decide) (x := (-1)) d_Mo_act_290 (fun H locs hP hD hS => ?_)
        refine lv_goto (tgt := 380) hx hb d_Mo_act_293 (by decide) ?_
        refine W.widen (k := 1) (n := 4) (Nat.le_of_ble_eq_true rfl) (Nat.le_of_ble_eq_true rfl) ?_
        exact W.vret hx hb hr (fun t ht hW => ⟨⟨((upd (upd I 32 ((I 32) + 1)) 30 (-1)), T, (m_up (m_up (m_up (m_up A 20 (upd (A 20) tt (Int32.ofNat (pp + 3)))) 35 (upd (A 35) c9 (Int32.ofNat tt))) 36 (upd (A 36) c9 (Int32.ofNat v9))) 37 (upd (A 37) c9 (Int32.ofNat (pp + 3)))), U), rfl, ⟨((m_fr.rf.up (by decide) _).up (by decide) _), ((((m_fa.rf.up (by decide) _).up (by decide) _).up (by decide) _).up (by decide) _), rfl, rfl, ⟨⟨gv, hgv, h42⟩, b9, hb9, h43⟩, fun _ => ⟨V, own, pown, bl, role, k9, q, _, br, _, h29, hri1.read (A' := (m_up (m_up (m_up (m_up A 20 (upd (A 20) tt (Int32.ofNat (pp + 3)))) 35 (upd (A 35) c9 (Int32.ofNat tt))) 36 (upd (A 36) c9 (Int32.ofNat v9))) 37 (upd (A 37) c9 (Int32.ofNat (pp + 3))))) htt hal (Or.inl hst0) hk (by omega) a4 a5.1 (a5.2.trans pown9) rfl rfl rfl rfl rfl rfl rfl rfl rfl rfl rfl, Or.inl rfl⟩⟩, by dsimp only; rw [ht]; exact hP⟩, hS.F ht⟩) hS.2.2 d_Mo_act_380
      · cases h9
        refine lv_aload_n hx hb d_Mo_act_288 rfl (lv_at hl 3 rfl) ?_
        refine lv_iconst (v := (-1)) hx hb d_Mo_act_289 (by decide) ?_
        refine m_p hx hb hts hown hK hP hD hS 30 (by decide) rfl (hts _ k_997) rfl (by decide +kernel) rfl (by decide) (x := (-1)) d_Mo_act_290 (fun H locs hP hD hS => ?_)
        refine lv_goto (tgt := 380) hx hb d_Mo_act_293 (by decide) ?_
        refine W.widen (k := 1) (n := 4) (Nat.le_of_ble_eq_true rfl) (Nat.le_of_ble_eq_true rfl) ?_
        exact W.vret hx hb hr (fun t ht hW => ⟨⟨((upd (upd I 32 ((I 32) + 1)) 30 (-1)), T, (m_up A 20 (upd (A 20) tt (Int32.ofNat (pp + 3)))), U), rfl, ⟨((m_fr.rf.up (by decide) _).up (by decide) _), (m_fa.rf.up (by decide) _), rfl, rfl, ⟨⟨gv, hgv, h42⟩, b9, hb9, h43⟩, fun _ => ⟨V, own, pown, bl, role, k9, q, _, br, _, h29, hri1, Or.inl rfl⟩⟩, by dsimp only; rw [ht]; exact hP⟩, hS.F ht⟩) hS.2.2 d_Mo_act_380
      · cases h9
        refine lv_aload_n hx hb d_Mo_act_288 rfl (lv_at hl 3 rfl) ?_
        refine lv_iconst (v := (-1)) hx hb d_Mo_act_289 (by decide) ?_
        refine m_p hx hb hts hown hK hP hD hS 30 (by decide) rfl (hts _ k_997) rfl (by decide +kernel) rfl (by decide) (x := (-1)) d_Mo_act_290 (fun H locs hP hD hS => ?_)
        refine lv_goto (tgt := 380) hx hb d_Mo_act_293 (by decide) ?_
        refine W.widen (k := 1) (n := 4) (Nat.le_of_ble_eq_true rfl) (Nat.le_of_ble_eq_true rfl) ?_
        exact W.vret hx hb hr (fun t ht hW => ⟨⟨((upd (upd (upd I 32 ((I 32) + 1)) 33 2) 30 (-1)), T, (m_up A 20 (upd (A 20) tt (Int32.ofNat (pp + 3)))), U), rfl, ⟨(((m_fr.rf.up (by decide) _).up (by decide) _).up (by decide) _), (m_fa.rf.up (by decide) _), rfl, rfl, ⟨⟨gv, hgv, h42⟩, b9, hb9, h43⟩, fun h9 => absurd (show (2 : Int32) = 0 from h9) (by decide)⟩, by dsimp only; rw [ht]; exact hP⟩, hS.F ht⟩) hS.2.2 d_Mo_act_380
  · have hrow : ∀ g, g < n9 → ∃ e q x : Nat, A 1 (pp + 2 + g * 4) = Int32.ofNat e ∧ q < 1200 ∧ m_TK (A 1) e q 1 72 ∧ A 1 q = 24 ∧ A 1 (pp + 2 + g * 4 + 3) = Int32.ofNat x ∧ V x ∧ own x = br tt ∧ (A 1 (pp + 2 + g * 4 + 1) = -1 ∨ ∃ c v : Nat, A 1 (pp + 2 + g * 4 + 1) = Int32.ofNat c ∧ c < 5 ∧ A 1 (pp + 2 + g * 4 + 2) = Int32.ofNat v ∧ v < 6) := fun g hg => by
      obtain ⟨⟨e1, q1, x1, d1, d2, d3, d4⟩, d5⟩ := a3 g hg
      have hq1 : q1 < 1200 := by
        rcases Nat.lt_or_ge q1 1001 with h8 | h8
        · omega
        · exact absurd ((hri.1.1.2.1 q1 (by have := hri.1.2; omega)).symm.trans (d2.2.2 q1 d2.1.leq (Nat.le_refl _))) (by omega)
      refine ⟨e1, q1, x1, by rw [show pp + 2 + g * 4 = pp + 2 + 4 * g by omega]; exact d1.2, hq1, d2.1, d2.2.1, by rw [show pp + 2 + g * 4 + 3 = pp + 5 + 4 * g by omega]; exact d3.2, d4.1, d4.2.trans pown9, ?_⟩
      rcases d5 with ⟨_, d5⟩ | ⟨c1, v1, d5, d6, d7, d8⟩
      · exact Or.inl (by rw [show pp + 2 + g * 4 + 1 = pp + 3 + 4 * g by omega]; exact d5)
      · exact Or.inr ⟨c1, v1, by rw [show pp + 2 + g * 4 + 1 = pp + 3 + 4 * g by omega]; exact d5.2, by omega, by rw [show pp + 2 + g * 4 + 2 = pp + 4 + 4 * g by omega]; exact d7.2, d8⟩
    refine lv_aload_n hx hb d_Mo_act_0 rfl (lv_at hl 0 rfl) ?_
    refine m_g hx hb hts hown hK hP 30 (by decide) rfl (hts _ k_997) (v := .int (Int32.ofNat tt)) (congrArg Value.int h30) d_Mo_act_1 ?_
    refine lv_istore_n (lv' := [(1, .int (Int32.ofNat tt)), (0, .ref h0)]) hx hb d_Mo_act_4 rfl hl (by decide) rfl (fun ls hl => ?_)
    refine lv_aload_n hx hb d_Mo_act_5 rfl (lv_at hl 1 rfl) ?_
    refine m_g hx hb hts hown hK hP 20 (by decide) rfl (hts _ k_987) (v := .ref (ad 20)) rfl d_Mo_act_6 ?_
    refine lv_iload_n hx hb d_Mo_act_9 rfl (lv_at hl 0 rfl) ?_
    refine m_ld hx hb hK hP 12 rfl (by decide) (j := (Int32.ofNat tt)) (x_inN (by omega) (by decide)) d_Mo_act_10 ?_
    refine W.eq (g2 := F0 m 11 ls [.int (Int32.ofNat pp)]) (by rw [x_nat (a := tt) (by omega), show A 20 tt = (Int32.ofNat pp) from p20]) ?_
    refine lv_istore_n (lv' := [(2, .int (Int32.ofNat pp)), (1, .int (Int32.ofNat tt)), (0, .ref h0)]) hx hb d_Mo_act_11 rfl hl (by decide) rfl (fun ls hl => ?_)
    refine lv_iconst (v := 0) hx hb d_Mo_act_12 (by decide) ?_
    refine lv_istore_n (lv' := [(3, .int 0), (2, .int (Int32.ofNat pp)), (1, .int (Int32.ofNat tt)), (0, .ref h0)]) hx hb d_Mo_act_13 rfl hl (by decide) rfl (fun ls hl => ?_)
    refine lv_aload_n hx hb d_Mo_act_14 rfl (lv_at hl 3 rfl) ?_
    refine lv_dup hx hb d_Mo_act_15 rfl ?_
    refine m_g hx hb hts hown hK hP 32 (by decide) rfl (hts _ k_999) (v := .int (I 32)) rfl d_Mo_act_16 ?_
    refine lv_iconst (v := 1) hx hb d_Mo_act_19 (by decide) ?_
    refine lv_iadd hx hb d_Mo_act_20 ?_
    refine m_p hx hb hts hown hK hP hD hS 32 (by decide) rfl (hts _ k_999) rfl (by decide +kernel) rfl (by decide) (x := ((I 32) + 1)) d_Mo_act_21 (fun H locs hP hD hS => ?_)
    refine lv_aload_n hx hb d_Mo_act_24 rfl (lv_at hl 3 rfl) ?_
    refine m_g hx hb hts hown hK hP 1 (by decide) rfl (hts _ k_968) (v := .ref (ad 1)) rfl d_Mo_act_25 ?_
    refine lv_iload_n hx hb d_Mo_act_28 rfl (lv_at hl 1 rfl) ?_
    refine m_ld hx hb hK hP 1 rfl (by decide) (j := (Int32.ofNat pp)) (x_inN (by omega) (by decide)) d_Mo_act_29 ?_
    refine W.eq (g2 := F0 m 30 ls [.int 8]) (by rw [x_nat (a := pp) (by omega), show A 1 pp = 8 from e]) ?_
    refine lv_tableIn (tgt := 296) hx hb d_Mo_act_30 (by decide) (by decide) (off := 266) rfl (by decide) ?_
    refine lv_aload_n hx hb d_Mo_act_296 rfl (lv_at hl 3 rfl) ?_
    refine lv_iload_n hx hb d_Mo_act_297 rfl (lv_at hl 2 rfl) ?_
    refine lv_iload_n hx hb d_Mo_act_298 rfl (lv_at hl 1 rfl) ?_
    have hFc := m_free hD hS hA
    refine va_callv (va_runV (As := [.int (Int32.ofNat tt), .int (Int32.ofNat pp)]) (rest := []) ⟨hx, hb, hml, hown, hts⟩ (m_alternative l dC dI ar N0 z h0 ad (upd I 32 ((I 32) + 1)) T A U V own pown bl role k9 q pn br st0 tt pp n9 gv H.size h29 h30 hri0 htt hal hst0 hk h33 h42 hgv p1001 a1.2 a2 hrow) (cwV 2 hts (x_goodV k_1262 k_1264 kp_80 k_9 k_1265) rfl rfl rfl (by decide +kernel) ⟨Nat.le_of_ble_eq_true rfl, Nat.le_of_ble_eq_true rfl⟩) ⟨x_blind, va_recv hK hP (ci := 6) (q0 := 0) rfl rfl, fun U9 hU9 hW9 => x_pre hU9 hW9 hP hD hU hZ hS hAN hN0⟩ rfl rfl hl.1 rfl (lv_room (Nat.le_of_ble_eq_true rfl)) d_Mo_act_299 ⟨Nat.le_of_ble_eq_true rfl, Nat.le_of_ble_eq_true rfl⟩) hS (fun q _ h => hFc q h) hFc (fun u t H1 locs ht hvm hw hB hz1 hk1 hS => ?_)
    obtain ⟨I36, T36, A36, U36⟩ := u
    dsimp only at hw hB
    rw [ht] at hB
    have hP : va_P (dC, dI) x_cl (m_W h0 ad ar I36 T36 A36 U36) H1 := hB
    have hD : va_D Bq (m_W h0 ad ar I36 T36 A36 U36) := m_D hD
    generalize H1 = H at hP hS ⊢
    refine W.widen (k := 1) (n := 4) (Nat.le_of_ble_eq_true rfl) (Nat.le_of_ble_eq_true rfl) ?_
    obtain ⟨fr37, fa37, eT, eU, hbx37, hrun37⟩ := hw
    cases eT
    cases eU
    refine lv_goto (tgt := 380) hx hb d_Mo_act_302 (by decide) ?_
    refine W.widen (k := 1) (n := 4) (Nat.le_of_ble_eq_true rfl) (Nat.le_of_ble_eq_true rfl) ?_
    exact W.vret hx hb hr (fun t ht hW => ⟨⟨(I36, T, A36, U), rfl, ⟨((m_fr.rf.up (k := 32) (by decide) _).tr fr37 (by decide)), (m_fa.rf.tr fa37 (by decide)), rfl, ((fr37 32 (by decide)).trans rfl), ⟨hbx37, ⟨b9, hb9, (fr37 43 (by decide)).trans h43⟩⟩, hrun37⟩, by dsimp only; rw [ht]; exact hP⟩, hS.F ht⟩) hS.2.2 d_Mo_act_380
  · have hq9 := hri.vlt a2.1
    refine lv_aload_n hx hb d_Mo_act_0 rfl (lv_at hl 0 rfl) ?_
    refine m_g hx hb hts hown hK hP 30 (by decide) rfl (hts _ k_997) (v := .int (Int32.ofNat tt)) (congrArg Value.int h30) d_Mo_act_1 ?_
    refine lv_istore_n (lv' := [(1, .int (Int32.ofNat tt)), (0, .ref h0)]) hx hb d_Mo_act_4 rfl hl (by decide) rfl (fun ls hl => ?_)
    refine lv_aload_n hx hb d_Mo_act_5 rfl (lv_at hl 1 rfl) ?_
    refine m_g hx hb hts hown hK hP 20 (by decide) rfl (hts _ k_987) (v := .ref (ad 20)) rfl d_Mo_act_6 ?_
    refine lv_iload_n hx hb d_Mo_act_9 rfl (lv_at hl 0 rfl) ?_
    refine m_ld hx hb hK hP 12 rfl (by decide) (j := (Int32.ofNat tt)) (x_inN (by omega) (by decide)) d_Mo_act_10 ?_
    refine W.eq (g2 := F0 m 11 ls [.int (Int32.ofNat pp)]) (by rw [x_nat (a := tt) (by omega), show A 20 tt = (Int32.ofNat pp) from p20]) ?_
    refine lv_istore_n (lv' := [(2, .int (Int32.ofNat pp)), (1, .int (Int32.ofNat tt)), (0, .ref h0)]) hx hb d_Mo_act_11 rfl hl (by decide) rfl (fun ls hl => ?_)
    refine lv_iconst (v := 0) hx hb d_Mo_act_12 (by decide) ?_
    refine lv_istore_n (lv' := [(3, .int 0), (2, .int (Int32.ofNat pp)), (1, .int (Int32.ofNat tt)), (0, .ref h0)]) hx hb d_Mo_act_13 rfl hl (by decide) rfl (fun ls hl => ?_)
    refine lv_aload_n hx hb d_Mo_act_14 rfl (lv_at hl 3 rfl) ?_
    refine lv_dup hx hb d_Mo_act_15 rfl ?_
    refine m_g hx hb hts hown hK hP 32 (by decide) rfl (hts _ k_999) (v := .int (I 32)) rfl d_Mo_act_16 ?_
    refine lv_iconst (v := 1) hx hb d_Mo_act_19 (by decide) ?_
    refine lv_iadd hx hb d_Mo_act_20 ?_
    refine m_p hx hb hts hown hK hP hD hS 32 (by decide) rfl (hts _ k_999) rfl (by decide +kernel) rfl (by decide) (x := ((I 32) + 1)) d_Mo_act_21 (fun H locs hP hD hS => ?_)
    refine lv_aload_n hx hb d_Mo_act_24 rfl (lv_at hl 3 rfl) ?_
    refine m_g hx hb hts hown hK hP 1 (by decide) rfl (hts _ k_968) (v := .ref (ad 1)) rfl d_Mo_act_25 ?_
    refine lv_iload_n hx hb d_Mo_act_28 rfl (lv_at hl 1 rfl) ?_
    refine m_ld hx hb hK hP 1 rfl (by decide) (j := (Int32.ofNat pp)) (x_inN (by omega) (by decide)) d_Mo_act_29 ?_
    refine W.eq (g2 := F0 m 30 ls [.int 9]) (by rw [x_nat (a := pp) (by omega), show A 1 pp = 9 from e]) ?_
    refine lv_tableOut (tgt := 305) hx hb d_Mo_act_30 (by decide) (by decide) ?_
    refine lv_aload_n hx hb d_Mo_act_305 rfl (lv_at hl 3 rfl) ?_
    refine lv_iload_n hx hb d_Mo_act_306 rfl (lv_at hl 1 rfl) ?_
    refine lv_iconst (v := 1) hx hb d_Mo_act_307 (by decide) ?_
    refine lv_iadd hx hb d_Mo_act_308 ?_
    refine W.eq (g2 := F0 m 309 ls [.int (Int32.ofNat (pp + 1)), .ref h0]) (by rw [← x_addN (a := pp) (b := 1)] <;> rfl) ?_
    have hFc := m_free hD hS hA
    refine va_calli (va_runV (As := [.int (Int32.ofNat (pp + 1))]) (rest := []) ⟨hx, hb, hml, hown, hts⟩ (m_value l dC dI ar N0 z h0 ad (upd I 32 ((I 32) + 1)) T A U ((pp + 1)) q9 H.size (by omega) h33 a1.1 a1.2.1) (cwV 1 hts (x_goodV k_1230 k_1232 kp_72 k_9 k_1233) rfl rfl rfl (by decide +kernel) ⟨Nat.le_of_ble_eq_true rfl, Nat.le_of_ble_eq_true rfl⟩) ⟨x_blind, va_recv hK hP (ci := 6) (q0 := 0) rfl rfl, fun U9 hU9 hW9 => x_pre hU9 hW9 hP hD hU hZ hS hAN hN0⟩ rfl rfl hl.1 rfl (lv_room (Nat.le_of_ble_eq_true rfl)) d_Mo_act_309 ⟨Nat.le_of_ble_eq_true rfl, Nat.le_of_ble_eq_true rfl⟩) hS (fun q _ h => hFc q h) hFc (fun r_38 u t H1 locs ht hvm hw hB hz1 hk1 hS => ?_)
    obtain ⟨I40, T40, A40, U40⟩ := u
    dsimp only at hw hB
    rw [ht] at hB
    have hP : va_P (dC, dI) x_cl (m_W h0 ad ar I40 T40 A40 U40) H1 := hB
    have hD : va_D Bq (m_W h0 ad ar I40 T40 A40 U40) := m_D hD
    generalize H1 = H at hP hS ⊢
    refine W.widen (k := 0) (n := 0) (Nat.le_of_ble_eq_true rfl) (Nat.le_of_ble_eq_true rfl) ?_
    obtain ⟨fr41, fa41, eT, eU, hv33⟩ := hw
    cases eT
    cases eU
    rcases hv33 with hv33 | hv33
    · refine lv_istore_n (lv' := [(3, .int r_38), (2, .int (Int32.ofNat pp)), (1, .int (Int32.ofNat tt)), (0, .ref h0)]) hx hb d_Mo_act_312 rfl hl (by decide) rfl (fun ls hl => ?_)
      refine lv_aload_n hx hb d_Mo_act_313 rfl (lv_at hl 3 rfl) ?_
      refine m_g hx hb hts hown hK hP 20 (by decide) rfl (hts _ k_987) (v := .ref (ad 20)) rfl d_Mo_act_314 ?_
      refine lv_iload_n hx hb d_Mo_act_317 rfl (lv_at hl 2 rfl) ?_
      refine lv_aload_n hx hb d_Mo_act_318 rfl (lv_at hl 3 rfl) ?_
      refine m_g hx hb hts hown hK hP 44 (by decide) rfl (hts _ k_1011) (v := .int (Int32.ofNat (q9 + 1))) (congrArg Value.int hv33.2) d_Mo_act_319 ?_
      refine m_st hx hb hK hP hD hS 12 rfl (by decide) (j := (Int32.ofNat tt)) (x := (Int32.ofNat (q9 + 1))) (x_inN (by omega) (by decide)) d_Mo_act_322 (fun H locs hP hD hS => ?_)
      rw [x_nat (a := tt) (by omega)] at hP hD
      have hP : va_P (dC, dI) x_cl (m_W h0 ad ar I40 T (m_up A40 20 (upd (A40 20) tt (Int32.ofNat (q9 + 1)))) U) H := hP
      have hD : va_D Bq (m_W h0 ad ar I40 T (m_up A40 20 (upd (A40 20) tt (Int32.ofNat (q9 + 1)))) U) := hD
      refine lv_aload_n hx hb d_Mo_act_323 rfl (lv_at hl 3 rfl) ?_
      refine m_g hx hb hts hown hK hP 33 (by decide) rfl (hts _ k_1000) (v := .int 0) (congrArg Value.int hv33.1) d_Mo_act_324 ?_
      refine lv_if_gt (tgt := 334) hx hb d_Mo_act_327 (by decide) (fun c_42 => absurd c_42 (by decide)) (fun _ => ?_)
      refine lv_iload_n hx hb d_Mo_act_330 rfl (lv_at hl 0 rfl) ?_
      refine lv_if_gt (tgt := 335) hx hb d_Mo_act_331 (by decide) (fun c_43 => ?_) (fun c_43 => ?_)
      · refine lv_aload_n hx hb d_Mo_act_335 rfl (lv_at hl 3 rfl) ?_
        refine m_g hx hb hts hown hK hP 28 (by decide) rfl (hts _ k_995) (v := .ref (ad 28)) rfl d_Mo_act_336 ?_
        refine lv_iload_n hx hb d_Mo_act_339 rfl (lv_at hl 2 rfl) ?_
        refine lv_iconst (v := 1) hx hb d_Mo_act_340 (by decide) ?_
        refine m_zst hx hb hK hP hD hS 20 rfl (by decide) (j := (Int32.ofNat tt)) (x := 1) (x_inN (by omega) (by decide)) d_Mo_act_341 (fun H locs hP hD hS => ?_)
        rw [x_nat (a := tt) (by omega)] at hP hD
        rw [show vp_nar .boolean 1 = 1 from rfl] at hP hD
        have hP : va_P (dC, dI) x_cl (m_W h0 ad ar I40 T (m_up (m_up A40 20 (upd (A40 20) tt (Int32.ofNat (q9 + 1)))) 28 (upd (A40 28) tt 1)) U) H := hP
        have hD : va_D Bq (m_W h0 ad ar I40 T (m_up (m_up A40 20 (upd (A40 20) tt (Int32.ofNat (q9 + 1)))) 28 (upd (A40 28) tt 1)) U) := hD
        refine lv_aload_n hx hb d_Mo_act_342 rfl (lv_at hl 3 rfl) ?_
        refine m_g hx hb hts hown hK hP 26 (by decide) rfl (hts _ k_993) (v := .ref (ad 26)) rfl d_Mo_act_343 ?_
        refine lv_iload_n hx hb d_Mo_act_346 rfl (lv_at hl 2 rfl) ?_
        refine lv_aload_n hx hb d_Mo_act_347 rfl (lv_at hl 3 rfl) ?_
        refine m_g hx hb hts hown hK hP 34 (by decide) rfl (hts _ k_1001) (v := .long T) rfl d_Mo_act_348 ?_
        refine lv_iload_n hx hb d_Mo_act_351 rfl (lv_at hl 0 rfl) ?_
        refine lv_i2l (v := (Int32.toInt64 r_38)) hx hb d_Mo_act_352 rfl ?_
        refine lv_ladd hx hb d_Mo_act_353 ?_
        refine m_lst hx hb hK hP hD hS 18 rfl (j := (Int32.ofNat tt)) (x := (T + (Int32.toInt64 r_38))) (x_inN (by omega) (by decide)) d_Mo_act_354 (fun H locs hP hD hS => ?_)
        generalize vp_updL U _ _ = U9 at hP hD
        refine lv_aload_n hx hb d_Mo_act_355 rfl (lv_at hl 3 rfl) ?_
        refine lv_dup hx hb d_Mo_act_356 rfl ?_
        refine m_g hx hb hts hown hK hP 31 (by decide) rfl (hts _ k_998) (v := .int (I40 31)) rfl d_Mo_act_357 ?_
        refine lv_iconst (v := 1) hx hb d_Mo_act_360 (by decide) ?_
        refine lv_iadd hx hb d_Mo_act_361 ?_
        refine m_p hx hb hts hown hK hP hD hS 31 (by decide) rfl (hts _ k_998) rfl (by decide +kernel) rfl (by decide) (x := ((I40 31) + 1)) d_Mo_act_362 (fun H locs hP hD hS => ?_)
        refine lv_aload_n hx hb d_Mo_act_365 rfl (lv_at hl 3 rfl) ?_
        refine m_g hx hb hts hown hK hP 23 (by decide) rfl (hts _ k_990) (v := .ref (ad 23)) rfl d_Mo_act_366 ?_
        refine lv_iload_n hx hb d_Mo_act_369 rfl (lv_at hl 2 rfl) ?_
        refine lv_aload_n hx hb d_Mo_act_370 rfl (lv_at hl 3 rfl) ?_
        refine m_g hx hb hts hown hK hP 31 (by decide) rfl (hts _ k_998) (v := .int ((I40 31) + 1)) rfl d_Mo_act_371 ?_
        refine m_st hx hb hK hP hD hS 15 rfl (by decide) (j := (Int32.ofNat tt)) (x := ((I40 31) + 1)) (x_inN (by omega) (by decide)) d_Mo_act_374 (fun H locs hP hD hS => ?_)
        rw [x_nat (a := tt) (by omega)] at hP hD
        have hP : va_P (dC, dI) x_cl (m_W h0 ad ar (upd I40 31 ((I40 31) + 1)) T (m_up (m_up (m_up A40 20 (upd (A40 20) tt (Int32.ofNat (q9 + 1)))) 28 (upd (A40 28) tt 1)) 23 (upd (A40 23) tt ((I40 31) + 1))) U9) H := hP
        have hD : va_D Bq (m_W h0 ad ar (upd I40 31 ((I40 31) + 1)) T (m_up (m_up (m_up A40 20 (upd (A40 20) tt (Int32.ofNat (q9 + 1)))) 28 (upd (A40 28) tt 1)) 23 (upd (A40 23) tt ((I40 31) + 1))) U9) := hD
        refine lv_aload_n hx hb d_Mo_act_375 rfl (lv_at hl 3 rfl) ?_
        refine lv_iconst (v := (-1)) hx hb d_Mo_act_376 (by decide) ?_
        refine m_p hx hb hts hown hK hP hD hS 30 (by decide) rfl (hts _ k_997) rfl (by decide +kernel) rfl (by decide) (x := (-1)) d_Mo_act_377 (fun H locs hP hD hS => ?_)
        refine W.widen (k := 1) (n := 4) (Nat.le_of_ble_eq_true rfl) (Nat.le_of_ble_eq_true rfl) ?_
        exact W.vret hx hb hr (fun t ht hW => ⟨⟨((upd (upd I40 31 ((I40 31) + 1)) 30 (-1)), T, (m_up (m_up (m_up A40 20 (upd (A40 20) tt (Int32.ofNat (q9 + 1)))) 28 (upd (A40 28) tt 1)) 23 (upd (A40 23) tt ((I40 31) + 1))), U9), rfl, ⟨((((m_fr.rf.up (k := 32) (by decide) _).tr fr41 (by decide)).up (by decide) _).up (by decide) _), ((((m_fa.rf.tr fa41 (by decide)).up (by decide) _).up (by decide) _).up (by decide) _), rfl, (fr41 32 (by decide)), ⟨⟨gv, hgv, ((fr41 42 (by decide)).trans h42)⟩, b9, hb9, ((fr41 43 (by decide)).trans h43)⟩, fun _ => ⟨V, own, pown, bl, role, k9, q, _, br, _, ((fr41 29 (by decide)).trans h29), (((hri0.fa fa41 (by decide)).pc (t := tt) a2.1 (a2.2.trans pown9)).time (t := tt) hst0 (by show m_kc (A40 27) (A40 21) tt 90 = 0; rw [fa41 27 (by decide), fa41 21 (by decide)]; exact hk)).eq (A' := (m_up (m_up (m_up A40 20 (upd (A40 20) tt (Int32.ofNat (q9 + 1)))) 28 (upd (A40 28) tt 1)) 23 (upd (A40 23) tt ((I40 31) + 1)))) rfl rfl rfl rfl rfl rfl rfl rfl rfl rfl rfl, Or.inl rfl⟩⟩, by dsimp only; rw [ht]; exact hP⟩, hS.F ht⟩) hS.2.2 d_Mo_act_380
      · refine W.widen (k := 1) (n := 4) (Nat.le_of_ble_eq_true rfl) (Nat.le_of_ble_eq_true rfl) ?_
        exact W.vret hx hb hr (fun t ht hW => ⟨⟨(I40, T, (m_up A40 20 (upd (A40 20) tt (Int32.ofNat (q9 + 1)))), U), rfl, ⟨((m_fr.rf.up (k := 32) (by decide) _).tr fr41 (by decide)), ((m_fa.rf.tr fa41 (by decide)).up (by decide) _), rfl, (fr41 32 (by decide)), ⟨⟨gv, hgv, ((fr41 42 (by decide)).trans h42)⟩, b9, hb9, ((fr41 43 (by decide)).trans h43)⟩, fun _ => ⟨V, own, pown, bl, role, k9, q, _, br, _, ((fr41 29 (by decide)).trans h29), (((hri0.fa fa41 (by decide)).pc (t := tt) a2.1 (a2.2.trans pown9))).st02 (t := tt) hst0 (by show m_kc (A40 27) (A40 21) tt 90 = 0; rw [fa41 27 (by decide), fa41 21 (by decide)]; exact hk), Or.inr ⟨tt, htt, ((fr41 30 (by decide)).trans h30), (by show ¬ A40 27 tt = 0; rw [fa41 27 (by decide)]; exact hal), if_pos rfl⟩⟩⟩, by dsimp only; rw [ht]; exact hP⟩, hS.F ht⟩) hS.2.2 d_Mo_act_334
    · refine lv_istore_n (lv' := [(3, .int r_38), (2, .int (Int32.ofNat pp)), (1, .int (Int32.ofNat tt)), (0, .ref h0)]) hx hb d_Mo_act_312 rfl hl (by decide) rfl (fun ls hl => ?_)
      refine lv_aload_n hx hb d_Mo_act_313 rfl (lv_at hl 3 rfl) ?_
      refine m_g hx hb hts hown hK hP 20 (by decide) rfl (hts _ k_987) (v := .ref (ad 20)) rfl d_Mo_act_314 ?_
      refine lv_iload_n hx hb d_Mo_act_317 rfl (lv_at hl 2 rfl) ?_
      refine lv_aload_n hx hb d_Mo_act_318 rfl (lv_at hl 3 rfl) ?_
      refine m_g hx hb hts hown hK hP 44 (by decide) rfl (hts _ k_1011) (v := .int (I40 44)) rfl d_Mo_act_319 ?_
      refine m_st hx hb hK hP hD hS 12 rfl (by decide) (j := (Int32.ofNat tt)) (x := (I40 44)) (x_inN (by omega) (by decide)) d_Mo_act_322 (fun H locs hP hD hS => ?_)
      rw [x_nat (a := tt) (by omega)] at hP hD
      have hP : va_P (dC, dI) x_cl (m_W h0 ad ar I40 T (m_up A40 20 (upd (A40 20) tt (I40 44))) U) H := hP
      have hD : va_D Bq (m_W h0 ad ar I40 T (m_up A40 20 (upd (A40 20) tt (I40 44))) U) := hD
      refine lv_aload_n hx hb d_Mo_act_323 rfl (lv_at hl 3 rfl) ?_
      refine m_g hx hb hts hown hK hP 33 (by decide) rfl (hts _ k_1000) (v := .int 3) (congrArg Value.int hv33) d_Mo_act_324 ?_
      refine lv_if_gt (tgt := 334) hx hb d_Mo_act_327 (by decide) (fun _ => ?_) (fun c_44 => absurd (by decide) c_44)
      refine W.widen (k := 1) (n := 4) (Nat.le_of_ble_eq_true rfl) (Nat.le_of_ble_eq_true rfl) ?_
      exact W.vret hx hb hr (fun t ht hW => ⟨⟨(I40, T, (m_up A40 20 (upd (A40 20) tt (I40 44))), U), rfl, ⟨((m_fr.rf.up (k := 32) (by decide) _).tr fr41 (by decide)), ((m_fa.rf.tr fa41 (by decide)).up (by decide) _), rfl, (fr41 32 (by decide)), ⟨⟨gv, hgv, ((fr41 42 (by decide)).trans h42)⟩, b9, hb9, ((fr41 43 (by decide)).trans h43)⟩, fun h9 => absurd (h9.symm.trans hv33) (by decide)⟩, by dsimp only; rw [ht]; exact hP⟩, hS.F ht⟩) hS.2.2 d_Mo_act_334
  · exact absurd e h10
  · exact absurd e h11
  · exact absurd e h12
