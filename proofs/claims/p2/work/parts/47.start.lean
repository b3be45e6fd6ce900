-- ===== 47.start: start of the reference, by program =====
theorem k_1186 : (Jvm.Cond.methodLink "ChannelMachineModel" (168 : Nat) ({ cls := "ChannelMachineModel", name := "begin", desc := "(II)V" } : Jvm.MethodName)) ∈ x_T := x_at 1186 (by decide +kernel) (by decide +kernel)
theorem k_1188 : (Jvm.Cond.instanceMethod ({ cls := "ChannelMachineModel", name := "begin", desc := "(II)V" } : Jvm.MethodName)) ∈ x_T := x_at 1188 (by decide +kernel) (by decide +kernel)
theorem k_1189 : (Jvm.Cond.code ({ cls := "ChannelMachineModel", name := "begin", desc := "(II)V" } : Jvm.MethodName) prog_12_method_16_code (3 : Nat) (Option.none : Option Jvm.ClassFile.FieldType)) ∈ x_T := x_at 1189 (by decide +kernel) (by decide +kernel)
theorem kp_63 : (Jvm.Cond.selects "ChannelMachineModel" ({ cls := "ChannelMachineModel", name := "begin", desc := "(II)V" } : Jvm.MethodName) ({ cls := "ChannelMachineModel", name := "begin", desc := "(II)V" } : Jvm.MethodName)) ∈ x_T := x_sel (q := (({ cls := "ChannelMachineModel", name := "begin", desc := "(II)V" } : Jvm.MethodName), 45)) 63 (by decide +kernel) (by decide +kernel)
theorem d_Mo_start_0 : decode prog_12_method_18_code 0 = .ok (.aload_n 0, 1) := by decide +kernel
theorem d_Mo_start_1 : decode prog_12_method_18_code 1 = .ok (.invokevirtual 124, 3) := by decide +kernel
theorem d_Mo_start_4 : decode prog_12_method_18_code 4 = .ok (.istore_n 2, 1) := by decide +kernel
theorem d_Mo_start_5 : decode prog_12_method_18_code 5 = .ok (.aload_n 0, 1) := by decide +kernel
theorem d_Mo_start_6 : decode prog_12_method_18_code 6 = .ok (.getfield 128, 3) := by decide +kernel
theorem d_Mo_start_9 : decode prog_12_method_18_code 9 = .ok (.istore_n 3, 1) := by decide +kernel
theorem d_Mo_start_10 : decode prog_12_method_18_code 10 = .ok (.iload_n 2, 1) := by decide +kernel
theorem d_Mo_start_11 : decode prog_12_method_18_code 11 = .ok (.invokestatic 162, 3) := by decide +kernel
theorem d_Mo_start_14 : decode prog_12_method_18_code 14 = .ok (.istore 4, 2) := by decide +kernel
theorem d_Mo_start_16 : decode prog_12_method_18_code 16 = .ok (.iload_n 1, 1) := by decide +kernel
theorem d_Mo_start_17 : decode prog_12_method_18_code 17 = .ok (.bipush 7, 2) := by decide +kernel
theorem d_Mo_start_19 : decode prog_12_method_18_code 19 = .ok (.if_icmp .gt 21, 3) := by decide +kernel
theorem d_Mo_start_22 : decode prog_12_method_18_code 22 = .ok (.iload_n 1, 1) := by decide +kernel
theorem d_Mo_start_23 : decode prog_12_method_18_code 23 = .ok (.bipush 7, 2) := by decide +kernel
theorem d_Mo_start_25 : decode prog_12_method_18_code 25 = .ok (.if_icmp .ne 17, 3) := by decide +kernel
theorem d_Mo_start_28 : decode prog_12_method_18_code 28 = .ok (.iload_n 2, 1) := by decide +kernel
theorem d_Mo_start_29 : decode prog_12_method_18_code 29 = .ok (.bipush 94, 2) := by decide +kernel
theorem d_Mo_start_31 : decode prog_12_method_18_code 31 = .ok (.if_icmp .eq 9, 3) := by decide +kernel
theorem d_Mo_start_34 : decode prog_12_method_18_code 34 = .ok (.iload_n 2, 1) := by decide +kernel
theorem d_Mo_start_35 : decode prog_12_method_18_code 35 = .ok (.bipush 63, 2) := by decide +kernel
theorem d_Mo_start_37 : decode prog_12_method_18_code 37 = .ok (.if_icmp .ne 5, 3) := by decide +kernel
theorem d_Mo_start_40 : decode prog_12_method_18_code 40 = .ok (.iconst (-1), 1) := by decide +kernel
theorem d_Mo_start_41 : decode prog_12_method_18_code 41 = .ok (.ireturn, 1) := by decide +kernel
theorem d_Mo_start_42 : decode prog_12_method_18_code 42 = .ok (.aload_n 0, 1) := by decide +kernel
theorem d_Mo_start_43 : decode prog_12_method_18_code 43 = .ok (.invokevirtual 142, 3) := by decide +kernel
theorem d_Mo_start_46 : decode prog_12_method_18_code 46 = .ok (.ifCond .eq 44, 3) := by decide +kernel
theorem d_Mo_start_49 : decode prog_12_method_18_code 49 = .ok (.aload_n 0, 1) := by decide +kernel
theorem d_Mo_start_50 : decode prog_12_method_18_code 50 = .ok (.dup, 1) := by decide +kernel
theorem d_Mo_start_51 : decode prog_12_method_18_code 51 = .ok (.getfield 121, 3) := by decide +kernel
theorem d_Mo_start_54 : decode prog_12_method_18_code 54 = .ok (.iconst 1, 1) := by decide +kernel
theorem d_Mo_start_55 : decode prog_12_method_18_code 55 = .ok (.iadd, 1) := by decide +kernel
theorem d_Mo_start_56 : decode prog_12_method_18_code 56 = .ok (.putfield 121, 3) := by decide +kernel
theorem d_Mo_start_59 : decode prog_12_method_18_code 59 = .ok (.aload_n 0, 1) := by decide +kernel
theorem d_Mo_start_60 : decode prog_12_method_18_code 60 = .ok (.iconst 1, 1) := by decide +kernel
theorem d_Mo_start_61 : decode prog_12_method_18_code 61 = .ok (.iload_n 2, 1) := by decide +kernel
theorem d_Mo_start_62 : decode prog_12_method_18_code 62 = .ok (.bipush 97, 2) := by decide +kernel
theorem d_Mo_start_64 : decode prog_12_method_18_code 64 = .ok (.isub, 1) := by decide +kernel
theorem d_Mo_start_65 : decode prog_12_method_18_code 65 = .ok (.invokevirtual 138, 3) := by decide +kernel
theorem d_Mo_start_68 : decode prog_12_method_18_code 68 = .ok (.aload_n 0, 1) := by decide +kernel
theorem d_Mo_start_69 : decode prog_12_method_18_code 69 = .ok (.bipush 58, 2) := by decide +kernel
theorem d_Mo_start_71 : decode prog_12_method_18_code 71 = .ok (.invokevirtual 155, 3) := by decide +kernel
theorem d_Mo_start_74 : decode prog_12_method_18_code 74 = .ok (.ifCond .eq 14, 3) := by decide +kernel
theorem d_Mo_start_77 : decode prog_12_method_18_code 77 = .ok (.aload_n 0, 1) := by decide +kernel
theorem d_Mo_start_78 : decode prog_12_method_18_code 78 = .ok (.invokevirtual 165, 3) := by decide +kernel
theorem d_Mo_start_81 : decode prog_12_method_18_code 81 = .ok (.ifCond .eq 7, 3) := by decide +kernel
theorem d_Mo_start_84 : decode prog_12_method_18_code 84 = .ok (.iconst 0, 1) := by decide +kernel
theorem d_Mo_start_85 : decode prog_12_method_18_code 85 = .ok (.goto 4, 3) := by decide +kernel
theorem d_Mo_start_88 : decode prog_12_method_18_code 88 = .ok (.iconst (-1), 1) := by decide +kernel
theorem d_Mo_start_89 : decode prog_12_method_18_code 89 = .ok (.ireturn, 1) := by decide +kernel
theorem d_Mo_start_90 : decode prog_12_method_18_code 90 = .ok (.iload 4, 2) := by decide +kernel
theorem d_Mo_start_92 : decode prog_12_method_18_code 92 = .ok (.ifCond .lt 104, 3) := by decide +kernel
theorem d_Mo_start_95 : decode prog_12_method_18_code 95 = .ok (.aload_n 0, 1) := by decide +kernel
theorem d_Mo_start_96 : decode prog_12_method_18_code 96 = .ok (.dup, 1) := by decide +kernel
theorem d_Mo_start_97 : decode prog_12_method_18_code 97 = .ok (.getfield 121, 3) := by decide +kernel
theorem d_Mo_start_100 : decode prog_12_method_18_code 100 = .ok (.iconst 1, 1) := by decide +kernel
theorem d_Mo_start_101 : decode prog_12_method_18_code 101 = .ok (.iadd, 1) := by decide +kernel
theorem d_Mo_start_102 : decode prog_12_method_18_code 102 = .ok (.putfield 121, 3) := by decide +kernel
theorem d_Mo_start_105 : decode prog_12_method_18_code 105 = .ok (.iload 4, 2) := by decide +kernel
theorem d_Mo_start_107 : decode prog_12_method_18_code 107 = .ok (.iconst 4, 1) := by decide +kernel
theorem d_Mo_start_108 : decode prog_12_method_18_code 108 = .ok (.if_icmp .eq 33, 3) := by decide +kernel
theorem d_Mo_start_111 : decode prog_12_method_18_code 111 = .ok (.aload_n 0, 1) := by decide +kernel
theorem d_Mo_start_112 : decode prog_12_method_18_code 112 = .ok (.bipush 33, 2) := by decide +kernel
theorem d_Mo_start_114 : decode prog_12_method_18_code 114 = .ok (.invokevirtual 155, 3) := by decide +kernel
theorem d_Mo_start_117 : decode prog_12_method_18_code 117 = .ok (.ifCond .eq 24, 3) := by decide +kernel
theorem d_Mo_start_120 : decode prog_12_method_18_code 120 = .ok (.aload_n 0, 1) := by decide +kernel
theorem d_Mo_start_121 : decode prog_12_method_18_code 121 = .ok (.bipush 6, 2) := by decide +kernel
theorem d_Mo_start_123 : decode prog_12_method_18_code 123 = .ok (.iload 4, 2) := by decide +kernel
theorem d_Mo_start_125 : decode prog_12_method_18_code 125 = .ok (.invokevirtual 138, 3) := by decide +kernel
theorem d_Mo_start_128 : decode prog_12_method_18_code 128 = .ok (.aload_n 0, 1) := by decide +kernel
theorem d_Mo_start_129 : decode prog_12_method_18_code 129 = .ok (.invokevirtual 165, 3) := by decide +kernel
theorem d_Mo_start_132 : decode prog_12_method_18_code 132 = .ok (.ifCond .eq 7, 3) := by decide +kernel
theorem d_Mo_start_135 : decode prog_12_method_18_code 135 = .ok (.iconst 0, 1) := by decide +kernel
theorem d_Mo_start_136 : decode prog_12_method_18_code 136 = .ok (.goto 4, 3) := by decide +kernel
theorem d_Mo_start_139 : decode prog_12_method_18_code 139 = .ok (.iconst (-1), 1) := by decide +kernel
theorem d_Mo_start_140 : decode prog_12_method_18_code 140 = .ok (.ireturn, 1) := by decide +kernel
theorem d_Mo_start_141 : decode prog_12_method_18_code 141 = .ok (.iload 4, 2) := by decide +kernel
theorem d_Mo_start_143 : decode prog_12_method_18_code 143 = .ok (.iconst 5, 1) := by decide +kernel
theorem d_Mo_start_144 : decode prog_12_method_18_code 144 = .ok (.if_icmp .eq 19, 3) := by decide +kernel
theorem d_Mo_start_147 : decode prog_12_method_18_code 147 = .ok (.aload_n 0, 1) := by decide +kernel
theorem d_Mo_start_148 : decode prog_12_method_18_code 148 = .ok (.bipush 63, 2) := by decide +kernel
theorem d_Mo_start_150 : decode prog_12_method_18_code 150 = .ok (.invokevirtual 155, 3) := by decide +kernel
theorem d_Mo_start_153 : decode prog_12_method_18_code 153 = .ok (.ifCond .eq 10, 3) := by decide +kernel
theorem d_Mo_start_156 : decode prog_12_method_18_code 156 = .ok (.aload_n 0, 1) := by decide +kernel
theorem d_Mo_start_157 : decode prog_12_method_18_code 157 = .ok (.invokevirtual 142, 3) := by decide +kernel
theorem d_Mo_start_160 : decode prog_12_method_18_code 160 = .ok (.ifCond .ne 5, 3) := by decide +kernel
theorem d_Mo_start_163 : decode prog_12_method_18_code 163 = .ok (.iconst (-1), 1) := by decide +kernel
theorem d_Mo_start_164 : decode prog_12_method_18_code 164 = .ok (.ireturn, 1) := by decide +kernel
theorem d_Mo_start_165 : decode prog_12_method_18_code 165 = .ok (.aload_n 0, 1) := by decide +kernel
theorem d_Mo_start_166 : decode prog_12_method_18_code 166 = .ok (.bipush 7, 2) := by decide +kernel
theorem d_Mo_start_168 : decode prog_12_method_18_code 168 = .ok (.iload 4, 2) := by decide +kernel
theorem d_Mo_start_170 : decode prog_12_method_18_code 170 = .ok (.invokevirtual 138, 3) := by decide +kernel
theorem d_Mo_start_173 : decode prog_12_method_18_code 173 = .ok (.aload_n 0, 1) := by decide +kernel
theorem d_Mo_start_174 : decode prog_12_method_18_code 174 = .ok (.aload_n 0, 1) := by decide +kernel
theorem d_Mo_start_175 : decode prog_12_method_18_code 175 = .ok (.invokevirtual 124, 3) := by decide +kernel
theorem d_Mo_start_178 : decode prog_12_method_18_code 178 = .ok (.bipush 97, 2) := by decide +kernel
theorem d_Mo_start_180 : decode prog_12_method_18_code 180 = .ok (.isub, 1) := by decide +kernel
theorem d_Mo_start_181 : decode prog_12_method_18_code 181 = .ok (.invokevirtual 131, 3) := by decide +kernel
theorem d_Mo_start_184 : decode prog_12_method_18_code 184 = .ok (.aload_n 0, 1) := by decide +kernel
theorem d_Mo_start_185 : decode prog_12_method_18_code 185 = .ok (.dup, 1) := by decide +kernel
theorem d_Mo_start_186 : decode prog_12_method_18_code 186 = .ok (.getfield 121, 3) := by decide +kernel
theorem d_Mo_start_189 : decode prog_12_method_18_code 189 = .ok (.iconst 1, 1) := by decide +kernel
theorem d_Mo_start_190 : decode prog_12_method_18_code 190 = .ok (.iadd, 1) := by decide +kernel
theorem d_Mo_start_191 : decode prog_12_method_18_code 191 = .ok (.putfield 121, 3) := by decide +kernel
theorem d_Mo_start_194 : decode prog_12_method_18_code 194 = .ok (.iconst 0, 1) := by decide +kernel
theorem d_Mo_start_195 : decode prog_12_method_18_code 195 = .ok (.ireturn, 1) := by decide +kernel
theorem d_Mo_start_196 : decode prog_12_method_18_code 196 = .ok (.iload_n 2, 1) := by decide +kernel
theorem d_Mo_start_197 : decode prog_12_method_18_code 197 = .ok (.ifCond .eq 51, 3) := by decide +kernel
theorem d_Mo_start_200 : decode prog_12_method_18_code 200 = .ok (.iload_n 2, 1) := by decide +kernel
theorem d_Mo_start_201 : decode prog_12_method_18_code 201 = .ok (.bipush 46, 2) := by decide +kernel
theorem d_Mo_start_203 : decode prog_12_method_18_code 203 = .ok (.if_icmp .eq 47, 3) := by decide +kernel
theorem d_Mo_start_206 : decode prog_12_method_18_code 206 = .ok (.iload_n 2, 1) := by decide +kernel
theorem d_Mo_start_207 : decode prog_12_method_18_code 207 = .ok (.bipush 35, 2) := by decide +kernel
theorem d_Mo_start_209 : decode prog_12_method_18_code 209 = .ok (.if_icmp .eq 41, 3) := by decide +kernel
theorem d_Mo_start_212 : decode prog_12_method_18_code 212 = .ok (.iload_n 2, 1) := by decide +kernel
theorem d_Mo_start_213 : decode prog_12_method_18_code 213 = .ok (.bipush 64, 2) := by decide +kernel
theorem d_Mo_start_215 : decode prog_12_method_18_code 215 = .ok (.if_icmp .eq 35, 3) := by decide +kernel
theorem d_Mo_start_218 : decode prog_12_method_18_code 218 = .ok (.iload_n 2, 1) := by decide +kernel
theorem d_Mo_start_219 : decode prog_12_method_18_code 219 = .ok (.bipush 40, 2) := by decide +kernel
theorem d_Mo_start_221 : decode prog_12_method_18_code 221 = .ok (.if_icmp .eq 29, 3) := by decide +kernel
theorem d_Mo_start_224 : decode prog_12_method_18_code 224 = .ok (.iload_n 2, 1) := by decide +kernel
theorem d_Mo_start_225 : decode prog_12_method_18_code 225 = .ok (.bipush 123, 2) := by decide +kernel
theorem d_Mo_start_227 : decode prog_12_method_18_code 227 = .ok (.if_icmp .eq 23, 3) := by decide +kernel
theorem d_Mo_start_230 : decode prog_12_method_18_code 230 = .ok (.iload_n 2, 1) := by decide +kernel
theorem d_Mo_start_231 : decode prog_12_method_18_code 231 = .ok (.bipush 94, 2) := by decide +kernel
theorem d_Mo_start_233 : decode prog_12_method_18_code 233 = .ok (.if_icmp .eq 17, 3) := by decide +kernel
theorem d_Mo_start_236 : decode prog_12_method_18_code 236 = .ok (.iload_n 2, 1) := by decide +kernel
theorem d_Mo_start_237 : decode prog_12_method_18_code 237 = .ok (.bipush 63, 2) := by decide +kernel
theorem d_Mo_start_239 : decode prog_12_method_18_code 239 = .ok (.if_icmp .eq 11, 3) := by decide +kernel
theorem d_Mo_start_242 : decode prog_12_method_18_code 242 = .ok (.iload_n 2, 1) := by decide +kernel
theorem d_Mo_start_243 : decode prog_12_method_18_code 243 = .ok (.bipush 91, 2) := by decide +kernel
theorem d_Mo_start_245 : decode prog_12_method_18_code 245 = .ok (.if_icmp .eq 5, 3) := by decide +kernel
theorem d_Mo_start_248 : decode prog_12_method_18_code 248 = .ok (.iconst (-1), 1) := by decide +kernel
theorem d_Mo_start_249 : decode prog_12_method_18_code 249 = .ok (.ireturn, 1) := by decide +kernel
theorem d_Mo_start_250 : decode prog_12_method_18_code 250 = .ok (.aload_n 0, 1) := by decide +kernel
theorem d_Mo_start_251 : decode prog_12_method_18_code 251 = .ok (.dup, 1) := by decide +kernel
theorem d_Mo_start_252 : decode prog_12_method_18_code 252 = .ok (.getfield 121, 3) := by decide +kernel
theorem d_Mo_start_255 : decode prog_12_method_18_code 255 = .ok (.iconst 1, 1) := by decide +kernel
theorem d_Mo_start_256 : decode prog_12_method_18_code 256 = .ok (.iadd, 1) := by decide +kernel
theorem d_Mo_start_257 : decode prog_12_method_18_code 257 = .ok (.putfield 121, 3) := by decide +kernel
theorem d_Mo_start_260 : decode prog_12_method_18_code 260 = .ok (.iload_n 2, 1) := by decide +kernel
theorem d_Mo_start_261 : decode prog_12_method_18_code 261 = .ok (.bipush 46, 2) := by decide +kernel
theorem d_Mo_start_263 : decode prog_12_method_18_code 263 = .ok (.if_icmp .eq 9, 3) := by decide +kernel
theorem d_Mo_start_266 : decode prog_12_method_18_code 266 = .ok (.iload_n 2, 1) := by decide +kernel
theorem d_Mo_start_267 : decode prog_12_method_18_code 267 = .ok (.bipush 35, 2) := by decide +kernel
theorem d_Mo_start_269 : decode prog_12_method_18_code 269 = .ok (.if_icmp .ne 20, 3) := by decide +kernel
theorem d_Mo_start_272 : decode prog_12_method_18_code 272 = .ok (.aload_n 0, 1) := by decide +kernel
theorem d_Mo_start_273 : decode prog_12_method_18_code 273 = .ok (.iload_n 2, 1) := by decide +kernel
theorem d_Mo_start_274 : decode prog_12_method_18_code 274 = .ok (.bipush 46, 2) := by decide +kernel
theorem d_Mo_start_276 : decode prog_12_method_18_code 276 = .ok (.if_icmp .ne 7, 3) := by decide +kernel
theorem d_Mo_start_279 : decode prog_12_method_18_code 279 = .ok (.iconst 2, 1) := by decide +kernel
theorem d_Mo_start_280 : decode prog_12_method_18_code 280 = .ok (.goto 4, 3) := by decide +kernel
theorem d_Mo_start_283 : decode prog_12_method_18_code 283 = .ok (.iconst 3, 1) := by decide +kernel
theorem d_Mo_start_284 : decode prog_12_method_18_code 284 = .ok (.invokevirtual 131, 3) := by decide +kernel
theorem d_Mo_start_287 : decode prog_12_method_18_code 287 = .ok (.iconst 0, 1) := by decide +kernel
theorem d_Mo_start_288 : decode prog_12_method_18_code 288 = .ok (.ireturn, 1) := by decide +kernel
theorem d_Mo_start_289 : decode prog_12_method_18_code 289 = .ok (.iload_n 2, 1) := by decide +kernel
theorem d_Mo_start_290 : decode prog_12_method_18_code 290 = .ok (.bipush 64, 2) := by decide +kernel
theorem d_Mo_start_292 : decode prog_12_method_18_code 292 = .ok (.if_icmp .ne 22, 3) := by decide +kernel
theorem d_Mo_start_295 : decode prog_12_method_18_code 295 = .ok (.aload_n 0, 1) := by decide +kernel
theorem d_Mo_start_296 : decode prog_12_method_18_code 296 = .ok (.bipush 9, 2) := by decide +kernel
theorem d_Mo_start_298 : decode prog_12_method_18_code 298 = .ok (.invokevirtual 131, 3) := by decide +kernel
theorem d_Mo_start_301 : decode prog_12_method_18_code 301 = .ok (.aload_n 0, 1) := by decide +kernel
theorem d_Mo_start_302 : decode prog_12_method_18_code 302 = .ok (.invokevirtual 165, 3) := by decide +kernel
theorem d_Mo_start_305 : decode prog_12_method_18_code 305 = .ok (.ifCond .eq 7, 3) := by decide +kernel
theorem d_Mo_start_308 : decode prog_12_method_18_code 308 = .ok (.iconst 0, 1) := by decide +kernel
theorem d_Mo_start_309 : decode prog_12_method_18_code 309 = .ok (.goto 4, 3) := by decide +kernel
theorem d_Mo_start_312 : decode prog_12_method_18_code 312 = .ok (.iconst (-1), 1) := by decide +kernel
theorem d_Mo_start_313 : decode prog_12_method_18_code 313 = .ok (.ireturn, 1) := by decide +kernel
theorem d_Mo_start_314 : decode prog_12_method_18_code 314 = .ok (.iload_n 2, 1) := by decide +kernel
theorem d_Mo_start_315 : decode prog_12_method_18_code 315 = .ok (.bipush 40, 2) := by decide +kernel
theorem d_Mo_start_317 : decode prog_12_method_18_code 317 = .ok (.if_icmp .ne 9, 3) := by decide +kernel
theorem d_Mo_start_320 : decode prog_12_method_18_code 320 = .ok (.aload_n 0, 1) := by decide +kernel
theorem d_Mo_start_321 : decode prog_12_method_18_code 321 = .ok (.iconst 1, 1) := by decide +kernel
theorem d_Mo_start_322 : decode prog_12_method_18_code 322 = .ok (.iload_n 3, 1) := by decide +kernel
theorem d_Mo_start_323 : decode prog_12_method_18_code 323 = .ok (.invokevirtual 168, 3) := by decide +kernel
theorem d_Mo_start_326 : decode prog_12_method_18_code 326 = .ok (.iload_n 2, 1) := by decide +kernel
theorem d_Mo_start_327 : decode prog_12_method_18_code 327 = .ok (.bipush 123, 2) := by decide +kernel
theorem d_Mo_start_329 : decode prog_12_method_18_code 329 = .ok (.if_icmp .ne 35, 3) := by decide +kernel
theorem d_Mo_start_332 : decode prog_12_method_18_code 332 = .ok (.aload_n 0, 1) := by decide +kernel
theorem d_Mo_start_333 : decode prog_12_method_18_code 333 = .ok (.iconst 5, 1) := by decide +kernel
theorem d_Mo_start_334 : decode prog_12_method_18_code 334 = .ok (.iconst 0, 1) := by decide +kernel
theorem d_Mo_start_335 : decode prog_12_method_18_code 335 = .ok (.invokevirtual 138, 3) := by decide +kernel
theorem d_Mo_start_338 : decode prog_12_method_18_code 338 = .ok (.iconst 0, 1) := by decide +kernel
theorem d_Mo_start_339 : decode prog_12_method_18_code 339 = .ok (.istore 5, 2) := by decide +kernel
theorem d_Mo_start_341 : decode prog_12_method_18_code 341 = .ok (.iload 5, 2) := by decide +kernel
theorem d_Mo_start_343 : decode prog_12_method_18_code 343 = .ok (.iconst 5, 1) := by decide +kernel
theorem d_Mo_start_344 : decode prog_12_method_18_code 344 = .ok (.if_icmp .ge 14, 3) := by decide +kernel
theorem d_Mo_start_347 : decode prog_12_method_18_code 347 = .ok (.aload_n 0, 1) := by decide +kernel
theorem d_Mo_start_348 : decode prog_12_method_18_code 348 = .ok (.iconst 0, 1) := by decide +kernel
theorem d_Mo_start_349 : decode prog_12_method_18_code 349 = .ok (.invokevirtual 131, 3) := by decide +kernel
theorem d_Mo_start_352 : decode prog_12_method_18_code 352 = .ok (.iinc 5 1, 3) := by decide +kernel
theorem d_Mo_start_355 : decode prog_12_method_18_code 355 = .ok (.goto (-14), 3) := by decide +kernel
theorem d_Mo_start_358 : decode prog_12_method_18_code 358 = .ok (.aload_n 0, 1) := by decide +kernel
theorem d_Mo_start_359 : decode prog_12_method_18_code 359 = .ok (.iconst 2, 1) := by decide +kernel
theorem d_Mo_start_360 : decode prog_12_method_18_code 360 = .ok (.iload_n 3, 1) := by decide +kernel
theorem d_Mo_start_361 : decode prog_12_method_18_code 361 = .ok (.invokevirtual 168, 3) := by decide +kernel
theorem d_Mo_start_364 : decode prog_12_method_18_code 364 = .ok (.iload_n 2, 1) := by decide +kernel
theorem d_Mo_start_365 : decode prog_12_method_18_code 365 = .ok (.bipush 94, 2) := by decide +kernel
theorem d_Mo_start_367 : decode prog_12_method_18_code 367 = .ok (.if_icmp .eq 9, 3) := by decide +kernel
theorem d_Mo_start_370 : decode prog_12_method_18_code 370 = .ok (.iload_n 2, 1) := by decide +kernel
theorem d_Mo_start_371 : decode prog_12_method_18_code 371 = .ok (.bipush 63, 2) := by decide +kernel
theorem d_Mo_start_373 : decode prog_12_method_18_code 373 = .ok (.if_icmp .ne 43, 3) := by decide +kernel
theorem d_Mo_start_376 : decode prog_12_method_18_code 376 = .ok (.aload_n 0, 1) := by decide +kernel
theorem d_Mo_start_377 : decode prog_12_method_18_code 377 = .ok (.iconst 4, 1) := by decide +kernel
theorem d_Mo_start_378 : decode prog_12_method_18_code 378 = .ok (.iconst 0, 1) := by decide +kernel
theorem d_Mo_start_379 : decode prog_12_method_18_code 379 = .ok (.invokevirtual 138, 3) := by decide +kernel
theorem d_Mo_start_382 : decode prog_12_method_18_code 382 = .ok (.aload_n 0, 1) := by decide +kernel
theorem d_Mo_start_383 : decode prog_12_method_18_code 383 = .ok (.invokevirtual 165, 3) := by decide +kernel
theorem d_Mo_start_386 : decode prog_12_method_18_code 386 = .ok (.ifCond .eq 12, 3) := by decide +kernel
theorem d_Mo_start_389 : decode prog_12_method_18_code 389 = .ok (.aload_n 0, 1) := by decide +kernel
theorem d_Mo_start_390 : decode prog_12_method_18_code 390 = .ok (.bipush 44, 2) := by decide +kernel
theorem d_Mo_start_392 : decode prog_12_method_18_code 392 = .ok (.invokevirtual 155, 3) := by decide +kernel
theorem d_Mo_start_395 : decode prog_12_method_18_code 395 = .ok (.ifCond .ne 5, 3) := by decide +kernel
theorem d_Mo_start_398 : decode prog_12_method_18_code 398 = .ok (.iconst (-1), 1) := by decide +kernel
theorem d_Mo_start_399 : decode prog_12_method_18_code 399 = .ok (.ireturn, 1) := by decide +kernel
theorem d_Mo_start_400 : decode prog_12_method_18_code 400 = .ok (.aload_n 0, 1) := by decide +kernel
theorem d_Mo_start_401 : decode prog_12_method_18_code 401 = .ok (.iload_n 2, 1) := by decide +kernel
theorem d_Mo_start_402 : decode prog_12_method_18_code 402 = .ok (.bipush 94, 2) := by decide +kernel
theorem d_Mo_start_404 : decode prog_12_method_18_code 404 = .ok (.if_icmp .ne 7, 3) := by decide +kernel
theorem d_Mo_start_407 : decode prog_12_method_18_code 407 = .ok (.iconst 3, 1) := by decide +kernel
theorem d_Mo_start_408 : decode prog_12_method_18_code 408 = .ok (.goto 4, 3) := by decide +kernel
theorem d_Mo_start_411 : decode prog_12_method_18_code 411 = .ok (.iconst 4, 1) := by decide +kernel
theorem d_Mo_start_412 : decode prog_12_method_18_code 412 = .ok (.iload_n 3, 1) := by decide +kernel
theorem d_Mo_start_413 : decode prog_12_method_18_code 413 = .ok (.invokevirtual 168, 3) := by decide +kernel
theorem d_Mo_start_416 : decode prog_12_method_18_code 416 = .ok (.iload_n 2, 1) := by decide +kernel
theorem d_Mo_start_417 : decode prog_12_method_18_code 417 = .ok (.bipush 91, 2) := by decide +kernel
theorem d_Mo_start_419 : decode prog_12_method_18_code 419 = .ok (.if_icmp .ne 38, 3) := by decide +kernel
theorem d_Mo_start_422 : decode prog_12_method_18_code 422 = .ok (.aload_n 0, 1) := by decide +kernel
theorem d_Mo_start_423 : decode prog_12_method_18_code 423 = .ok (.bipush 8, 2) := by decide +kernel
theorem d_Mo_start_425 : decode prog_12_method_18_code 425 = .ok (.iconst 0, 1) := by decide +kernel
theorem d_Mo_start_426 : decode prog_12_method_18_code 426 = .ok (.invokevirtual 138, 3) := by decide +kernel
theorem d_Mo_start_429 : decode prog_12_method_18_code 429 = .ok (.iconst 0, 1) := by decide +kernel
theorem d_Mo_start_430 : decode prog_12_method_18_code 430 = .ok (.istore 5, 2) := by decide +kernel
theorem d_Mo_start_432 : decode prog_12_method_18_code 432 = .ok (.iload 5, 2) := by decide +kernel
theorem d_Mo_start_434 : decode prog_12_method_18_code 434 = .ok (.bipush 16, 2) := by decide +kernel
theorem d_Mo_start_436 : decode prog_12_method_18_code 436 = .ok (.if_icmp .ge 14, 3) := by decide +kernel
theorem d_Mo_start_439 : decode prog_12_method_18_code 439 = .ok (.aload_n 0, 1) := by decide +kernel
theorem d_Mo_start_440 : decode prog_12_method_18_code 440 = .ok (.iconst 0, 1) := by decide +kernel
theorem d_Mo_start_441 : decode prog_12_method_18_code 441 = .ok (.invokevirtual 131, 3) := by decide +kernel
theorem d_Mo_start_444 : decode prog_12_method_18_code 444 = .ok (.iinc 5 1, 3) := by decide +kernel
theorem d_Mo_start_447 : decode prog_12_method_18_code 447 = .ok (.goto (-15), 3) := by decide +kernel
theorem d_Mo_start_450 : decode prog_12_method_18_code 450 = .ok (.aload_n 0, 1) := by decide +kernel
theorem d_Mo_start_451 : decode prog_12_method_18_code 451 = .ok (.bipush 6, 2) := by decide +kernel
theorem d_Mo_start_453 : decode prog_12_method_18_code 453 = .ok (.iload_n 3, 1) := by decide +kernel
theorem d_Mo_start_454 : decode prog_12_method_18_code 454 = .ok (.invokevirtual 168, 3) := by decide +kernel
theorem d_Mo_start_457 : decode prog_12_method_18_code 457 = .ok (.iconst 1, 1) := by decide +kernel
theorem d_Mo_start_458 : decode prog_12_method_18_code 458 = .ok (.ireturn, 1) := by decide +kernel
/-- the state before a process, or before the end of what is open -/
def m_Tp (f : Nat → Int32) : List m_Lv → Nat → Nat → Prop
  | [], a, nb => m_S1 f [] a nb
  | x :: L, a, nb => ((x.1 = 2 ∨ x.1 = 6) → m_S0 f (x :: L) a nb ∧ (x.1 = 6 → x.2.2.2.2.1 = x.2.2.1)) ∧ (¬ (x.1 = 2 ∨ x.1 = 6) → m_S1 f (x :: L) a nb)
/-- what is open as the arrays hold it -/
def m_ag (A : Nat → Nat → Int32) : List m_Lv → Prop
  | [] => True
  | x :: L => A 11 L.length = Int32.ofNat x.1 ∧ A 12 L.length = Int32.ofNat x.2.1 ∧ A 13 L.length = Int32.ofNat x.2.2.1 ∧ (x.1 = 5 → A 14 (L.length * 4) = Int32.ofNat (x.2.2.2.2.2 0)) ∧ (x.1 = 6 → ∀ i, i < x.2.2.1 → A 14 (L.length * 4 + i) = Int32.ofNat (x.2.2.2.2.2 i)) ∧ x.2.2.1 ≤ 4 ∧ m_ag A L
theorem m_ag.same : ∀ {L : List m_Lv} {A A' : Nat → Nat → Int32}, m_ag A L → (∀ b, b < L.length → A' 11 b = A 11 b ∧ A' 12 b = A 12 b ∧ A' 13 b = A 13 b) → (∀ j, j < L.length * 4 → A' 14 j = A 14 j) → m_ag A' L := by
  intro L
  induction L with
  | nil => intros; trivial
  | cons x L ih =>
    intro A A' h h1 h2
    obtain ⟨a1, a2, a3, a4, a5, a6, a7⟩ := h
    obtain ⟨b1, b2, b3⟩ := h1 L.length (by rw [List.length_cons]; omega)
    refine ⟨b1.trans a1, b2.trans a2, b3.trans a3, fun e => (h2 _ (by rw [List.length_cons]; omega)).trans (a4 e), fun e i hi => (h2 _ (by rw [List.length_cons]; omega)).trans (a5 e i hi), a6, ih a7 (fun b hb => h1 b (by rw [List.length_cons]; omega)) (fun j hj => h2 j (by rw [List.length_cons]; omega))⟩
theorem x_ch_out {v : Int32} (h1 : ¬ x_ch v < 0) (h2 : ¬ x_ch v = 4) : ∃ c : Nat, (c < 4 ∨ c = 5) ∧ x_ch v = Int32.ofNat c := by
  by_cases h3 : x_ch v = 5
  · exact ⟨5, Or.inr rfl, h3⟩
  · obtain ⟨c, hc, ec⟩ := x_ch_ok h1 h3
    refine ⟨c, Or.inl ?_, ec⟩
    rcases Nat.lt_or_ge c 4 with h | h
    · exact h
    · exact absurd (by rw [ec, show c = 4 by omega]; rfl) h2
section XJ
variable {p : Program} {l : Launch} {e : Env} {R : Room} {s : State} {m : MethodId} {args : Array Value} {below : List Frame} {meth : Method} {c : Code} {cells slots : Nat} {Q : State → Prop} {pc : Nat} {rest : List Value} {H : Heap} {locs : List Loc} {ls : Array Slot}
/-- two ways that meet -/
theorem x_meet (pc' : Nat) (C : Prop) {rest' : List Value} (h1 : C → W p l e R s m args below meth c H locs cells slots Q (F0 m pc' ls rest')) (h2 : (C → W p l e R s m args below meth c H locs cells slots Q (F0 m pc' ls rest')) → W p l e R s m args below meth c H locs cells slots Q (F0 m pc ls rest)) : W p l e R s m args below meth c H locs cells slots Q (F0 m pc ls rest) := h2 h1
end XJ
set_option maxHeartbeats 4000000 in
set_option maxRecDepth 100000 in
theorem m_start (l : Launch) (dC : Nat → ClassId) (dI : Nat → Nat → Nat) (ar : Nat → ClassId) (N0 : Nat) (z : Nat → Nat) (h0 : Nat) (ad : Nat → Nat) (I : Nat → Int32) (T : Int64) (A : Nat → Nat → Int32) (U : Nat → Int64) (P S a0 dv nb : Nat) (L : List m_Lv) (sz : Nat) (h6 : I 6 = Int32.ofNat P) (h4 : I 4 = Int32.ofNat S) (hP9 : P ≤ 72) (hS9 : S ≤ 72) (hPS : P ≤ S) (h7 : I 7 = Int32.ofNat a0) (h18 : I 18 = Int32.ofNat L.length) (hdv : dv = L.length + 1) (hL : L.length ≤ 7) (hat : (a0 : Int) ≤ 12 * P + m_sg L) (hst : m_S1 (A 2) L a0 nb) : Met l ({ cls := "ChannelMachineModel", name := "start", desc := "(I)I" } : Jvm.MethodName) ((Jvm.Cond.code ({ cls := "ChannelMachineModel", name := "start", desc := "(I)I" } : Jvm.MethodName) prog_12_method_18_code (6 : Nat) (Option.some Jvm.ClassFile.FieldType.int)) :: x_T) ({ frames := 4, cells := 0, slots := 0, locals := 93 }) (x_Pc (dC, dI) ar N0 z (m_W h0 ad ar I T A U) sz [.ref h0, .int (Int32.ofNat dv)]) (va_Qi (fun (r : Int32) (u : (Nat → Int32) × Int64 × (Nat → Nat → Int32) × (Nat → Int64)) => ∃ P1 : Nat, u.1 6 = Int32.ofNat P1 ∧ P ≤ P1 ∧ P1 ≤ S ∧ m_fr [6, 7, 10, 18] I u.1 ∧ m_fa [2, 11, 12, 13, 15, 16, 17, 19] A u.2.2.1 ∧ u.2.1 = T ∧ u.2.2.2 = U ∧ (r = -1 ∨ (r = 0 ∧ P < P1 ∧ ∃ a1 : Nat, u.1 7 = Int32.ofNat a1 ∧ (a1 : Int) + 3 ≤ 12 * P1 + m_sg L ∧ u.1 18 = Int32.ofNat L.length ∧ u.2.2.1 11 = A 11 ∧ u.2.2.1 12 = A 12 ∧ u.2.2.1 13 = A 13 ∧ m_S1 (u.2.2.1 2) L a1 nb) ∨ (r = 1 ∧ P < P1 ∧ ∃ a1 k : Nat, (k = 1 ∨ k = 2 ∨ k = 3 ∨ k = 4 ∨ k = 6) ∧ u.1 7 = Int32.ofNat a1 ∧ (a1 : Int) ≤ 12 * P1 + m_sg ((k, a0, 0, m_co L, 0, fun _ => 0) :: L) ∧ u.1 18 = Int32.ofNat (L.length + 1) ∧ L.length ≤ 6 ∧ u.2.2.1 11 = upd (A 11) L.length (Int32.ofNat k) ∧ u.2.2.1 12 = upd (A 12) L.length (Int32.ofNat a0) ∧ u.2.2.1 13 = upd (A 13) L.length (Int32.ofNat 0) ∧ m_Tp (u.2.2.1 2) ((k, a0, 0, m_co L, 0, fun _ => 0) :: L) a1 nb))) (fun u t => va_P (dC, dI) x_cl (m_W h0 ad ar u.1 u.2.1 u.2.2.1 u.2.2.2) t.heap) (va_A (m_W h0 ad ar I T A U) sz)) 0 0 (va_A (m_W h0 ad ar I T A U) sz) := by
  refine Met.ofW (cc := prog_12_method_18_code) (maxL := 6) (ret := (some .int)) (by decide) rfl ?_
  intro p e s m args below meth c s₁ B hml hv
  obtain ⟨rfl, hsz, hN0, hP, hU, hZ, hD0⟩ := hv
  have hK := hU.1
  have hx := B.exec
  have hb := B.bytes
  have hr := B.returns
  have hts : ∀ w ∈ x_T, w.before ([.ref h0, .int (Int32.ofNat dv)] : List Value).toArray s = true := fun w h => atoms_spec (ws := (Jvm.Cond.code ({ cls := "ChannelMachineModel", name := "start", desc := "(I)I" } : Jvm.MethodName) prog_12_method_18_code (6 : Nat) (Option.some Jvm.ClassFile.FieldType.int)) :: x_T) B.pre w (List.mem_cons_of_mem _ h)
  have hown : s.vm.findClass "ChannelMachineModel" = some m.cls := findClass_of_methodNamed B.named
  have hlocks := B.notSynchronized
  subst hsz
  have hD := hD0.self (sz := s.heap.size)
  have hAN := x_AN hD0 hN0
  generalize hAe : va_A (m_W h0 ad ar I T A U) s.heap.size = Bq at hD hAN ⊢
  have hA : ∀ q : Nat, s.heap.size ≤ q → Bq q := fun q h => by rw [← hAe]; exact Or.inr h
  have hS : va_S Bq s.heap s.heap [] := va_S.rf
  have hl := lv_entry ([.ref h0, .int (Int32.ofNat dv)]) (n := 6) (Nat.le_of_ble_eq_true rfl)
  rw [lg_entry_eq]
  generalize (lg_sl ([.ref h0, .int (Int32.ofNat dv)]) ++ List.replicate (6 - (lg_sl ([.ref h0, .int (Int32.ofNat dv)])).length) Slot.unset).toArray = ls at hl ⊢
  have hl : lv_has ls 6 [(0, .ref h0), (1, .int (Int32.ofNat dv))] := hl
  have hsg := m_sg_le L
  have ha0 : a0 ≤ 940 := by omega
  refine lv_aload_n hx hb d_Mo_start_0 rfl (lv_at hl 0 rfl) ?_
  have hFc := m_free hD hS hA
  refine va_calli (va_runV (As := []) (rest := []) ⟨hx, hb, hml, hown, hts⟩ (m_look l dC dI ar N0 z h0 ad I T A U P S s.heap.size h6 h4 (by omega) (by omega)) (cwV 0 hts (x_goodV k_1140 k_1142 kp_53 k_9 k_1143) rfl rfl rfl (by decide +kernel) ⟨Nat.le_of_ble_eq_true rfl, Nat.le_of_ble_eq_true rfl⟩) ⟨x_blind, va_recv hK hP (ci := 6) (q0 := 0) rfl rfl, fun U9 hU9 hW9 => x_pre hU9 hW9 hP hD hU hZ hS hAN hN0⟩ rfl rfl hl.1 rfl (lv_room (Nat.le_of_ble_eq_true rfl)) d_Mo_start_1 ⟨Nat.le_of_ble_eq_true rfl, Nat.le_of_ble_eq_true rfl⟩) hS (fun q _ h => hFc q h) hFc (fun r1 u t H1 locs ht hvm hw hB hz1 hk1 hS => ?_)
  obtain ⟨I3, T3, A3, U3⟩ := u
  dsimp only at hw hB
  rw [ht] at hB
  have hP : va_P (dC, dI) x_cl (m_W h0 ad ar I3 T3 A3 U3) H1 := hB
  have hD : va_D Bq (m_W h0 ad ar I3 T3 A3 U3) := m_D hD
  generalize H1 = H at hP hS ⊢
  refine W.widen (k := 0) (n := 0) (Nat.le_of_ble_eq_true rfl) (Nat.le_of_ble_eq_true rfl) ?_
  obtain ⟨h9, hk4⟩ := hw
  cases h9
  refine lv_istore_n (lv' := [(2, .int r1), (0, .ref h0), (1, .int (Int32.ofNat dv))]) hx hb d_Mo_start_4 rfl hl (by decide) rfl (fun ls hl => ?_)
  refine lv_aload_n hx hb d_Mo_start_5 rfl (lv_at hl 1 rfl) ?_
  refine m_g hx hb hts hown hK hP 7 (by decide) rfl (hts _ k_974) (v := .int (Int32.ofNat a0)) (congrArg Value.int h7) d_Mo_start_6 ?_
  refine lv_istore_n (lv' := [(3, .int (Int32.ofNat a0)), (2, .int r1), (0, .ref h0), (1, .int (Int32.ofNat dv))]) hx hb d_Mo_start_9 rfl hl (by decide) rfl (fun ls hl => ?_)
  refine lv_iload_n hx hb d_Mo_start_10 rfl (lv_at hl 1 rfl) ?_
  have hFc := m_free hD hS hA
  refine va_calli (va_runS (As := [.int r1]) (rest := []) ⟨hx, hb, hml, hown, hts⟩ (c_Mo_channelOf l dC dI ar N0 z (r1) H.size) (cwS 1 hts (x_goodS k_1179 k_1180 k_9 k_1181) rfl rfl rfl (by decide +kernel) ⟨Nat.le_of_ble_eq_true rfl, Nat.le_of_ble_eq_true rfl⟩) ⟨x_blind, fun U9 hU9 hW9 => x_pre (ws := []) hU9 hW9 (fun k q h => by simp at h) (⟨fun i j p q h => by simp at h, fun k q h => by simp at h⟩ : va_D Bq []) hU hZ hS hAN hN0⟩ rfl rfl hl.1 rfl (lv_room (Nat.le_of_ble_eq_true rfl)) d_Mo_start_11 ⟨Nat.le_of_ble_eq_true rfl, Nat.le_of_ble_eq_true rfl⟩) hS (fun q _ h => hA q (Nat.le_trans hS.1 (h.elim (fun ⟨k, e9, hk⟩ => by simp at hk) id))) (fun q h => hA q (Nat.le_trans hS.1 (h.elim (fun ⟨k, e9, hk⟩ => by simp at hk) id))) (fun r5 u t H1 locs ht hvm hw hB hz1 hk1 hS => ?_)
  have hP : va_P (dC, dI) x_cl (m_W h0 ad ar I T A U) H1 := fun k q hk => (hP k q hk).kept (hk1 q.1 ((hP k q hk).lt) (fun h9 => h9.elim (fun ⟨k, e9, hk⟩ => by simp at hk) (fun h8 => absurd (hP k q hk).lt (Nat.not_lt.mpr h8))))
  generalize H1 = H at hP hS ⊢
  refine W.widen (k := 0) (n := 0) (Nat.le_of_ble_eq_true rfl) (Nat.le_of_ble_eq_true rfl) ?_
  obtain rfl := hw
  refine lv_istore (lv' := [(4, .int (x_ch r1)), (3, .int (Int32.ofNat a0)), (2, .int r1), (0, .ref h0), (1, .int (Int32.ofNat dv))]) hx hb d_Mo_start_14 hl (by decide) rfl (fun ls hl => ?_)
  refine x_meet 42 (L.length ≤ 6) (rest' := []) (fun hL6 => ?_) (fun key => ?_)
  · refine lv_aload_n hx hb d_Mo_start_42 rfl (lv_at hl 3 rfl) ?_
    have hFc := m_free hD hS hA
    refine va_calli (va_runV (As := []) (rest := []) ⟨hx, hb, hml, hown, hts⟩ (m_isVariable l dC dI ar N0 z h0 ad I T A U P S H.size h6 h4 (by omega) (by omega)) (cwV 0 hts (x_goodV k_1164 k_1166 kp_59 k_9 k_1167) rfl rfl rfl (by decide +kernel) ⟨Nat.le_of_ble_eq_true rfl, Nat.le_of_ble_eq_true rfl⟩) ⟨x_blind, va_recv hK hP (ci := 6) (q0 := 0) rfl rfl, fun U9 hU9 hW9 => x_pre hU9 hW9 hP hD hU hZ hS hAN hN0⟩ rfl rfl hl.1 rfl (lv_room (Nat.le_of_ble_eq_true rfl)) d_Mo_start_43 ⟨Nat.le_of_ble_eq_true rfl, Nat.le_of_ble_eq_true rfl⟩) hS (fun q _ h => hFc q h) hFc (fun r7 u t H1 locs ht hvm hw hB hz1 hk1 hS => ?_)
    obtain ⟨I9, T9, A9, U9⟩ := u
    dsimp only at hw hB
    rw [ht] at hB
    have hP : va_P (dC, dI) x_cl (m_W h0 ad ar I9 T9 A9 U9) H1 := hB
    have hD : va_D Bq (m_W h0 ad ar I9 T9 A9 U9) := m_D hD
    generalize H1 = H at hP hS ⊢
    refine W.widen (k := 0) (n := 0) (Nat.le_of_ble_eq_true rfl) (Nat.le_of_ble_eq_true rfl) ?_
    obtain ⟨h9, hw⟩ := hw
    cases h9
    rcases hw with ⟨v10, rfl⟩ | ⟨v10, rfl⟩
    · have v10 := v10
      refine lv_if_eq (tgt := 90) hx hb d_Mo_start_46 (by decide) (fun c11 => absurd c11 (by decide)) (fun _ => ?_)
      have hlt : P < S := m_lkv v10
      refine lv_aload_n hx hb d_Mo_start_49 rfl (lv_at hl 3 rfl) ?_
      refine lv_dup hx hb d_Mo_start_50 rfl ?_
      refine m_g hx hb hts hown hK hP 6 (by decide) rfl (hts _ k_973) (v := .int (Int32.ofNat P)) (congrArg Value.int h6) d_Mo_start_51 ?_
      refine lv_iconst (v := 1) hx hb d_Mo_start_54 (by decide) ?_
      refine lv_iadd hx hb d_Mo_start_55 ?_
      refine W.eq (g2 := F0 m 56 ls [.int (Int32.ofNat (P + 1)), .ref h0]) (by rw [← x_addN (a := P) (b := 1)] <;> rfl) ?_
      refine m_p hx hb hts hown hK hP hD hS 6 (by decide) rfl (hts _ k_973) rfl (by decide +kernel) rfl (by decide) (x := (Int32.ofNat (P + 1))) d_Mo_start_56 (fun H locs hP hD hS => ?_)
      refine lv_aload_n hx hb d_Mo_start_59 rfl (lv_at hl 3 rfl) ?_
      refine lv_iconst (v := 1) hx hb d_Mo_start_60 (by decide) ?_
      refine lv_iload_n hx hb d_Mo_start_61 rfl (lv_at hl 2 rfl) ?_
      refine lv_bipush (v := 97) hx hb d_Mo_start_62 (by decide) ?_
      obtain ⟨v9, hv9, ev9⟩ := m_var (c := r1) (by rw [hk4]; exact v10)
      refine lv_isub hx hb d_Mo_start_64 ?_
      refine W.eq (g2 := F0 m 65 ls [.int (Int32.ofNat v9), .int 1, .ref h0]) (by rw [ev9]) ?_
      have hFc := m_free hD hS hA
      refine va_callv (va_runV (As := [.int 1, .int (Int32.ofNat v9)]) (rest := []) ⟨hx, hb, hml, hown, hts⟩ (m_emit2 l dC dI ar N0 z h0 ad (upd I 6 (Int32.ofNat (P + 1))) T A U a0 (1) ((Int32.ofNat v9)) H.size h7 (by omega)) (cwV 2 hts (x_goodV k_1152 k_1154 kp_56 k_9 k_1155) rfl rfl rfl (by decide +kernel) ⟨Nat.le_of_ble_eq_true rfl, Nat.le_of_ble_eq_true rfl⟩) ⟨x_blind, va_recv hK hP (ci := 6) (q0 := 0) rfl rfl, fun U9 hU9 hW9 => x_pre hU9 hW9 hP hD hU hZ hS hAN hN0⟩ rfl rfl hl.1 rfl (lv_room (Nat.le_of_ble_eq_true rfl)) d_Mo_start_65 ⟨Nat.le_of_ble_eq_true rfl, Nat.le_of_ble_eq_true rfl⟩) hS (fun q _ h => hFc q h) hFc (fun u t H1 locs ht hvm hw hB hz1 hk1 hS => ?_)
      obtain ⟨I13, T13, A13, U13⟩ := u
      dsimp only at hw hB
      rw [ht] at hB
      have hP : va_P (dC, dI) x_cl (m_W h0 ad ar I13 T13 A13 U13) H1 := hB
      have hD : va_D Bq (m_W h0 ad ar I13 T13 A13 U13) := m_D hD
      generalize H1 = H at hP hS ⊢
      refine W.widen (k := 0) (n := 0) (Nat.le_of_ble_eq_true rfl) (Nat.le_of_ble_eq_true rfl) ?_
      cases hw
      refine lv_aload_n hx hb d_Mo_start_68 rfl (lv_at hl 3 rfl) ?_
      refine lv_bipush (v := 58) hx hb d_Mo_start_69 (by decide) ?_
      have hFc := m_free hD hS hA
      refine va_calli (va_runV (As := [.int 58]) (rest := []) ⟨hx, hb, hml, hown, hts⟩ (m_passes l dC dI ar N0 z h0 ad (upd (upd I 6 (Int32.ofNat (P + 1))) 7 (Int32.ofNat (a0 + 2))) T (m_up A 2 (upd (upd (A 2) a0 1) (a0 + 1) (Int32.ofNat v9))) U ((P + 1)) S (58) H.size rfl h4 (by omega) (by omega)) (cwV 1 hts (x_goodV k_1136 k_1138 kp_52 k_9 k_1139) rfl rfl rfl (by decide +kernel) ⟨Nat.le_of_ble_eq_true rfl, Nat.le_of_ble_eq_true rfl⟩) ⟨x_blind, va_recv hK hP (ci := 6) (q0 := 0) rfl rfl, fun U9 hU9 hW9 => x_pre hU9 hW9 hP hD hU hZ hS hAN hN0⟩ rfl rfl hl.1 rfl (lv_room (Nat.le_of_ble_eq_true rfl)) d_Mo_start_71 ⟨Nat.le_of_ble_eq_true rfl, Nat.le_of_ble_eq_true rfl⟩) hS (fun q _ h => hFc q h) hFc (fun r14 u t H1 locs ht hvm hw hB hz1 hk1 hS => ?_)
      obtain ⟨I16, T16, A16, U16⟩ := u
      dsimp only at hw hB
      rw [ht] at hB
      have hP : va_P (dC, dI) x_cl (m_W h0 ad ar I16 T16 A16 U16) H1 := hB
      have hD : va_D Bq (m_W h0 ad ar I16 T16 A16 U16) := m_D hD
      generalize H1 = H at hP hS ⊢
      refine W.widen (k := 0) (n := 0) (Nat.le_of_ble_eq_true rfl) (Nat.le_of_ble_eq_true rfl) ?_
      rcases hw with ⟨p17, rfl, h9⟩ | ⟨p17, rfl, h9⟩
      · cases h9
        have hpp17 : (P + 1) < S := m_lk0 (by rw [p17]; decide)
        refine lv_if_eq (tgt := 88) hx hb d_Mo_start_74 (by decide) (fun c18 => absurd c18 (by decide)) (fun _ => ?_)
        refine lv_aload_n hx hb d_Mo_start_77 rfl (lv_at hl 3 rfl) ?_
        have hFc := m_free hD hS hA
        refine va_calli (va_runV (As := []) (rest := []) ⟨hx, hb, hml, hown, hts⟩ (m_expression l dC dI ar N0 z h0 ad (upd (upd (upd I 6 (Int32.ofNat (P + 1))) 7 (Int32.ofNat (a0 + 2))) 6 (Int32.ofNat ((P + 1) + 1))) T (m_up A 2 (upd (upd (A 2) a0 1) (a0 + 1) (Int32.ofNat v9))) U (((P + 1) + 1)) S ((a0 + 2)) H.size rfl h4 (by omega) (by omega) (by omega) rfl (by omega)) (cwV 0 hts (x_goodV k_1160 k_1162 kp_58 k_9 k_1163) rfl rfl rfl (by decide +kernel) ⟨Nat.le_of_ble_eq_true rfl, Nat.le_of_ble_eq_true rfl⟩) ⟨x_blind, va_recv hK hP (ci := 6) (q0 := 0) rfl rfl, fun U9 hU9 hW9 => x_pre hU9 hW9 hP hD hU hZ hS hAN hN0⟩ rfl rfl hl.1 rfl (lv_room (Nat.le_of_ble_eq_true rfl)) d_Mo_start_78 ⟨Nat.le_of_ble_eq_true rfl, Nat.le_of_ble_eq_true rfl⟩) hS (fun q _ h => hFc q h) hFc (fun r19 u t H1 locs ht hvm hw hB hz1 hk1 hS => ?_)
        obtain ⟨I21, T21, A21, U21⟩ := u
        dsimp only at hw hB
        rw [ht] at hB
        have hP : va_P (dC, dI) x_cl (m_W h0 ad ar I21 T21 A21 U21) H1 := hB
        have hD : va_D Bq (m_W h0 ad ar I21 T21 A21 U21) := m_D hD
        generalize H1 = H at hP hS ⊢
        refine W.widen (k := 0) (n := 0) (Nat.le_of_ble_eq_true rfl) (Nat.le_of_ble_eq_true rfl) ?_
        obtain ⟨P22, a22, i622, p122, p222, hfr22, hfa22, eT, eU, hres⟩ := hw
        cases eT
        cases eU
        rcases hres with rfl | ⟨rfl, p322, i722, l122, l222, tk22, ov22, lw22⟩
        · refine lv_if_eq (tgt := 88) hx hb d_Mo_start_81 (by decide) (fun _ => ?_) (fun c23 => absurd (by decide) c23)
          refine lv_iconst (v := (-1)) hx hb d_Mo_start_88 (by decide) ?_
          refine W.widen (k := 0) (n := 0) (Nat.le_of_ble_eq_true rfl) (Nat.le_of_ble_eq_true rfl) ?_
          exact W.iret (v := (-1)) hx hb hr (fun t ht hW => ⟨⟨(-1), (I21, T, A21, U), rfl, ⟨P22, i622, by omega, by omega, (((((m_fr.rf.up (by decide) _).up (by decide) _).up (by decide) _)).tr hfr22 (by decide)), (((m_fa.rf.up (by decide) _)).tr hfa22 (by decide)), rfl, rfl, Or.inl rfl⟩, by dsimp only; rw [ht]; exact hP⟩, hS.F ht⟩) hS.2.2 d_Mo_start_89
        · refine lv_if_eq (tgt := 88) hx hb d_Mo_start_81 (by decide) (fun c24 => absurd c24 (by decide)) (fun _ => ?_)
          refine lv_iconst (v := 0) hx hb d_Mo_start_84 (by decide) ?_
          refine lv_goto (tgt := 89) hx hb d_Mo_start_85 (by decide) ?_
          refine W.widen (k := 0) (n := 0) (Nat.le_of_ble_eq_true rfl) (Nat.le_of_ble_eq_true rfl) ?_
          exact W.iret (v := 0) hx hb hr (fun t ht hW => ⟨⟨0, (I21, T, A21, U), rfl, ⟨P22, i622, by omega, by omega, (((((m_fr.rf.up (by decide) _).up (by decide) _).up (by decide) _)).tr hfr22 (by decide)), (((m_fa.rf.up (by decide) _)).tr hfa22 (by decide)), rfl, rfl, Or.inr (Or.inl ⟨rfl, by omega, (a22 + 1), i722, by omega, ((hfr22 18 (by decide)).trans h18), hfa22 11 (by decide), hfa22 12 (by decide), hfa22 13 (by decide), hst.assign hv9 (by dsimp only; rw [lw22 _ (by omega), m_up_s, upd_n (by omega), upd_s]) (by dsimp only; rw [lw22 _ (by omega), m_up_s, upd_s]) (tk22.mono (by omega)) ov22 (fun j hj => by dsimp only; rw [lw22 j (by omega), m_up_s, upd_n (by omega), upd_n (by omega)])⟩)⟩, by dsimp only; rw [ht]; exact hP⟩, hS.F ht⟩) hS.2.2 d_Mo_start_89
      · cases h9
        refine lv_if_eq (tgt := 88) hx hb d_Mo_start_74 (by decide) (fun _ => ?_) (fun c25 => absurd (by decide) c25)
        refine lv_iconst (v := (-1)) hx hb d_Mo_start_88 (by decide) ?_
        refine W.widen (k := 0) (n := 0) (Nat.le_of_ble_eq_true rfl) (Nat.le_of_ble_eq_true rfl) ?_
        exact W.iret (v := (-1)) hx hb hr (fun t ht hW => ⟨⟨(-1), ((upd (upd I 6 (Int32.ofNat (P + 1))) 7 (Int32.ofNat (a0 + 2))), T, (m_up A 2 (upd (upd (A 2) a0 1) (a0 + 1) (Int32.ofNat v9))), U), rfl, ⟨(P + 1), rfl, by omega, by omega, ((m_fr.rf.up (by decide) _).up (by decide) _), (m_fa.rf.up (by decide) _), rfl, rfl, Or.inl rfl⟩, by dsimp only; rw [ht]; exact hP⟩, hS.F ht⟩) hS.2.2 d_Mo_start_89
    · have v10 := v10
      refine lv_if_eq (tgt := 90) hx hb d_Mo_start_46 (by decide) (fun _ => ?_) (fun c26 => absurd (by decide) c26)
      refine lv_iload hx hb d_Mo_start_90 (lv_at hl 0 rfl) ?_
      refine lv_if_lt (tgt := 196) hx hb d_Mo_start_92 (by decide) (fun c27 => ?_) (fun c27 => ?_)
      · refine lv_iload_n hx hb d_Mo_start_196 rfl (lv_at hl 2 rfl) ?_
        refine lv_if_eq (tgt := 248) hx hb d_Mo_start_197 (by decide) (fun c28 => ?_) (fun c28 => ?_)
        · refine lv_iconst (v := (-1)) hx hb d_Mo_start_248 (by decide) ?_
          refine W.widen (k := 0) (n := 0) (Nat.le_of_ble_eq_true rfl) (Nat.le_of_ble_eq_true rfl) ?_
          exact W.iret (v := (-1)) hx hb hr (fun t ht hW => ⟨⟨(-1), (I, T, A, U), rfl, ⟨P, h6, by omega, by omega, m_fr.rf, m_fa.rf, rfl, rfl, Or.inl rfl⟩, by dsimp only; rw [ht]; exact hP⟩, hS.F ht⟩) hS.2.2 d_Mo_start_249
        · refine lv_iload_n hx hb d_Mo_start_200 rfl (lv_at hl 2 rfl) ?_
          refine lv_bipush (v := 46) hx hb d_Mo_start_201 (by decide) ?_
          refine lv_icmp_eq (tgt := 250) hx hb d_Mo_start_203 (by decide) (fun c29 => ?_) (fun c29 => ?_)
          · have hlt : P < S := m_lke hk4 c29 (by decide)
            refine lv_aload_n hx hb d_Mo_start_250 rfl (lv_at hl 3 rfl) ?_
            refine lv_dup hx hb d_Mo_start_251 rfl ?_
            refine m_g hx hb hts hown hK hP 6 (by decide) rfl (hts _ k_973) (v := .int (Int32.ofNat P)) (congrArg Value.int h6) d_Mo_start_252 ?_
            refine lv_iconst (v := 1) hx hb d_Mo_start_255 (by decide) ?_
            refine lv_iadd hx hb d_Mo_start_256 ?_
            refine W.eq (g2 := F0 m 257 ls [.int (Int32.ofNat (P + 1)), .ref h0]) (by rw [← x_addN (a := P) (b := 1)] <;> rfl) ?_
            refine m_p hx hb hts hown hK hP hD hS 6 (by decide) rfl (hts _ k_973) rfl (by decide +kernel) rfl (by decide) (x := (Int32.ofNat (P + 1))) d_Mo_start_257 (fun H locs hP hD hS => ?_)
            refine lv_iload_n hx hb d_Mo_start_260 rfl (lv_at hl 2 rfl) ?_
            refine lv_bipush (v := 46) hx hb d_Mo_start_261 (by decide) ?_
            refine lv_icmp_eq (tgt := 272) hx hb d_Mo_start_263 (by decide) (fun _ => ?_) (fun c30 => absurd c29 c30)
            refine lv_aload_n hx hb d_Mo_start_272 rfl (lv_at hl 3 rfl) ?_
            refine lv_iload_n hx hb d_Mo_start_273 rfl (lv_at hl 2 rfl) ?_
            refine lv_bipush (v := 46) hx hb d_Mo_start_274 (by decide) ?_
            refine lv_icmp_ne (tgt := 283) hx hb d_Mo_start_276 (by decide) (fun c31 => absurd c29 c31) (fun _ => ?_)
            refine lv_iconst (v := 2) hx hb d_Mo_start_279 (by decide) ?_
            refine lv_goto (tgt := 284) hx hb d_Mo_start_280 (by decide) ?_
            have hFc := m_free hD hS hA
            refine va_callv (va_runV (As := [.int 2]) (rest := []) ⟨hx, hb, hml, hown, hts⟩ (m_emit l dC dI ar N0 z h0 ad (upd I 6 (Int32.ofNat (P + 1))) T A U a0 (2) H.size h7 (by omega)) (cwV 1 hts (x_goodV k_1148 k_1150 kp_55 k_9 k_1151) rfl rfl rfl (by decide +kernel) ⟨Nat.le_of_ble_eq_true rfl, Nat.le_of_ble_eq_true rfl⟩) ⟨x_blind, va_recv hK hP (ci := 6) (q0 := 0) rfl rfl, fun U9 hU9 hW9 => x_pre hU9 hW9 hP hD hU hZ hS hAN hN0⟩ rfl rfl hl.1 rfl (lv_room (Nat.le_of_ble_eq_true rfl)) d_Mo_start_284 ⟨Nat.le_of_ble_eq_true rfl, Nat.le_of_ble_eq_true rfl⟩) hS (fun q _ h => hFc q h) hFc (fun u t H1 locs ht hvm hw hB hz1 hk1 hS => ?_)
            obtain ⟨I33, T33, A33, U33⟩ := u
            dsimp only at hw hB
            rw [ht] at hB
            have hP : va_P (dC, dI) x_cl (m_W h0 ad ar I33 T33 A33 U33) H1 := hB
            have hD : va_D Bq (m_W h0 ad ar I33 T33 A33 U33) := m_D hD
            generalize H1 = H at hP hS ⊢
            refine W.widen (k := 0) (n := 0) (Nat.le_of_ble_eq_true rfl) (Nat.le_of_ble_eq_true rfl) ?_
            cases hw
            refine lv_iconst (v := 0) hx hb d_Mo_start_287 (by decide) ?_
            refine W.widen (k := 0) (n := 0) (Nat.le_of_ble_eq_true rfl) (Nat.le_of_ble_eq_true rfl) ?_
            exact W.iret (v := 0) hx hb hr (fun t ht hW => ⟨⟨0, ((upd (upd I 6 (Int32.ofNat (P + 1))) 7 (Int32.ofNat (a0 + 1))), T, (m_up A 2 (upd (A 2) a0 2)), U), rfl, ⟨(P + 1), rfl, by omega, by omega, ((m_fr.rf.up (by decide) _).up (by decide) _), (m_fa.rf.up (by decide) _), rfl, rfl, Or.inr (Or.inl ⟨rfl, by omega, (a0 + 1), rfl, by omega, h18, rfl, rfl, rfl, hst.nothing (by dsimp only; rw [m_up_s, upd_s]) (fun j hj => by dsimp only; rw [m_up_s, upd_n (by omega)])⟩)⟩, by dsimp only; rw [ht]; exact hP⟩, hS.F ht⟩) hS.2.2 d_Mo_start_288
          · refine lv_iload_n hx hb d_Mo_start_206 rfl (lv_at hl 2 rfl) ?_
            refine lv_bipush (v := 35) hx hb d_Mo_start_207 (by decide) ?_
            refine lv_icmp_eq (tgt := 250) hx hb d_Mo_start_209 (by decide) (fun c34 => ?_) (fun c34 => ?_)
            · have hlt : P < S := m_lke hk4 c34 (by decide)
              refine lv_aload_n hx hb d_Mo_start_250 rfl (lv_at hl 3 rfl) ?_
              refine lv_dup hx hb d_Mo_start_251 rfl ?_
              refine m_g hx hb hts hown hK hP 6 (by decide) rfl (hts _ k_973) (v := .int (Int32.ofNat P)) (congrArg Value.int h6) d_Mo_start_252 ?_
              refine lv_iconst (v := 1) hx hb d_Mo_start_255 (by decide) ?_
              refine lv_iadd hx hb d_Mo_start_256 ?_
              refine W.eq (g2 := F0 m 257 ls [.int (Int32.ofNat (P + 1)), .ref h0]) (by rw [← x_addN (a := P) (b := 1)] <;> rfl) ?_
              refine m_p hx hb hts hown hK hP hD hS 6 (by decide) rfl (hts _ k_973) rfl (by decide +kernel) rfl (by decide) (x := (Int32.ofNat (P + 1))) d_Mo_start_257 (fun H locs hP hD hS => ?_)
              refine lv_iload_n hx hb d_Mo_start_260 rfl (lv_at hl 2 rfl) ?_
              refine lv_bipush (v := 46) hx hb d_Mo_start_261 (by decide) ?_
              refine lv_icmp_eq (tgt := 272) hx hb d_Mo_start_263 (by decide) (fun c35 => absurd c35 c29) (fun _ => ?_)
              refine lv_iload_n hx hb d_Mo_start_266 rfl (lv_at hl 2 rfl) ?_
              refine lv_bipush (v := 35) hx hb d_Mo_start_267 (by decide) ?_
              refine lv_icmp_ne (tgt := 289) hx hb d_Mo_start_269 (by decide) (fun c36 => absurd c34 c36) (fun _ => ?_)
              refine lv_aload_n hx hb d_Mo_start_272 rfl (lv_at hl 3 rfl) ?_
              refine lv_iload_n hx hb d_Mo_start_273 rfl (lv_at hl 2 rfl) ?_
              refine lv_bipush (v := 46) hx hb d_Mo_start_274 (by decide) ?_
              refine lv_icmp_ne (tgt := 283) hx hb d_Mo_start_276 (by decide) (fun _ => ?_) (fun c37 => absurd c37 c29)
              refine lv_iconst (v := 3) hx hb d_Mo_start_283 (by decide) ?_
              have hFc := m_free hD hS hA
              refine va_callv (va_runV (As := [.int 3]) (rest := []) ⟨hx, hb, hml, hown, hts⟩ (m_emit l dC dI ar N0 z h0 ad (upd I 6 (Int32.ofNat (P + 1))) T A U a0 (3) H.size h7 (by omega)) (cwV 1 hts (x_goodV k_1148 k_1150 kp_55 k_9 k_1151) rfl rfl rfl (by decide +kernel) ⟨Nat.le_of_ble_eq_true rfl, Nat.le_of_ble_eq_true rfl⟩) ⟨x_blind, va_recv hK hP (ci := 6) (q0 := 0) rfl rfl, fun U9 hU9 hW9 => x_pre hU9 hW9 hP hD hU hZ hS hAN hN0⟩ rfl rfl hl.1 rfl (lv_room (Nat.le_of_ble_eq_true rfl)) d_Mo_start_284 ⟨Nat.le_of_ble_eq_true rfl, Nat.le_of_ble_eq_true rfl⟩) hS (fun q _ h => hFc q h) hFc (fun u t H1 locs ht hvm hw hB hz1 hk1 hS => ?_)
              obtain ⟨I39, T39, A39, U39⟩ := u
              dsimp only at hw hB
              rw [ht] at hB
              have hP : va_P (dC, dI) x_cl (m_W h0 ad ar I39 T39 A39 U39) H1 := hB
              have hD : va_D Bq (m_W h0 ad ar I39 T39 A39 U39) := m_D hD
              generalize H1 = H at hP hS ⊢
              refine W.widen (k := 0) (n := 0) (Nat.le_of_ble_eq_true rfl) (Nat.le_of_ble_eq_true rfl) ?_
              cases hw
              refine lv_iconst (v := 0) hx hb d_Mo_start_287 (by decide) ?_
              refine W.widen (k := 0) (n := 0) (Nat.le_of_ble_eq_true rfl) (Nat.le_of_ble_eq_true rfl) ?_
              exact W.iret (v := 0) hx hb hr (fun t ht hW => ⟨⟨0, ((upd (upd I 6 (Int32.ofNat (P + 1))) 7 (Int32.ofNat (a0 + 1))), T, (m_up A 2 (upd (A 2) a0 3)), U), rfl, ⟨(P + 1), rfl, by omega, by omega, ((m_fr.rf.up (by decide) _).up (by decide) _), (m_fa.rf.up (by decide) _), rfl, rfl, Or.inr (Or.inl ⟨rfl, by omega, (a0 + 1), rfl, by omega, h18, rfl, rfl, rfl, hst.stop (by dsimp only; rw [m_up_s, upd_s]) (fun j hj => by dsimp only; rw [m_up_s, upd_n (by omega)])⟩)⟩, by dsimp only; rw [ht]; exact hP⟩, hS.F ht⟩) hS.2.2 d_Mo_start_288
            · refine lv_iload_n hx hb d_Mo_start_212 rfl (lv_at hl 2 rfl) ?_
              refine lv_bipush (v := 64) hx hb d_Mo_start_213 (by decide) ?_
              refine lv_icmp_eq (tgt := 250) hx hb d_Mo_start_215 (by decide) (fun c40 => ?_) (fun c40 => ?_)
              · have hlt : P < S := m_lke hk4 c40 (by decide)
                refine lv_aload_n hx hb d_Mo_start_250 rfl (lv_at hl 3 rfl) ?_
                refine lv_dup hx hb d_Mo_start_251 rfl ?_
                refine m_g hx hb hts hown hK hP 6 (by decide) rfl (hts _ k_973) (v := .int (Int32.ofNat P)) (congrArg Value.int h6) d_Mo_start_252 ?_
                refine lv_iconst (v := 1) hx hb d_Mo_start_255 (by decide) ?_
                refine lv_iadd hx hb d_Mo_start_256 ?_
                refine W.eq (g2 := F0 m 257 ls [.int (Int32.ofNat (P + 1)), .ref h0]) (by rw [← x_addN (a := P) (b := 1)] <;> rfl) ?_
                refine m_p hx hb hts hown hK hP hD hS 6 (by decide) rfl (hts _ k_973) rfl (by decide +kernel) rfl (by decide) (x := (Int32.ofNat (P + 1))) d_Mo_start_257 (fun H locs hP hD hS => ?_)
                refine lv_iload_n hx hb d_Mo_start_260 rfl (lv_at hl 2 rfl) ?_
                refine lv_bipush (v := 46) hx hb d_Mo_start_261 (by decide) ?_
                refine lv_icmp_eq (tgt := 272) hx hb d_Mo_start_263 (by decide) (fun c41 => absurd c41 c29) (fun _ => ?_)
                refine lv_iload_n hx hb d_Mo_start_266 rfl (lv_at hl 2 rfl) ?_
                refine lv_bipush (v := 35) hx hb d_Mo_start_267 (by decide) ?_
                refine lv_icmp_ne (tgt := 289) hx hb d_Mo_start_269 (by decide) (fun _ => ?_) (fun c42 => absurd c42 c34)
                refine lv_iload_n hx hb d_Mo_start_289 rfl (lv_at hl 2 rfl) ?_
                refine lv_bipush (v := 64) hx hb d_Mo_start_290 (by decide) ?_
                refine lv_icmp_ne (tgt := 314) hx hb d_Mo_start_292 (by decide) (fun c43 => absurd c40 c43) (fun _ => ?_)
                refine lv_aload_n hx hb d_Mo_start_295 rfl (lv_at hl 3 rfl) ?_
                refine lv_bipush (v := 9) hx hb d_Mo_start_296 (by decide) ?_
                have hFc := m_free hD hS hA
                refine va_callv (va_runV (As := [.int 9]) (rest := []) ⟨hx, hb, hml, hown, hts⟩ (m_emit l dC dI ar N0 z h0 ad (upd I 6 (Int32.ofNat (P + 1))) T A U a0 (9) H.size h7 (by omega)) (cwV 1 hts (x_goodV k_1148 k_1150 kp_55 k_9 k_1151) rfl rfl rfl (by decide +kernel) ⟨Nat.le_of_ble_eq_true rfl, Nat.le_of_ble_eq_true rfl⟩) ⟨x_blind, va_recv hK hP (ci := 6) (q0 := 0) rfl rfl, fun U9 hU9 hW9 => x_pre hU9 hW9 hP hD hU hZ hS hAN hN0⟩ rfl rfl hl.1 rfl (lv_room (Nat.le_of_ble_eq_true rfl)) d_Mo_start_298 ⟨Nat.le_of_ble_eq_true rfl, Nat.le_of_ble_eq_true rfl⟩) hS (fun q _ h => hFc q h) hFc (fun u t H1 locs ht hvm hw hB hz1 hk1 hS => ?_)
                obtain ⟨I45, T45, A45, U45⟩ := u
                dsimp only at hw hB
                rw [ht] at hB
                have hP : va_P (dC, dI) x_cl (m_W h0 ad ar I45 T45 A45 U45) H1 := hB
                have hD : va_D Bq (m_W h0 ad ar I45 T45 A45 U45) := m_D hD
                generalize H1 = H at hP hS ⊢
                refine W.widen (k := 0) (n := 0) (Nat.le_of_ble_eq_true rfl) (Nat.le_of_ble_eq_true rfl) ?_
                cases hw
                refine lv_aload_n hx hb d_Mo_start_301 rfl (lv_at hl 3 rfl) ?_
                have hFc := m_free hD hS hA
                refine va_calli (va_runV (As := []) (rest := []) ⟨hx, hb, hml, hown, hts⟩ (m_expression l dC dI ar N0 z h0 ad (upd (upd I 6 (Int32.ofNat (P + 1))) 7 (Int32.ofNat (a0 + 1))) T (m_up A 2 (upd (A 2) a0 9)) U ((P + 1)) S ((a0 + 1)) H.size rfl h4 (by omega) (by omega) (by omega) rfl (by omega)) (cwV 0 hts (x_goodV k_1160 k_1162 kp_58 k_9 k_1163) rfl rfl rfl (by decide +kernel) ⟨Nat.le_of_ble_eq_true rfl, Nat.le_of_ble_eq_true rfl⟩) ⟨x_blind, va_recv hK hP (ci := 6) (q0 := 0) rfl rfl, fun U9 hU9 hW9 => x_pre hU9 hW9 hP hD hU hZ hS hAN hN0⟩ rfl rfl hl.1 rfl (lv_room (Nat.le_of_ble_eq_true rfl)) d_Mo_start_302 ⟨Nat.le_of_ble_eq_true rfl, Nat.le_of_ble_eq_true rfl⟩) hS (fun q _ h => hFc q h) hFc (fun r46 u t H1 locs ht hvm hw hB hz1 hk1 hS => ?_)
                obtain ⟨I48, T48, A48, U48⟩ := u
                dsimp only at hw hB
                rw [ht] at hB
                have hP : va_P (dC, dI) x_cl (m_W h0 ad ar I48 T48 A48 U48) H1 := hB
                have hD : va_D Bq (m_W h0 ad ar I48 T48 A48 U48) := m_D hD
                generalize H1 = H at hP hS ⊢
                refine W.widen (k := 0) (n := 0) (Nat.le_of_ble_eq_true rfl) (Nat.le_of_ble_eq_true rfl) ?_
                obtain ⟨P49, a49, i649, p149, p249, hfr49, hfa49, eT, eU, hres⟩ := hw
                cases eT
                cases eU
                rcases hres with rfl | ⟨rfl, p349, i749, l149, l249, tk49, ov49, lw49⟩
                · refine lv_if_eq (tgt := 312) hx hb d_Mo_start_305 (by decide) (fun _ => ?_) (fun c50 => absurd (by decide) c50)
                  refine lv_iconst (v := (-1)) hx hb d_Mo_start_312 (by decide) ?_
                  refine W.widen (k := 0) (n := 0) (Nat.le_of_ble_eq_true rfl) (Nat.le_of_ble_eq_true rfl) ?_
                  exact W.iret (v := (-1)) hx hb hr (fun t ht hW => ⟨⟨(-1), (I48, T, A48, U), rfl, ⟨P49, i649, by omega, by omega, ((((m_fr.rf.up (by decide) _).up (by decide) _)).tr hfr49 (by decide)), (((m_fa.rf.up (by decide) _)).tr hfa49 (by decide)), rfl, rfl, Or.inl rfl⟩, by dsimp only; rw [ht]; exact hP⟩, hS.F ht⟩) hS.2.2 d_Mo_start_313
                · refine lv_if_eq (tgt := 312) hx hb d_Mo_start_305 (by decide) (fun c51 => absurd c51 (by decide)) (fun _ => ?_)
                  refine lv_iconst (v := 0) hx hb d_Mo_start_308 (by decide) ?_
                  refine lv_goto (tgt := 313) hx hb d_Mo_start_309 (by decide) ?_
                  refine W.widen (k := 0) (n := 0) (Nat.le_of_ble_eq_true rfl) (Nat.le_of_ble_eq_true rfl) ?_
                  exact W.iret (v := 0) hx hb hr (fun t ht hW => ⟨⟨0, (I48, T, A48, U), rfl, ⟨P49, i649, by omega, by omega, ((((m_fr.rf.up (by decide) _).up (by decide) _)).tr hfr49 (by decide)), (((m_fa.rf.up (by decide) _)).tr hfa49 (by decide)), rfl, rfl, Or.inr (Or.inl ⟨rfl, by omega, (a49 + 1), i749, by omega, ((hfr49 18 (by decide)).trans h18), hfa49 11 (by decide), hfa49 12 (by decide), hfa49 13 (by decide), hst.delay (by dsimp only; rw [lw49 _ (by omega), m_up_s, upd_s]) (tk49.mono (by omega)) ov49 (fun j hj => by dsimp only; rw [lw49 j (by omega), m_up_s, upd_n (by omega)])⟩)⟩, by dsimp only; rw [ht]; exact hP⟩, hS.F ht⟩) hS.2.2 d_Mo_start_313
              · refine lv_iload_n hx hb d_Mo_start_218 rfl (lv_at hl 2 rfl) ?_
                refine lv_bipush (v := 40) hx hb d_Mo_start_219 (by decide) ?_
                refine lv_icmp_eq (tgt := 250) hx hb d_Mo_start_221 (by decide) (fun c52 => ?_) (fun c52 => ?_)
                · have hlt : P < S := m_lke hk4 c52 (by decide)
                  refine lv_aload_n hx hb d_Mo_start_250 rfl (lv_at hl 3 rfl) ?_
                  refine lv_dup hx hb d_Mo_start_251 rfl ?_
                  refine m_g hx hb hts hown hK hP 6 (by decide) rfl (hts _ k_973) (v := .int (Int32.ofNat P)) (congrArg Value.int h6) d_Mo_start_252 ?_
                  refine lv_iconst (v := 1) hx hb d_Mo_start_255 (by decide) ?_
                  refine lv_iadd hx hb d_Mo_start_256 ?_
                  refine W.eq (g2 := F0 m 257 ls [.int (Int32.ofNat (P + 1)), .ref h0]) (by rw [← x_addN (a := P) (b := 1)] <;> rfl) ?_
                  refine m_p hx hb hts hown hK hP hD hS 6 (by decide) rfl (hts _ k_973) rfl (by decide +kernel) rfl (by decide) (x := (Int32.ofNat (P + 1))) d_Mo_start_257 (fun H locs hP hD hS => ?_)
                  refine lv_iload_n hx hb d_Mo_start_260 rfl (lv_at hl 2 rfl) ?_
                  refine lv_bipush (v := 46) hx hb d_Mo_start_261 (by decide) ?_
                  refine lv_icmp_eq (tgt := 272) hx hb d_Mo_start_263 (by decide) (fun c53 => absurd c53 c29) (fun _ => ?_)
                  refine lv_iload_n hx hb d_Mo_start_266 rfl (lv_at hl 2 rfl) ?_
                  refine lv_bipush (v := 35) hx hb d_Mo_start_267 (by decide) ?_
                  refine lv_icmp_ne (tgt := 289) hx hb d_Mo_start_269 (by decide) (fun _ => ?_) (fun c54 => absurd c54 c34)
                  refine lv_iload_n hx hb d_Mo_start_289 rfl (lv_at hl 2 rfl) ?_
                  refine lv_bipush (v := 64) hx hb d_Mo_start_290 (by decide) ?_
                  refine lv_icmp_ne (tgt := 314) hx hb d_Mo_start_292 (by decide) (fun _ => ?_) (fun c55 => absurd c55 c40)
                  refine lv_iload_n hx hb d_Mo_start_314 rfl (lv_at hl 2 rfl) ?_
                  refine lv_bipush (v := 40) hx hb d_Mo_start_315 (by decide) ?_
                  refine lv_icmp_ne (tgt := 326) hx hb d_Mo_start_317 (by decide) (fun c56 => absurd c52 c56) (fun _ => ?_)
                  refine lv_aload_n hx hb d_Mo_start_320 rfl (lv_at hl 3 rfl) ?_
                  refine lv_iconst (v := 1) hx hb d_Mo_start_321 (by decide) ?_
                  refine lv_iload_n hx hb d_Mo_start_322 rfl (lv_at hl 1 rfl) ?_
                  have hFc := m_free hD hS hA
                  refine va_callv (va_runV (As := [.int 1, .int (Int32.ofNat a0)]) (rest := []) ⟨hx, hb, hml, hown, hts⟩ (m_begin l dC dI ar N0 z h0 ad (upd I 6 (Int32.ofNat (P + 1))) T A U (L.length) (1) ((Int32.ofNat a0)) H.size h18 (by omega)) (cwV 2 hts (x_goodV k_1186 k_1188 kp_63 k_9 k_1189) rfl rfl rfl (by decide +kernel) ⟨Nat.le_of_ble_eq_true rfl, Nat.le_of_ble_eq_true rfl⟩) ⟨x_blind, va_recv hK hP (ci := 6) (q0 := 0) rfl rfl, fun U9 hU9 hW9 => x_pre hU9 hW9 hP hD hU hZ hS hAN hN0⟩ rfl rfl hl.1 rfl (lv_room (Nat.le_of_ble_eq_true rfl)) d_Mo_start_323 ⟨Nat.le_of_ble_eq_true rfl, Nat.le_of_ble_eq_true rfl⟩) hS (fun q _ h => hFc q h) hFc (fun u t H1 locs ht hvm hw hB hz1 hk1 hS => ?_)
                  obtain ⟨I58, T58, A58, U58⟩ := u
                  dsimp only at hw hB
                  rw [ht] at hB
                  have hP : va_P (dC, dI) x_cl (m_W h0 ad ar I58 T58 A58 U58) H1 := hB
                  have hD : va_D Bq (m_W h0 ad ar I58 T58 A58 U58) := m_D hD
                  generalize H1 = H at hP hS ⊢
                  refine W.widen (k := 0) (n := 0) (Nat.le_of_ble_eq_true rfl) (Nat.le_of_ble_eq_true rfl) ?_
                  cases hw
                  refine lv_iload_n hx hb d_Mo_start_326 rfl (lv_at hl 2 rfl) ?_
                  refine lv_bipush (v := 123) hx hb d_Mo_start_327 (by decide) ?_
                  refine lv_icmp_ne (tgt := 364) hx hb d_Mo_start_329 (by decide) (fun _ => ?_) (fun c59 => absurd (c52.symm.trans c59) (by decide))
                  refine lv_iload_n hx hb d_Mo_start_364 rfl (lv_at hl 2 rfl) ?_
                  refine lv_bipush (v := 94) hx hb d_Mo_start_365 (by decide) ?_
                  refine lv_icmp_eq (tgt := 376) hx hb d_Mo_start_367 (by decide) (fun c60 => absurd (c52.symm.trans c60) (by decide)) (fun _ => ?_)
                  refine lv_iload_n hx hb d_Mo_start_370 rfl (lv_at hl 2 rfl) ?_
                  refine lv_bipush (v := 63) hx hb d_Mo_start_371 (by decide) ?_
                  refine lv_icmp_ne (tgt := 416) hx hb d_Mo_start_373 (by decide) (fun _ => ?_) (fun c61 => absurd (c52.symm.trans c61) (by decide))
                  refine lv_iload_n hx hb d_Mo_start_416 rfl (lv_at hl 2 rfl) ?_
                  refine lv_bipush (v := 91) hx hb d_Mo_start_417 (by decide) ?_
                  refine lv_icmp_ne (tgt := 457) hx hb d_Mo_start_419 (by decide) (fun _ => ?_) (fun c62 => absurd (c52.symm.trans c62) (by decide))
                  refine lv_iconst (v := 1) hx hb d_Mo_start_457 (by decide) ?_
                  refine W.widen (k := 0) (n := 0) (Nat.le_of_ble_eq_true rfl) (Nat.le_of_ble_eq_true rfl) ?_
                  exact W.iret (v := 1) hx hb hr (fun t ht hW => ⟨⟨1, ((upd (upd I 6 (Int32.ofNat (P + 1))) 18 (Int32.ofNat ((L.length) + 1))), T, (m_up (m_up (m_up A 11 (upd (A 11) (L.length) 1)) 12 (upd (A 12) (L.length) (Int32.ofNat a0))) 13 (upd (A 13) (L.length) 0)), U), rfl, ⟨(P + 1), rfl, by omega, by omega, ((m_fr.rf.up (by decide) _).up (by decide) _), (((m_fa.rf.up (by decide) _).up (by decide) _).up (by decide) _), rfl, rfl, Or.inr (Or.inr ⟨rfl, by omega, a0, 1, by simp, h7, by show ((a0 : Nat) : Int) ≤ 12 * (((P + 1) : Nat) : Int) + (m_sg L + 9); omega, rfl, by omega, rfl, rfl, rfl, ⟨fun h9 => absurd h9 (by simp), fun _ => hst.seq 0 _⟩⟩)⟩, by dsimp only; rw [ht]; exact hP⟩, hS.F ht⟩) hS.2.2 d_Mo_start_458
                · refine lv_iload_n hx hb d_Mo_start_224 rfl (lv_at hl 2 rfl) ?_
                  refine lv_bipush (v := 123) hx hb d_Mo_start_225 (by decide) ?_
                  refine lv_icmp_eq (tgt := 250) hx hb d_Mo_start_227 (by decide) (fun c63 => ?_) (fun c63 => ?_)
                  · have hlt : P < S := m_lke hk4 c63 (by decide)
                    refine lv_aload_n hx hb d_Mo_start_250 rfl (lv_at hl 3 rfl) ?_
                    refine lv_dup hx hb d_Mo_start_251 rfl ?_
                    refine m_g hx hb hts hown hK hP 6 (by decide) rfl (hts _ k_973) (v := .int (Int32.ofNat P)) (congrArg Value.int h6) d_Mo_start_252 ?_
                    refine lv_iconst (v := 1) hx hb d_Mo_start_255 (by decide) ?_
                    refine lv_iadd hx hb d_Mo_start_256 ?_
                    refine W.eq (g2 := F0 m 257 ls [.int (Int32.ofNat (P + 1)), .ref h0]) (by rw [← x_addN (a := P) (b := 1)] <;> rfl) ?_
                    refine m_p hx hb hts hown hK hP hD hS 6 (by decide) rfl (hts _ k_973) rfl (by decide +kernel) rfl (by decide) (x := (Int32.ofNat (P + 1))) d_Mo_start_257 (fun H locs hP hD hS => ?_)
                    refine lv_iload_n hx hb d_Mo_start_260 rfl (lv_at hl 2 rfl) ?_
                    refine lv_bipush (v := 46) hx hb d_Mo_start_261 (by decide) ?_
                    refine lv_icmp_eq (tgt := 272) hx hb d_Mo_start_263 (by decide) (fun c64 => absurd c64 c29) (fun _ => ?_)
                    refine lv_iload_n hx hb d_Mo_start_266 rfl (lv_at hl 2 rfl) ?_
                    refine lv_bipush (v := 35) hx hb d_Mo_start_267 (by decide) ?_
                    refine lv_icmp_ne (tgt := 289) hx hb d_Mo_start_269 (by decide) (fun _ => ?_) (fun c65 => absurd c65 c34)
                    refine lv_iload_n hx hb d_Mo_start_289 rfl (lv_at hl 2 rfl) ?_
                    refine lv_bipush (v := 64) hx hb d_Mo_start_290 (by decide) ?_
                    refine lv_icmp_ne (tgt := 314) hx hb d_Mo_start_292 (by decide) (fun _ => ?_) (fun c66 => absurd c66 c40)
                    refine lv_iload_n hx hb d_Mo_start_314 rfl (lv_at hl 2 rfl) ?_
                    refine lv_bipush (v := 40) hx hb d_Mo_start_315 (by decide) ?_
                    refine lv_icmp_ne (tgt := 326) hx hb d_Mo_start_317 (by decide) (fun _ => ?_) (fun c67 => absurd c67 c52)
                    refine lv_iload_n hx hb d_Mo_start_326 rfl (lv_at hl 2 rfl) ?_
                    refine lv_bipush (v := 123) hx hb d_Mo_start_327 (by decide) ?_
                    refine lv_icmp_ne (tgt := 364) hx hb d_Mo_start_329 (by decide) (fun c68 => absurd c63 c68) (fun _ => ?_)
                    refine lv_aload_n hx hb d_Mo_start_332 rfl (lv_at hl 3 rfl) ?_
                    refine lv_iconst (v := 5) hx hb d_Mo_start_333 (by decide) ?_
                    refine lv_iconst (v := 0) hx hb d_Mo_start_334 (by decide) ?_
                    have hFc := m_free hD hS hA
                    refine va_callv (va_runV (As := [.int 5, .int 0]) (rest := []) ⟨hx, hb, hml, hown, hts⟩ (m_emit2 l dC dI ar N0 z h0 ad (upd I 6 (Int32.ofNat (P + 1))) T A U a0 (5) (0) H.size h7 (by omega)) (cwV 2 hts (x_goodV k_1152 k_1154 kp_56 k_9 k_1155) rfl rfl rfl (by decide +kernel) ⟨Nat.le_of_ble_eq_true rfl, Nat.le_of_ble_eq_true rfl⟩) ⟨x_blind, va_recv hK hP (ci := 6) (q0 := 0) rfl rfl, fun U9 hU9 hW9 => x_pre hU9 hW9 hP hD hU hZ hS hAN hN0⟩ rfl rfl hl.1 rfl (lv_room (Nat.le_of_ble_eq_true rfl)) d_Mo_start_335 ⟨Nat.le_of_ble_eq_true rfl, Nat.le_of_ble_eq_true rfl⟩) hS (fun q _ h => hFc q h) hFc (fun u t H1 locs ht hvm hw hB hz1 hk1 hS => ?_)
                    obtain ⟨I70, T70, A70, U70⟩ := u
                    dsimp only at hw hB
                    rw [ht] at hB
                    have hP : va_P (dC, dI) x_cl (m_W h0 ad ar I70 T70 A70 U70) H1 := hB
                    have hD : va_D Bq (m_W h0 ad ar I70 T70 A70 U70) := m_D hD
                    generalize H1 = H at hP hS ⊢
                    refine W.widen (k := 0) (n := 0) (Nat.le_of_ble_eq_true rfl) (Nat.le_of_ble_eq_true rfl) ?_
                    cases hw
                    refine lv_iconst (v := 0) hx hb d_Mo_start_338 (by decide) ?_
                    refine W.eq (g2 := F0 m 339 ls [.int (Int32.ofNat 0)]) rfl ?_
                    refine lv_istore (lv' := [(5, .int (Int32.ofNat 0)), (4, .int (x_ch r1)), (3, .int (Int32.ofNat a0)), (2, .int r1), (0, .ref h0), (1, .int (Int32.ofNat dv))]) hx hb d_Mo_start_339 hl (by decide) rfl (fun ls hl => ?_)
                    refine x_while (fun n H locs ls => ∃ (F : Nat → Int32) (i1 : Nat), n = 5 - i1 ∧ i1 ≤ 5 ∧ F a0 = 5 ∧ (∀ j, j < a0 → F j = A 2 j) ∧ va_P (dC, dI) x_cl (m_W h0 ad ar (upd (upd I 6 (Int32.ofNat (P + 1))) 7 (Int32.ofNat (a0 + 2 + i1))) T (m_up A 2 F) U) H ∧ va_D Bq (m_W h0 ad ar (upd (upd I 6 (Int32.ofNat (P + 1))) 7 (Int32.ofNat (a0 + 2 + i1))) T (m_up A 2 F) U) ∧ va_S Bq s.heap H locs ∧ lv_has ls 6 [(0, .ref h0), (2, .int r1), (3, .int (Int32.ofNat a0)), (5, .int (Int32.ofNat i1))]) (fun n ih H locs ls h9 => ?_) ⟨(upd (upd (A 2) a0 5) (a0 + 1) 0), 0, rfl, by omega, by rw [upd_n (by omega), upd_s], fun j hj => by rw [upd_n (by omega), upd_n (by omega)], hP, hD, hS, lv_sub hl [4, 3, 2, 0] rfl⟩
                    obtain ⟨F, i1, hn9, q1, f1, f2, hP, hD, hS, hl⟩ := h9
                    refine lv_iload hx hb d_Mo_start_341 (lv_at hl 3 rfl) ?_
                    refine lv_iconst (v := 5) hx hb d_Mo_start_343 (by decide) ?_
                    refine lv_icmp_ge (tgt := 358) hx hb d_Mo_start_344 (by decide) (fun c71 => ?_) (fun c71 => ?_)
                    · have c71 : 5 ≤ i1 := (x_leN (a := 5) (b := i1) (by omega) (by omega)).mp c71
                      have ei1 : i1 = 5 := by omega
                      subst ei1
                      have hP : va_P (dC, dI) x_cl (m_W h0 ad ar (upd (upd I 6 (Int32.ofNat (P + 1))) 7 (Int32.ofNat (a0 + 7))) T (m_up A 2 F) U) H := hP
                      have hD : va_D Bq (m_W h0 ad ar (upd (upd I 6 (Int32.ofNat (P + 1))) 7 (Int32.ofNat (a0 + 7))) T (m_up A 2 F) U) := hD
                      refine lv_aload_n hx hb d_Mo_start_358 rfl (lv_at hl 0 rfl) ?_
                      refine lv_iconst (v := 2) hx hb d_Mo_start_359 (by decide) ?_
                      refine lv_iload_n hx hb d_Mo_start_360 rfl (lv_at hl 2 rfl) ?_
                      have hFc := m_free hD hS hA
                      refine va_callv (va_runV (As := [.int 2, .int (Int32.ofNat a0)]) (rest := []) ⟨hx, hb, hml, hown, hts⟩ (m_begin l dC dI ar N0 z h0 ad (upd (upd I 6 (Int32.ofNat (P + 1))) 7 (Int32.ofNat (a0 + 7))) T (m_up A 2 F) U (L.length) (2) ((Int32.ofNat a0)) H.size h18 (by omega)) (cwV 2 hts (x_goodV k_1186 k_1188 kp_63 k_9 k_1189) rfl rfl rfl (by decide +kernel) ⟨Nat.le_of_ble_eq_true rfl, Nat.le_of_ble_eq_true rfl⟩) ⟨x_blind, va_recv hK hP (ci := 6) (q0 := 0) rfl rfl, fun U9 hU9 hW9 => x_pre hU9 hW9 hP hD hU hZ hS hAN hN0⟩ rfl rfl hl.1 rfl (lv_room (Nat.le_of_ble_eq_true rfl)) d_Mo_start_361 ⟨Nat.le_of_ble_eq_true rfl, Nat.le_of_ble_eq_true rfl⟩) hS (fun q _ h => hFc q h) hFc (fun u t H1 locs ht hvm hw hB hz1 hk1 hS => ?_)
                      obtain ⟨I73, T73, A73, U73⟩ := u
                      dsimp only at hw hB
                      rw [ht] at hB
                      have hP : va_P (dC, dI) x_cl (m_W h0 ad ar I73 T73 A73 U73) H1 := hB
                      have hD : va_D Bq (m_W h0 ad ar I73 T73 A73 U73) := m_D hD
                      generalize H1 = H at hP hS ⊢
                      refine W.widen (k := 0) (n := 0) (Nat.le_of_ble_eq_true rfl) (Nat.le_of_ble_eq_true rfl) ?_
                      cases hw
                      refine lv_iload_n hx hb d_Mo_start_364 rfl (lv_at hl 1 rfl) ?_
                      refine lv_bipush (v := 94) hx hb d_Mo_start_365 (by decide) ?_
                      refine lv_icmp_eq (tgt := 376) hx hb d_Mo_start_367 (by decide) (fun c74 => absurd (c63.symm.trans c74) (by decide)) (fun _ => ?_)
                      refine lv_iload_n hx hb d_Mo_start_370 rfl (lv_at hl 1 rfl) ?_
                      refine lv_bipush (v := 63) hx hb d_Mo_start_371 (by decide) ?_
                      refine lv_icmp_ne (tgt := 416) hx hb d_Mo_start_373 (by decide) (fun _ => ?_) (fun c75 => absurd (c63.symm.trans c75) (by decide))
                      refine lv_iload_n hx hb d_Mo_start_416 rfl (lv_at hl 1 rfl) ?_
                      refine lv_bipush (v := 91) hx hb d_Mo_start_417 (by decide) ?_
                      refine lv_icmp_ne (tgt := 457) hx hb d_Mo_start_419 (by decide) (fun _ => ?_) (fun c76 => absurd (c63.symm.trans c76) (by decide))
                      refine lv_iconst (v := 1) hx hb d_Mo_start_457 (by decide) ?_
                      refine W.widen (k := 0) (n := 0) (Nat.le_of_ble_eq_true rfl) (Nat.le_of_ble_eq_true rfl) ?_
                      exact W.iret (v := 1) hx hb hr (fun t ht hW => ⟨⟨1, ((upd (upd (upd I 6 (Int32.ofNat (P + 1))) 7 (Int32.ofNat (a0 + 7))) 18 (Int32.ofNat ((L.length) + 1))), T, (m_up (m_up (m_up (m_up A 2 F) 11 (upd ((m_up A 2 F) 11) (L.length) 2)) 12 (upd ((m_up A 2 F) 12) (L.length) (Int32.ofNat a0))) 13 (upd ((m_up A 2 F) 13) (L.length) 0)), U), rfl, ⟨(P + 1), rfl, by omega, by omega, (((m_fr.rf.up (by decide) _).up (by decide) _).up (by decide) _), ((((m_fa.rf.up (by decide) _).up (by decide) _).up (by decide) _).up (by decide) _), rfl, rfl, Or.inr (Or.inr ⟨rfl, by omega, (a0 + 7), 2, by simp, rfl, by show (((a0 + 7) : Nat) : Int) ≤ 12 * (((P + 1) : Nat) : Int) + (m_sg L + 9); omega, rfl, by omega, rfl, rfl, rfl, ⟨fun _ => ⟨hst.par 0 _ (by show F a0 = _; exact f1) (fun j hj => by show F j = _; exact f2 j hj), fun h9 => absurd h9 (by simp)⟩, fun h9 => absurd (by simp) h9⟩⟩)⟩, by dsimp only; rw [ht]; exact hP⟩, hS.F ht⟩) hS.2.2 d_Mo_start_458
                    · have c71 : ¬ 5 ≤ i1 := fun h9 => c71 ((x_leN (a := 5) (b := i1) (by omega) (by omega)).mpr h9)
                      refine lv_aload_n hx hb d_Mo_start_347 rfl (lv_at hl 0 rfl) ?_
                      refine lv_iconst (v := 0) hx hb d_Mo_start_348 (by decide) ?_
                      have hFc := m_free hD hS hA
                      refine va_callv (va_runV (As := [.int 0]) (rest := []) ⟨hx, hb, hml, hown, hts⟩ (m_emit l dC dI ar N0 z h0 ad (upd (upd I 6 (Int32.ofNat (P + 1))) 7 (Int32.ofNat (a0 + 2 + i1))) T (m_up A 2 F) U ((a0 + 2 + i1)) (0) H.size rfl (by omega)) (cwV 1 hts (x_goodV k_1148 k_1150 kp_55 k_9 k_1151) rfl rfl rfl (by decide +kernel) ⟨Nat.le_of_ble_eq_true rfl, Nat.le_of_ble_eq_true rfl⟩) ⟨x_blind, va_recv hK hP (ci := 6) (q0 := 0) rfl rfl, fun U9 hU9 hW9 => x_pre hU9 hW9 hP hD hU hZ hS hAN hN0⟩ rfl rfl hl.1 rfl (lv_room (Nat.le_of_ble_eq_true rfl)) d_Mo_start_349 ⟨Nat.le_of_ble_eq_true rfl, Nat.le_of_ble_eq_true rfl⟩) hS (fun q _ h => hFc q h) hFc (fun u t H1 locs ht hvm hw hB hz1 hk1 hS => ?_)
                      obtain ⟨I78, T78, A78, U78⟩ := u
                      dsimp only at hw hB
                      rw [ht] at hB
                      have hP : va_P (dC, dI) x_cl (m_W h0 ad ar I78 T78 A78 U78) H1 := hB
                      have hD : va_D Bq (m_W h0 ad ar I78 T78 A78 U78) := m_D hD
                      generalize H1 = H at hP hS ⊢
                      refine W.widen (k := 0) (n := 0) (Nat.le_of_ble_eq_true rfl) (Nat.le_of_ble_eq_true rfl) ?_
                      cases hw
                      rw [m_up_up, m_up_s] at hP hD
                      have hP : va_P (dC, dI) x_cl (m_W h0 ad ar (upd (upd (upd I 6 (Int32.ofNat (P + 1))) 7 (Int32.ofNat (a0 + 2 + i1))) 7 (Int32.ofNat (((a0 + 2 + i1)) + 1))) T (m_up A 2 (upd F ((a0 + 2 + i1)) 0)) U) H := hP
                      have hD : va_D Bq (m_W h0 ad ar (upd (upd (upd I 6 (Int32.ofNat (P + 1))) 7 (Int32.ofNat (a0 + 2 + i1))) 7 (Int32.ofNat (((a0 + 2 + i1)) + 1))) T (m_up A 2 (upd F ((a0 + 2 + i1)) 0)) U) := hD
                      refine lv_iinc (v := (Int32.ofNat (i1 + 1))) (lv' := [(5, .int (Int32.ofNat (i1 + 1))), (0, .ref h0), (2, .int r1), (3, .int (Int32.ofNat a0))]) hx hb d_Mo_start_352 hl (k := 3) rfl (x_incN i1) (by decide) rfl (fun ls hl => ?_)
                      refine lv_goto (tgt := 341) hx hb d_Mo_start_355 (by decide) ?_
                      rw [upd_upd] at hP hD
                      exact ih (5 - (i1 + 1)) (by omega) H locs ls ⟨(upd F ((a0 + 2 + i1)) 0), i1 + 1, rfl, by omega, by rw [upd_n (by omega)]; exact f1, fun j hj => by rw [upd_n (by omega)]; exact f2 j hj, hP, hD, hS, lv_sub hl [1, 2, 3, 0] rfl⟩
                  · refine lv_iload_n hx hb d_Mo_start_230 rfl (lv_at hl 2 rfl) ?_
                    refine lv_bipush (v := 94) hx hb d_Mo_start_231 (by decide) ?_
                    refine lv_icmp_eq (tgt := 250) hx hb d_Mo_start_233 (by decide) (fun c79 => ?_) (fun c79 => ?_)
                    · have hlt : P < S := m_lke hk4 c79 (by decide)
                      refine lv_aload_n hx hb d_Mo_start_250 rfl (lv_at hl 3 rfl) ?_
                      refine lv_dup hx hb d_Mo_start_251 rfl ?_
                      refine m_g hx hb hts hown hK hP 6 (by decide) rfl (hts _ k_973) (v := .int (Int32.ofNat P)) (congrArg Value.int h6) d_Mo_start_252 ?_
                      refine lv_iconst (v := 1) hx hb d_Mo_start_255 (by decide) ?_
                      refine lv_iadd hx hb d_Mo_start_256 ?_
                      refine W.eq (g2 := F0 m 257 ls [.int (Int32.ofNat (P + 1)), .ref h0]) (by rw [← x_addN (a := P) (b := 1)] <;> rfl) ?_
                      refine m_p hx hb hts hown hK hP hD hS 6 (by decide) rfl (hts _ k_973) rfl (by decide +kernel) rfl (by decide) (x := (Int32.ofNat (P + 1))) d_Mo_start_257 (fun H locs hP hD hS => ?_)
                      refine lv_iload_n hx hb d_Mo_start_260 rfl (lv_at hl 2 rfl) ?_
                      refine lv_bipush (v := 46) hx hb d_Mo_start_261 (by decide) ?_
                      refine lv_icmp_eq (tgt := 272) hx hb d_Mo_start_263 (by decide) (fun c80 => absurd c80 c29) (fun _ => ?_)
                      refine lv_iload_n hx hb d_Mo_start_266 rfl (lv_at hl 2 rfl) ?_
                      refine lv_bipush (v := 35) hx hb d_Mo_start_267 (by decide) ?_
                      refine lv_icmp_ne (tgt := 289) hx hb d_Mo_start_269 (by decide) (fun _ => ?_) (fun c81 => absurd c81 c34)
                      refine lv_iload_n hx hb d_Mo_start_289 rfl (lv_at hl 2 rfl) ?_
                      refine lv_bipush (v := 64) hx hb d_Mo_start_290 (by decide) ?_
                      refine lv_icmp_ne (tgt := 314) hx hb d_Mo_start_292 (by decide) (fun _ => ?_) (fun c82 => absurd c82 c40)
                      refine lv_iload_n hx hb d_Mo_start_314 rfl (lv_at hl 2 rfl) ?_
                      refine lv_bipush (v := 40) hx hb d_Mo_start_315 (by decide) ?_
                      refine lv_icmp_ne (tgt := 326) hx hb d_Mo_start_317 (by decide) (fun _ => ?_) (fun c83 => absurd c83 c52)
                      refine lv_iload_n hx hb d_Mo_start_326 rfl (lv_at hl 2 rfl) ?_
                      refine lv_bipush (v := 123) hx hb d_Mo_start_327 (by decide) ?_
                      refine lv_icmp_ne (tgt := 364) hx hb d_Mo_start_329 (by decide) (fun _ => ?_) (fun c84 => absurd c84 c63)
                      refine lv_iload_n hx hb d_Mo_start_364 rfl (lv_at hl 2 rfl) ?_
                      refine lv_bipush (v := 94) hx hb d_Mo_start_365 (by decide) ?_
                      refine lv_icmp_eq (tgt := 376) hx hb d_Mo_start_367 (by decide) (fun _ => ?_) (fun c85 => absurd c79 c85)
                      refine lv_aload_n hx hb d_Mo_start_376 rfl (lv_at hl 3 rfl) ?_
                      refine lv_iconst (v := 4) hx hb d_Mo_start_377 (by decide) ?_
                      refine lv_iconst (v := 0) hx hb d_Mo_start_378 (by decide) ?_
                      have hFc := m_free hD hS hA
                      refine va_callv (va_runV (As := [.int 4, .int 0]) (rest := []) ⟨hx, hb, hml, hown, hts⟩ (m_emit2 l dC dI ar N0 z h0 ad (upd I 6 (Int32.ofNat (P + 1))) T A U a0 (4) (0) H.size h7 (by omega)) (cwV 2 hts (x_goodV k_1152 k_1154 kp_56 k_9 k_1155) rfl rfl rfl (by decide +kernel) ⟨Nat.le_of_ble_eq_true rfl, Nat.le_of_ble_eq_true rfl⟩) ⟨x_blind, va_recv hK hP (ci := 6) (q0 := 0) rfl rfl, fun U9 hU9 hW9 => x_pre hU9 hW9 hP hD hU hZ hS hAN hN0⟩ rfl rfl hl.1 rfl (lv_room (Nat.le_of_ble_eq_true rfl)) d_Mo_start_379 ⟨Nat.le_of_ble_eq_true rfl, Nat.le_of_ble_eq_true rfl⟩) hS (fun q _ h => hFc q h) hFc (fun u t H1 locs ht hvm hw hB hz1 hk1 hS => ?_)
                      obtain ⟨I87, T87, A87, U87⟩ := u
                      dsimp only at hw hB
                      rw [ht] at hB
                      have hP : va_P (dC, dI) x_cl (m_W h0 ad ar I87 T87 A87 U87) H1 := hB
                      have hD : va_D Bq (m_W h0 ad ar I87 T87 A87 U87) := m_D hD
                      generalize H1 = H at hP hS ⊢
                      refine W.widen (k := 0) (n := 0) (Nat.le_of_ble_eq_true rfl) (Nat.le_of_ble_eq_true rfl) ?_
                      cases hw
                      refine lv_aload_n hx hb d_Mo_start_382 rfl (lv_at hl 3 rfl) ?_
                      have hFc := m_free hD hS hA
                      refine va_calli (va_runV (As := []) (rest := []) ⟨hx, hb, hml, hown, hts⟩ (m_expression l dC dI ar N0 z h0 ad (upd (upd I 6 (Int32.ofNat (P + 1))) 7 (Int32.ofNat (a0 + 2))) T (m_up A 2 (upd (upd (A 2) a0 4) (a0 + 1) 0)) U ((P + 1)) S ((a0 + 2)) H.size rfl h4 (by omega) (by omega) (by omega) rfl (by omega)) (cwV 0 hts (x_goodV k_1160 k_1162 kp_58 k_9 k_1163) rfl rfl rfl (by decide +kernel) ⟨Nat.le_of_ble_eq_true rfl, Nat.le_of_ble_eq_true rfl⟩) ⟨x_blind, va_recv hK hP (ci := 6) (q0 := 0) rfl rfl, fun U9 hU9 hW9 => x_pre hU9 hW9 hP hD hU hZ hS hAN hN0⟩ rfl rfl hl.1 rfl (lv_room (Nat.le_of_ble_eq_true rfl)) d_Mo_start_383 ⟨Nat.le_of_ble_eq_true rfl, Nat.le_of_ble_eq_true rfl⟩) hS (fun q _ h => hFc q h) hFc (fun r88 u t H1 locs ht hvm hw hB hz1 hk1 hS => ?_)
                      obtain ⟨I90, T90, A90, U90⟩ := u
                      dsimp only at hw hB
                      rw [ht] at hB
                      have hP : va_P (dC, dI) x_cl (m_W h0 ad ar I90 T90 A90 U90) H1 := hB
                      have hD : va_D Bq (m_W h0 ad ar I90 T90 A90 U90) := m_D hD
                      generalize H1 = H at hP hS ⊢
                      refine W.widen (k := 0) (n := 0) (Nat.le_of_ble_eq_true rfl) (Nat.le_of_ble_eq_true rfl) ?_
                      obtain ⟨P91, a91, i691, p191, p291, hfr91, hfa91, eT, eU, hres⟩ := hw
                      cases eT
                      cases eU
                      rcases hres with rfl | ⟨rfl, p391, i791, l191, l291, tk91, ov91, lw91⟩
                      · refine lv_if_eq (tgt := 398) hx hb d_Mo_start_386 (by decide) (fun _ => ?_) (fun c92 => absurd (by decide) c92)
                        refine lv_iconst (v := (-1)) hx hb d_Mo_start_398 (by decide) ?_
                        refine W.widen (k := 0) (n := 0) (Nat.le_of_ble_eq_true rfl) (Nat.le_of_ble_eq_true rfl) ?_
                        exact W.iret (v := (-1)) hx hb hr (fun t ht hW => ⟨⟨(-1), (I90, T, A90, U), rfl, ⟨P91, i691, by omega, by omega, ((((m_fr.rf.up (by decide) _).up (by decide) _)).tr hfr91 (by decide)), (((m_fa.rf.up (by decide) _)).tr hfa91 (by decide)), rfl, rfl, Or.inl rfl⟩, by dsimp only; rw [ht]; exact hP⟩, hS.F ht⟩) hS.2.2 d_Mo_start_399
                      · refine lv_if_eq (tgt := 398) hx hb d_Mo_start_386 (by decide) (fun c93 => absurd c93 (by decide)) (fun _ => ?_)
                        refine lv_aload_n hx hb d_Mo_start_389 rfl (lv_at hl 3 rfl) ?_
                        refine lv_bipush (v := 44) hx hb d_Mo_start_390 (by decide) ?_
                        have hFc := m_free hD hS hA
                        refine va_calli (va_runV (As := [.int 44]) (rest := []) ⟨hx, hb, hml, hown, hts⟩ (m_passes l dC dI ar N0 z h0 ad I90 T A90 U P91 S (44) H.size i691 ((hfr91 4 (by decide)).trans h4) (by omega) (by omega)) (cwV 1 hts (x_goodV k_1136 k_1138 kp_52 k_9 k_1139) rfl rfl rfl (by decide +kernel) ⟨Nat.le_of_ble_eq_true rfl, Nat.le_of_ble_eq_true rfl⟩) ⟨x_blind, va_recv hK hP (ci := 6) (q0 := 0) rfl rfl, fun U9 hU9 hW9 => x_pre hU9 hW9 hP hD hU hZ hS hAN hN0⟩ rfl rfl hl.1 rfl (lv_room (Nat.le_of_ble_eq_true rfl)) d_Mo_start_392 ⟨Nat.le_of_ble_eq_true rfl, Nat.le_of_ble_eq_true rfl⟩) hS (fun q _ h => hFc q h) hFc (fun r94 u t H1 locs ht hvm hw hB hz1 hk1 hS => ?_)
                        obtain ⟨I96, T96, A96, U96⟩ := u
                        dsimp only at hw hB
                        rw [ht] at hB
                        have hP : va_P (dC, dI) x_cl (m_W h0 ad ar I96 T96 A96 U96) H1 := hB
                        have hD : va_D Bq (m_W h0 ad ar I96 T96 A96 U96) := m_D hD
                        generalize H1 = H at hP hS ⊢
                        refine W.widen (k := 0) (n := 0) (Nat.le_of_ble_eq_true rfl) (Nat.le_of_ble_eq_true rfl) ?_
                        rcases hw with ⟨p97, rfl, h9⟩ | ⟨p97, rfl, h9⟩
                        · cases h9
                          have hpp97 : P91 < S := m_lk0 (by rw [p97]; decide)
                          refine lv_if_ne (tgt := 400) hx hb d_Mo_start_395 (by decide) (fun _ => ?_) (fun c98 => absurd c98 (by decide))
                          refine lv_aload_n hx hb d_Mo_start_400 rfl (lv_at hl 3 rfl) ?_
                          refine lv_iload_n hx hb d_Mo_start_401 rfl (lv_at hl 2 rfl) ?_
                          refine lv_bipush (v := 94) hx hb d_Mo_start_402 (by decide) ?_
                          refine lv_icmp_ne (tgt := 411) hx hb d_Mo_start_404 (by decide) (fun c99 => absurd c79 c99) (fun _ => ?_)
                          refine lv_iconst (v := 3) hx hb d_Mo_start_407 (by decide) ?_
                          refine lv_goto (tgt := 412) hx hb d_Mo_start_408 (by decide) ?_
                          refine lv_iload_n hx hb d_Mo_start_412 rfl (lv_at hl 1 rfl) ?_
                          have hFc := m_free hD hS hA
                          refine va_callv (va_runV (As := [.int 3, .int (Int32.ofNat a0)]) (rest := []) ⟨hx, hb, hml, hown, hts⟩ (m_begin l dC dI ar N0 z h0 ad (upd I90 6 (Int32.ofNat (P91 + 1))) T A90 U (L.length) (3) ((Int32.ofNat a0)) H.size ((hfr91 18 (by decide)).trans h18) (by omega)) (cwV 2 hts (x_goodV k_1186 k_1188 kp_63 k_9 k_1189) rfl rfl rfl (by decide +kernel) ⟨Nat.le_of_ble_eq_true rfl, Nat.le_of_ble_eq_true rfl⟩) ⟨x_blind, va_recv hK hP (ci := 6) (q0 := 0) rfl rfl, fun U9 hU9 hW9 => x_pre hU9 hW9 hP hD hU hZ hS hAN hN0⟩ rfl rfl hl.1 rfl (lv_room (Nat.le_of_ble_eq_true rfl)) d_Mo_start_413 ⟨Nat.le_of_ble_eq_true rfl, Nat.le_of_ble_eq_true rfl⟩) hS (fun q _ h => hFc q h) hFc (fun u t H1 locs ht hvm hw hB hz1 hk1 hS => ?_)
                          obtain ⟨I101, T101, A101, U101⟩ := u
                          dsimp only at hw hB
                          rw [ht] at hB
                          have hP : va_P (dC, dI) x_cl (m_W h0 ad ar I101 T101 A101 U101) H1 := hB
                          have hD : va_D Bq (m_W h0 ad ar I101 T101 A101 U101) := m_D hD
                          generalize H1 = H at hP hS ⊢
                          refine W.widen (k := 0) (n := 0) (Nat.le_of_ble_eq_true rfl) (Nat.le_of_ble_eq_true rfl) ?_
                          cases hw
                          refine lv_iload_n hx hb d_Mo_start_416 rfl (lv_at hl 2 rfl) ?_
                          refine lv_bipush (v := 91) hx hb d_Mo_start_417 (by decide) ?_
                          refine lv_icmp_ne (tgt := 457) hx hb d_Mo_start_419 (by decide) (fun _ => ?_) (fun c102 => absurd (c79.symm.trans c102) (by decide))
                          refine lv_iconst (v := 1) hx hb d_Mo_start_457 (by decide) ?_
                          refine W.widen (k := 0) (n := 0) (Nat.le_of_ble_eq_true rfl) (Nat.le_of_ble_eq_true rfl) ?_
                          exact W.iret (v := 1) hx hb hr (fun t ht hW => ⟨⟨1, ((upd (upd I90 6 (Int32.ofNat (P91 + 1))) 18 (Int32.ofNat ((L.length) + 1))), T, (m_up (m_up (m_up A90 11 (upd (A90 11) (L.length) 3)) 12 (upd (A90 12) (L.length) (Int32.ofNat a0))) 13 (upd (A90 13) (L.length) 0)), U), rfl, ⟨(P91 + 1), rfl, by omega, by omega, ((((((m_fr.rf.up (by decide) _).up (by decide) _)).tr hfr91 (by decide)).up (by decide) _).up (by decide) _), ((((((m_fa.rf.up (by decide) _)).tr hfa91 (by decide)).up (by decide) _).up (by decide) _).up (by decide) _), rfl, rfl, Or.inr (Or.inr ⟨rfl, by omega, (a91 + 1), 3, by simp, i791, by show (((a91 + 1) : Nat) : Int) ≤ 12 * (((P91 + 1) : Nat) : Int) + (m_sg L + -3); omega, rfl, by omega, by show upd (A90 11) L.length _ = _; rw [hfa91 11 (by decide)]; rfl, by show upd (A90 12) L.length _ = _; rw [hfa91 12 (by decide)]; rfl, by show upd (A90 13) L.length _ = _; rw [hfa91 13 (by decide)]; rfl, ⟨fun h9 => absurd h9 (by simp), fun _ => hst.test (by simp) 0 _ (by show A90 2 a0 = 4; rw [lw91 _ (by omega), m_up_s, upd_n (by omega), upd_s]) (tk91.mono (by omega)) ov91 (fun j hj => by show A90 2 j = A 2 j; rw [lw91 j (by omega), m_up_s, upd_n (by omega), upd_n (by omega)])⟩⟩)⟩, by dsimp only; rw [ht]; exact hP⟩, hS.F ht⟩) hS.2.2 d_Mo_start_458
                        · cases h9
                          refine lv_if_ne (tgt := 400) hx hb d_Mo_start_395 (by decide) (fun c103 => absurd rfl c103) (fun _ => ?_)
                          refine lv_iconst (v := (-1)) hx hb d_Mo_start_398 (by decide) ?_
                          refine W.widen (k := 0) (n := 0) (Nat.le_of_ble_eq_true rfl) (Nat.le_of_ble_eq_true rfl) ?_
                          exact W.iret (v := (-1)) hx hb hr (fun t ht hW => ⟨⟨(-1), (I90, T, A90, U), rfl, ⟨P91, i691, by omega, by omega, ((((m_fr.rf.up (by decide) _).up (by decide) _)).tr hfr91 (by decide)), (((m_fa.rf.up (by decide) _)).tr hfa91 (by decide)), rfl, rfl, Or.inl rfl⟩, by dsimp only; rw [ht]; exact hP⟩, hS.F ht⟩) hS.2.2 d_Mo_start_399
                    · refine lv_iload_n hx hb d_Mo_start_236 rfl (lv_at hl 2 rfl) ?_
                      refine lv_bipush (v := 63) hx hb d_Mo_start_237 (by decide) ?_
                      refine lv_icmp_eq (tgt := 250) hx hb d_Mo_start_239 (by decide) (fun c104 => ?_) (fun c104 => ?_)
                      · have hlt : P < S := m_lke hk4 c104 (by decide)
                        refine lv_aload_n hx hb d_Mo_start_250 rfl (lv_at hl 3 rfl) ?_
                        refine lv_dup hx hb d_Mo_start_251 rfl ?_
                        refine m_g hx hb hts hown hK hP 6 (by decide) rfl (hts _ k_973) (v := .int (Int32.ofNat P)) (congrArg Value.int h6) d_Mo_start_252 ?_
                        refine lv_iconst (v := 1) hx hb d_Mo_start_255 (by decide) ?_
                        refine lv_iadd hx hb d_Mo_start_256 ?_
                        refine W.eq (g2 := F0 m 257 ls [.int (Int32.ofNat (P + 1)), .ref h0]) (by rw [← x_addN (a := P) (b := 1)] <;> rfl) ?_
                        refine m_p hx hb hts hown hK hP hD hS 6 (by decide) rfl (hts _ k_973) rfl (by decide +kernel) rfl (by decide) (x := (Int32.ofNat (P + 1))) d_Mo_start_257 (fun H locs hP hD hS => ?_)
                        refine lv_iload_n hx hb d_Mo_start_260 rfl (lv_at hl 2 rfl) ?_
                        refine lv_bipush (v := 46) hx hb d_Mo_start_261 (by decide) ?_
                        refine lv_icmp_eq (tgt := 272) hx hb d_Mo_start_263 (by decide) (fun c105 => absurd c105 c29) (fun _ => ?_)
                        refine lv_iload_n hx hb d_Mo_start_266 rfl (lv_at hl 2 rfl) ?_
                        refine lv_bipush (v := 35) hx hb d_Mo_start_267 (by decide) ?_
                        refine lv_icmp_ne (tgt := 289) hx hb d_Mo_start_269 (by decide) (fun _ => ?_) (fun c106 => absurd c106 c34)
                        refine lv_iload_n hx hb d_Mo_start_289 rfl (lv_at hl 2 rfl) ?_
                        refine lv_bipush (v := 64) hx hb d_Mo_start_290 (by decide) ?_
                        refine lv_icmp_ne (tgt := 314) hx hb d_Mo_start_292 (by decide) (fun _ => ?_) (fun c107 => absurd c107 c40)
                        refine lv_iload_n hx hb d_Mo_start_314 rfl (lv_at hl 2 rfl) ?_
                        refine lv_bipush (v := 40) hx hb d_Mo_start_315 (by decide) ?_
                        refine lv_icmp_ne (tgt := 326) hx hb d_Mo_start_317 (by decide) (fun _ => ?_) (fun c108 => absurd c108 c52)
                        refine lv_iload_n hx hb d_Mo_start_326 rfl (lv_at hl 2 rfl) ?_
                        refine lv_bipush (v := 123) hx hb d_Mo_start_327 (by decide) ?_
                        refine lv_icmp_ne (tgt := 364) hx hb d_Mo_start_329 (by decide) (fun _ => ?_) (fun c109 => absurd c109 c63)
                        refine lv_iload_n hx hb d_Mo_start_364 rfl (lv_at hl 2 rfl) ?_
                        refine lv_bipush (v := 94) hx hb d_Mo_start_365 (by decide) ?_
                        refine lv_icmp_eq (tgt := 376) hx hb d_Mo_start_367 (by decide) (fun c110 => absurd c110 c79) (fun _ => ?_)
                        refine lv_iload_n hx hb d_Mo_start_370 rfl (lv_at hl 2 rfl) ?_
                        refine lv_bipush (v := 63) hx hb d_Mo_start_371 (by decide) ?_
                        refine lv_icmp_ne (tgt := 416) hx hb d_Mo_start_373 (by decide) (fun c111 => absurd c104 c111) (fun _ => ?_)
                        refine lv_aload_n hx hb d_Mo_start_376 rfl (lv_at hl 3 rfl) ?_
                        refine lv_iconst (v := 4) hx hb d_Mo_start_377 (by decide) ?_
                        refine lv_iconst (v := 0) hx hb d_Mo_start_378 (by decide) ?_
                        have hFc := m_free hD hS hA
                        refine va_callv (va_runV (As := [.int 4, .int 0]) (rest := []) ⟨hx, hb, hml, hown, hts⟩ (m_emit2 l dC dI ar N0 z h0 ad (upd I 6 (Int32.ofNat (P + 1))) T A U a0 (4) (0) H.size h7 (by omega)) (cwV 2 hts (x_goodV k_1152 k_1154 kp_56 k_9 k_1155) rfl rfl rfl (by decide +kernel) ⟨Nat.le_of_ble_eq_true rfl, Nat.le_of_ble_eq_true rfl⟩) ⟨x_blind, va_recv hK hP (ci := 6) (q0 := 0) rfl rfl, fun U9 hU9 hW9 => x_pre hU9 hW9 hP hD hU hZ hS hAN hN0⟩ rfl rfl hl.1 rfl (lv_room (Nat.le_of_ble_eq_true rfl)) d_Mo_start_379 ⟨Nat.le_of_ble_eq_true rfl, Nat.le_of_ble_eq_true rfl⟩) hS (fun q _ h => hFc q h) hFc (fun u t H1 locs ht hvm hw hB hz1 hk1 hS => ?_)
                        obtain ⟨I113, T113, A113, U113⟩ := u
                        dsimp only at hw hB
                        rw [ht] at hB
                        have hP : va_P (dC, dI) x_cl (m_W h0 ad ar I113 T113 A113 U113) H1 := hB
                        have hD : va_D Bq (m_W h0 ad ar I113 T113 A113 U113) := m_D hD
                        generalize H1 = H at hP hS ⊢
                        refine W.widen (k := 0) (n := 0) (Nat.le_of_ble_eq_true rfl) (Nat.le_of_ble_eq_true rfl) ?_
                        cases hw
                        refine lv_aload_n hx hb d_Mo_start_382 rfl (lv_at hl 3 rfl) ?_
                        have hFc := m_free hD hS hA
                        refine va_calli (va_runV (As := []) (rest := []) ⟨hx, hb, hml, hown, hts⟩ (m_expression l dC dI ar N0 z h0 ad (upd (upd I 6 (Int32.ofNat (P + 1))) 7 (Int32.ofNat (a0 + 2))) T (m_up A 2 (upd (upd (A 2) a0 4) (a0 + 1) 0)) U ((P + 1)) S ((a0 + 2)) H.size rfl h4 (by omega) (by omega) (by omega) rfl (by omega)) (cwV 0 hts (x_goodV k_1160 k_1162 kp_58 k_9 k_1163) rfl rfl rfl (by decide +kernel) ⟨Nat.le_of_ble_eq_true rfl, Nat.le_of_ble_eq_true rfl⟩) ⟨x_blind, va_recv hK hP (ci := 6) (q0 := 0) rfl rfl, fun U9 hU9 hW9 => x_pre hU9 hW9 hP hD hU hZ hS hAN hN0⟩ rfl rfl hl.1 rfl (lv_room (Nat.le_of_ble_eq_true rfl)) d_Mo_start_383 ⟨Nat.le_of_ble_eq_true rfl, Nat.le_of_ble_eq_true rfl⟩) hS (fun q _ h => hFc q h) hFc (fun r114 u t H1 locs ht hvm hw hB hz1 hk1 hS => ?_)
                        obtain ⟨I116, T116, A116, U116⟩ := u
                        dsimp only at hw hB
                        rw [ht] at hB
                        have hP : va_P (dC, dI) x_cl (m_W h0 ad ar I116 T116 A116 U116) H1 := hB
                        have hD : va_D Bq (m_W h0 ad ar I116 T116 A116 U116) := m_D hD
                        generalize H1 = H at hP hS ⊢
                        refine W.widen (k := 0) (n := 0) (Nat.le_of_ble_eq_true rfl) (Nat.le_of_ble_eq_true rfl) ?_
                        obtain ⟨P117, a117, i6117, p1117, p2117, hfr117, hfa117, eT, eU, hres⟩ := hw
                        cases eT
                        cases eU
                        rcases hres with rfl | ⟨rfl, p3117, i7117, l1117, l2117, tk117, ov117, lw117⟩
                        · refine lv_if_eq (tgt := 398) hx hb d_Mo_start_386 (by decide) (fun _ => ?_) (fun c118 => absurd (by decide) c118)
                          refine lv_iconst (v := (-1)) hx hb d_Mo_start_398 (by decide) ?_
                          refine W.widen (k := 0) (n := 0) (Nat.le_of_ble_eq_true rfl) (Nat.le_of_ble_eq_true rfl) ?_
                          exact W.iret (v := (-1)) hx hb hr (fun t ht hW => ⟨⟨(-1), (I116, T, A116, U), rfl, ⟨P117, i6117, by omega, by omega, ((((m_fr.rf.up (by decide) _).up (by decide) _)).tr hfr117 (by decide)), (((m_fa.rf.up (by decide) _)).tr hfa117 (by decide)), rfl, rfl, Or.inl rfl⟩, by dsimp only; rw [ht]; exact hP⟩, hS.F ht⟩) hS.2.2 d_Mo_start_399
                        · refine lv_if_eq (tgt := 398) hx hb d_Mo_start_386 (by decide) (fun c119 => absurd c119 (by decide)) (fun _ => ?_)
                          refine lv_aload_n hx hb d_Mo_start_389 rfl (lv_at hl 3 rfl) ?_
                          refine lv_bipush (v := 44) hx hb d_Mo_start_390 (by decide) ?_
                          have hFc := m_free hD hS hA
                          refine va_calli (va_runV (As := [.int 44]) (rest := []) ⟨hx, hb, hml, hown, hts⟩ (m_passes l dC dI ar N0 z h0 ad I116 T A116 U P117 S (44) H.size i6117 ((hfr117 4 (by decide)).trans h4) (by omega) (by omega)) (cwV 1 hts (x_goodV k_1136 k_1138 kp_52 k_9 k_1139) rfl rfl rfl (by decide +kernel) ⟨Nat.le_of_ble_eq_true rfl, Nat.le_of_ble_eq_true rfl⟩) ⟨x_blind, va_recv hK hP (ci := 6) (q0 := 0) rfl rfl, fun U9 hU9 hW9 => x_pre hU9 hW9 hP hD hU hZ hS hAN hN0⟩ rfl rfl hl.1 rfl (lv_room (Nat.le_of_ble_eq_true rfl)) d_Mo_start_392 ⟨Nat.le_of_ble_eq_true rfl, Nat.le_of_ble_eq_true rfl⟩) hS (fun q _ h => hFc q h) hFc (fun r120 u t H1 locs ht hvm hw hB hz1 hk1 hS => ?_)
                          obtain ⟨I122, T122, A122, U122⟩ := u
                          dsimp only at hw hB
                          rw [ht] at hB
                          have hP : va_P (dC, dI) x_cl (m_W h0 ad ar I122 T122 A122 U122) H1 := hB
                          have hD : va_D Bq (m_W h0 ad ar I122 T122 A122 U122) := m_D hD
                          generalize H1 = H at hP hS ⊢
                          refine W.widen (k := 0) (n := 0) (Nat.le_of_ble_eq_true rfl) (Nat.le_of_ble_eq_true rfl) ?_
                          rcases hw with ⟨p123, rfl, h9⟩ | ⟨p123, rfl, h9⟩
                          · cases h9
                            have hpp123 : P117 < S := m_lk0 (by rw [p123]; decide)
                            refine lv_if_ne (tgt := 400) hx hb d_Mo_start_395 (by decide) (fun _ => ?_) (fun c124 => absurd c124 (by decide))
                            refine lv_aload_n hx hb d_Mo_start_400 rfl (lv_at hl 3 rfl) ?_
                            refine lv_iload_n hx hb d_Mo_start_401 rfl (lv_at hl 2 rfl) ?_
                            refine lv_bipush (v := 94) hx hb d_Mo_start_402 (by decide) ?_
                            refine lv_icmp_ne (tgt := 411) hx hb d_Mo_start_404 (by decide) (fun _ => ?_) (fun c125 => absurd c125 c79)
                            refine lv_iconst (v := 4) hx hb d_Mo_start_411 (by decide) ?_
                            refine lv_iload_n hx hb d_Mo_start_412 rfl (lv_at hl 1 rfl) ?_
                            have hFc := m_free hD hS hA
                            refine va_callv (va_runV (As := [.int 4, .int (Int32.ofNat a0)]) (rest := []) ⟨hx, hb, hml, hown, hts⟩ (m_begin l dC dI ar N0 z h0 ad (upd I116 6 (Int32.ofNat (P117 + 1))) T A116 U (L.length) (4) ((Int32.ofNat a0)) H.size ((hfr117 18 (by decide)).trans h18) (by omega)) (cwV 2 hts (x_goodV k_1186 k_1188 kp_63 k_9 k_1189) rfl rfl rfl (by decide +kernel) ⟨Nat.le_of_ble_eq_true rfl, Nat.le_of_ble_eq_true rfl⟩) ⟨x_blind, va_recv hK hP (ci := 6) (q0 := 0) rfl rfl, fun U9 hU9 hW9 => x_pre hU9 hW9 hP hD hU hZ hS hAN hN0⟩ rfl rfl hl.1 rfl (lv_room (Nat.le_of_ble_eq_true rfl)) d_Mo_start_413 ⟨Nat.le_of_ble_eq_true rfl, Nat.le_of_ble_eq_true rfl⟩) hS (fun q _ h => hFc q h) hFc (fun u t H1 locs ht hvm hw hB hz1 hk1 hS => ?_)
                            obtain ⟨I127, T127, A127, U127⟩ := u
                            dsimp only at hw hB
                            rw [ht] at hB
                            have hP : va_P (dC, dI) x_cl (m_W h0 ad ar I127 T127 A127 U127) H1 := hB
                            have hD : va_D Bq (m_W h0 ad ar I127 T127 A127 U127) := m_D hD
                            generalize H1 = H at hP hS ⊢
                            refine W.widen (k := 0) (n := 0) (Nat.le_of_ble_eq_true rfl) (Nat.le_of_ble_eq_true rfl) ?_
                            cases hw
                            refine lv_iload_n hx hb d_Mo_start_416 rfl (lv_at hl 2 rfl) ?_
                            refine lv_bipush (v := 91) hx hb d_Mo_start_417 (by decide) ?_
                            refine lv_icmp_ne (tgt := 457) hx hb d_Mo_start_419 (by decide) (fun _ => ?_) (fun c128 => absurd (c104.symm.trans c128) (by decide))
                            refine lv_iconst (v := 1) hx hb d_Mo_start_457 (by decide) ?_
                            refine W.widen (k := 0) (n := 0) (Nat.le_of_ble_eq_true rfl) (Nat.le_of_ble_eq_true rfl) ?_
                            exact W.iret (v := 1) hx hb hr (fun t ht hW => ⟨⟨1, ((upd (upd I116 6 (Int32.ofNat (P117 + 1))) 18 (Int32.ofNat ((L.length) + 1))), T, (m_up (m_up (m_up A116 11 (upd (A116 11) (L.length) 4)) 12 (upd (A116 12) (L.length) (Int32.ofNat a0))) 13 (upd (A116 13) (L.length) 0)), U), rfl, ⟨(P117 + 1), rfl, by omega, by omega, ((((((m_fr.rf.up (by decide) _).up (by decide) _)).tr hfr117 (by decide)).up (by decide) _).up (by decide) _), ((((((m_fa.rf.up (by decide) _)).tr hfa117 (by decide)).up (by decide) _).up (by decide) _).up (by decide) _), rfl, rfl, Or.inr (Or.inr ⟨rfl, by omega, (a117 + 1), 4, by simp, i7117, by show (((a117 + 1) : Nat) : Int) ≤ 12 * (((P117 + 1) : Nat) : Int) + (m_sg L + -3); omega, rfl, by omega, by show upd (A116 11) L.length _ = _; rw [hfa117 11 (by decide)]; rfl, by show upd (A116 12) L.length _ = _; rw [hfa117 12 (by decide)]; rfl, by show upd (A116 13) L.length _ = _; rw [hfa117 13 (by decide)]; rfl, ⟨fun h9 => absurd h9 (by simp), fun _ => hst.test (by simp) 0 _ (by show A116 2 a0 = 4; rw [lw117 _ (by omega), m_up_s, upd_n (by omega), upd_s]) (tk117.mono (by omega)) ov117 (fun j hj => by show A116 2 j = A 2 j; rw [lw117 j (by omega), m_up_s, upd_n (by omega), upd_n (by omega)])⟩⟩)⟩, by dsimp only; rw [ht]; exact hP⟩, hS.F ht⟩) hS.2.2 d_Mo_start_458
                          · cases h9
                            refine lv_if_ne (tgt := 400) hx hb d_Mo_start_395 (by decide) (fun c129 => absurd rfl c129) (fun _ => ?_)
                            refine lv_iconst (v := (-1)) hx hb d_Mo_start_398 (by decide) ?_
                            refine W.widen (k := 0) (n := 0) (Nat.le_of_ble_eq_true rfl) (Nat.le_of_ble_eq_true rfl) ?_
                            exact W.iret (v := (-1)) hx hb hr (fun t ht hW => ⟨⟨(-1), (I116, T, A116, U), rfl, ⟨P117, i6117, by omega, by omega, ((((m_fr.rf.up (by decide) _).up (by decide) _)).tr hfr117 (by decide)), (((m_fa.rf.up (by decide) _)).tr hfa117 (by decide)), rfl, rfl, Or.inl rfl⟩, by dsimp only; rw [ht]; exact hP⟩, hS.F ht⟩) hS.2.2 d_Mo_start_399
                      · refine lv_iload_n hx hb d_Mo_start_242 rfl (lv_at hl 2 rfl) ?_
                        refine lv_bipush (v := 91) hx hb d_Mo_start_243 (by decide) ?_
                        refine lv_icmp_eq (tgt := 250) hx hb d_Mo_start_245 (by decide) (fun c130 => ?_) (fun c130 => ?_)
                        · have hlt : P < S := m_lke hk4 c130 (by decide)
                          refine lv_aload_n hx hb d_Mo_start_250 rfl (lv_at hl 3 rfl) ?_
                          refine lv_dup hx hb d_Mo_start_251 rfl ?_
                          refine m_g hx hb hts hown hK hP 6 (by decide) rfl (hts _ k_973) (v := .int (Int32.ofNat P)) (congrArg Value.int h6) d_Mo_start_252 ?_
                          refine lv_iconst (v := 1) hx hb d_Mo_start_255 (by decide) ?_
                          refine lv_iadd hx hb d_Mo_start_256 ?_
                          refine W.eq (g2 := F0 m 257 ls [.int (Int32.ofNat (P + 1)), .ref h0]) (by rw [← x_addN (a := P) (b := 1)] <;> rfl) ?_
                          refine m_p hx hb hts hown hK hP hD hS 6 (by decide) rfl (hts _ k_973) rfl (by decide +kernel) rfl (by decide) (x := (Int32.ofNat (P + 1))) d_Mo_start_257 (fun H locs hP hD hS => ?_)
                          refine lv_iload_n hx hb d_Mo_start_260 rfl (lv_at hl 2 rfl) ?_
                          refine lv_bipush (v := 46) hx hb d_Mo_start_261 (by decide) ?_
                          refine lv_icmp_eq (tgt := 272) hx hb d_Mo_start_263 (by decide) (fun c131 => absurd c131 c29) (fun _ => ?_)
                          refine lv_iload_n hx hb d_Mo_start_266 rfl (lv_at hl 2 rfl) ?_
                          refine lv_bipush (v := 35) hx hb d_Mo_start_267 (by decide) ?_
                          refine lv_icmp_ne (tgt := 289) hx hb d_Mo_start_269 (by decide) (fun _ => ?_) (fun c132 => absurd c132 c34)
                          refine lv_iload_n hx hb d_Mo_start_289 rfl (lv_at hl 2 rfl) ?_
                          refine lv_bipush (v := 64) hx hb d_Mo_start_290 (by decide) ?_
                          refine lv_icmp_ne (tgt := 314) hx hb d_Mo_start_292 (by decide) (fun _ => ?_) (fun c133 => absurd c133 c40)
                          refine lv_iload_n hx hb d_Mo_start_314 rfl (lv_at hl 2 rfl) ?_
                          refine lv_bipush (v := 40) hx hb d_Mo_start_315 (by decide) ?_
                          refine lv_icmp_ne (tgt := 326) hx hb d_Mo_start_317 (by decide) (fun _ => ?_) (fun c134 => absurd c134 c52)
                          refine lv_iload_n hx hb d_Mo_start_326 rfl (lv_at hl 2 rfl) ?_
                          refine lv_bipush (v := 123) hx hb d_Mo_start_327 (by decide) ?_
                          refine lv_icmp_ne (tgt := 364) hx hb d_Mo_start_329 (by decide) (fun _ => ?_) (fun c135 => absurd c135 c63)
                          refine lv_iload_n hx hb d_Mo_start_364 rfl (lv_at hl 2 rfl) ?_
                          refine lv_bipush (v := 94) hx hb d_Mo_start_365 (by decide) ?_
                          refine lv_icmp_eq (tgt := 376) hx hb d_Mo_start_367 (by decide) (fun c136 => absurd c136 c79) (fun _ => ?_)
                          refine lv_iload_n hx hb d_Mo_start_370 rfl (lv_at hl 2 rfl) ?_
                          refine lv_bipush (v := 63) hx hb d_Mo_start_371 (by decide) ?_
                          refine lv_icmp_ne (tgt := 416) hx hb d_Mo_start_373 (by decide) (fun _ => ?_) (fun c137 => absurd c137 c104)
                          refine lv_iload_n hx hb d_Mo_start_416 rfl (lv_at hl 2 rfl) ?_
                          refine lv_bipush (v := 91) hx hb d_Mo_start_417 (by decide) ?_
                          refine lv_icmp_ne (tgt := 457) hx hb d_Mo_start_419 (by decide) (fun c138 => absurd c130 c138) (fun _ => ?_)
                          refine lv_aload_n hx hb d_Mo_start_422 rfl (lv_at hl 3 rfl) ?_
                          refine lv_bipush (v := 8) hx hb d_Mo_start_423 (by decide) ?_
                          refine lv_iconst (v := 0) hx hb d_Mo_start_425 (by decide) ?_
                          have hFc := m_free hD hS hA
                          refine va_callv (va_runV (As := [.int 8, .int 0]) (rest := []) ⟨hx, hb, hml, hown, hts⟩ (m_emit2 l dC dI ar N0 z h0 ad (upd I 6 (Int32.ofNat (P + 1))) T A U a0 (8) (0) H.size h7 (by omega)) (cwV 2 hts (x_goodV k_1152 k_1154 kp_56 k_9 k_1155) rfl rfl rfl (by decide +kernel) ⟨Nat.le_of_ble_eq_true rfl, Nat.le_of_ble_eq_true rfl⟩) ⟨x_blind, va_recv hK hP (ci := 6) (q0 := 0) rfl rfl, fun U9 hU9 hW9 => x_pre hU9 hW9 hP hD hU hZ hS hAN hN0⟩ rfl rfl hl.1 rfl (lv_room (Nat.le_of_ble_eq_true rfl)) d_Mo_start_426 ⟨Nat.le_of_ble_eq_true rfl, Nat.le_of_ble_eq_true rfl⟩) hS (fun q _ h => hFc q h) hFc (fun u t H1 locs ht hvm hw hB hz1 hk1 hS => ?_)
                          obtain ⟨I140, T140, A140, U140⟩ := u
                          dsimp only at hw hB
                          rw [ht] at hB
                          have hP : va_P (dC, dI) x_cl (m_W h0 ad ar I140 T140 A140 U140) H1 := hB
                          have hD : va_D Bq (m_W h0 ad ar I140 T140 A140 U140) := m_D hD
                          generalize H1 = H at hP hS ⊢
                          refine W.widen (k := 0) (n := 0) (Nat.le_of_ble_eq_true rfl) (Nat.le_of_ble_eq_true rfl) ?_
                          cases hw
                          refine lv_iconst (v := 0) hx hb d_Mo_start_429 (by decide) ?_
                          refine W.eq (g2 := F0 m 430 ls [.int (Int32.ofNat 0)]) rfl ?_
                          refine lv_istore (lv' := [(5, .int (Int32.ofNat 0)), (4, .int (x_ch r1)), (3, .int (Int32.ofNat a0)), (2, .int r1), (0, .ref h0), (1, .int (Int32.ofNat dv))]) hx hb d_Mo_start_430 hl (by decide) rfl (fun ls hl => ?_)
                          refine x_while (fun n H locs ls => ∃ (F : Nat → Int32) (i1 : Nat), n = 16 - i1 ∧ i1 ≤ 16 ∧ F a0 = 8 ∧ (∀ j, j < a0 → F j = A 2 j) ∧ va_P (dC, dI) x_cl (m_W h0 ad ar (upd (upd I 6 (Int32.ofNat (P + 1))) 7 (Int32.ofNat (a0 + 2 + i1))) T (m_up A 2 F) U) H ∧ va_D Bq (m_W h0 ad ar (upd (upd I 6 (Int32.ofNat (P + 1))) 7 (Int32.ofNat (a0 + 2 + i1))) T (m_up A 2 F) U) ∧ va_S Bq s.heap H locs ∧ lv_has ls 6 [(0, .ref h0), (2, .int r1), (3, .int (Int32.ofNat a0)), (5, .int (Int32.ofNat i1))]) (fun n ih H locs ls h9 => ?_) ⟨(upd (upd (A 2) a0 8) (a0 + 1) 0), 0, rfl, by omega, by rw [upd_n (by omega), upd_s], fun j hj => by rw [upd_n (by omega), upd_n (by omega)], hP, hD, hS, lv_sub hl [4, 3, 2, 0] rfl⟩
                          obtain ⟨F, i1, hn9, q1, f1, f2, hP, hD, hS, hl⟩ := h9
                          refine lv_iload hx hb d_Mo_start_432 (lv_at hl 3 rfl) ?_
                          refine lv_bipush (v := 16) hx hb d_Mo_start_434 (by decide) ?_
                          refine lv_icmp_ge (tgt := 450) hx hb d_Mo_start_436 (by decide) (fun c141 => ?_) (fun c141 => ?_)
                          · have c141 : 16 ≤ i1 := (x_leN (a := 16) (b := i1) (by omega) (by omega)).mp c141
                            have ei1 : i1 = 16 := by omega
                            subst ei1
                            have hP : va_P (dC, dI) x_cl (m_W h0 ad ar (upd (upd I 6 (Int32.ofNat (P + 1))) 7 (Int32.ofNat (a0 + 18))) T (m_up A 2 F) U) H := hP
                            have hD : va_D Bq (m_W h0 ad ar (upd (upd I 6 (Int32.ofNat (P + 1))) 7 (Int32.ofNat (a0 + 18))) T (m_up A 2 F) U) := hD
                            refine lv_aload_n hx hb d_Mo_start_450 rfl (lv_at hl 0 rfl) ?_
                            refine lv_bipush (v := 6) hx hb d_Mo_start_451 (by decide) ?_
                            refine lv_iload_n hx hb d_Mo_start_453 rfl (lv_at hl 2 rfl) ?_
                            have hFc := m_free hD hS hA
                            refine va_callv (va_runV (As := [.int 6, .int (Int32.ofNat a0)]) (rest := []) ⟨hx, hb, hml, hown, hts⟩ (m_begin l dC dI ar N0 z h0 ad (upd (upd I 6 (Int32.ofNat (P + 1))) 7 (Int32.ofNat (a0 + 18))) T (m_up A 2 F) U (L.length) (6) ((Int32.ofNat a0)) H.size h18 (by omega)) (cwV 2 hts (x_goodV k_1186 k_1188 kp_63 k_9 k_1189) rfl rfl rfl (by decide +kernel) ⟨Nat.le_of_ble_eq_true rfl, Nat.le_of_ble_eq_true rfl⟩) ⟨x_blind, va_recv hK hP (ci := 6) (q0 := 0) rfl rfl, fun U9 hU9 hW9 => x_pre hU9 hW9 hP hD hU hZ hS hAN hN0⟩ rfl rfl hl.1 rfl (lv_room (Nat.le_of_ble_eq_true rfl)) d_Mo_start_454 ⟨Nat.le_of_ble_eq_true rfl, Nat.le_of_ble_eq_true rfl⟩) hS (fun q _ h => hFc q h) hFc (fun u t H1 locs ht hvm hw hB hz1 hk1 hS => ?_)
                            obtain ⟨I143, T143, A143, U143⟩ := u
                            dsimp only at hw hB
                            rw [ht] at hB
                            have hP : va_P (dC, dI) x_cl (m_W h0 ad ar I143 T143 A143 U143) H1 := hB
                            have hD : va_D Bq (m_W h0 ad ar I143 T143 A143 U143) := m_D hD
                            generalize H1 = H at hP hS ⊢
                            refine W.widen (k := 0) (n := 0) (Nat.le_of_ble_eq_true rfl) (Nat.le_of_ble_eq_true rfl) ?_
                            cases hw
                            refine lv_iconst (v := 1) hx hb d_Mo_start_457 (by decide) ?_
                            refine W.widen (k := 0) (n := 0) (Nat.le_of_ble_eq_true rfl) (Nat.le_of_ble_eq_true rfl) ?_
                            exact W.iret (v := 1) hx hb hr (fun t ht hW => ⟨⟨1, ((upd (upd (upd I 6 (Int32.ofNat (P + 1))) 7 (Int32.ofNat (a0 + 18))) 18 (Int32.ofNat ((L.length) + 1))), T, (m_up (m_up (m_up (m_up A 2 F) 11 (upd ((m_up A 2 F) 11) (L.length) 6)) 12 (upd ((m_up A 2 F) 12) (L.length) (Int32.ofNat a0))) 13 (upd ((m_up A 2 F) 13) (L.length) 0)), U), rfl, ⟨(P + 1), rfl, by omega, by omega, (((m_fr.rf.up (by decide) _).up (by decide) _).up (by decide) _), ((((m_fa.rf.up (by decide) _).up (by decide) _).up (by decide) _).up (by decide) _), rfl, rfl, Or.inr (Or.inr ⟨rfl, by omega, (a0 + 18), 6, by simp, rfl, by show (((a0 + 18) : Nat) : Int) ≤ 12 * (((P + 1) : Nat) : Int) + (m_sg L + 9); omega, rfl, by omega, rfl, rfl, rfl, ⟨fun _ => ⟨hst.alt _ (by show F a0 = _; exact f1) (fun j hj => by show F j = _; exact f2 j hj), fun _ => rfl⟩, fun h9 => absurd (by simp) h9⟩⟩)⟩, by dsimp only; rw [ht]; exact hP⟩, hS.F ht⟩) hS.2.2 d_Mo_start_458
                          · have c141 : ¬ 16 ≤ i1 := fun h9 => c141 ((x_leN (a := 16) (b := i1) (by omega) (by omega)).mpr h9)
                            refine lv_aload_n hx hb d_Mo_start_439 rfl (lv_at hl 0 rfl) ?_
                            refine lv_iconst (v := 0) hx hb d_Mo_start_440 (by decide) ?_
                            have hFc := m_free hD hS hA
                            refine va_callv (va_runV (As := [.int 0]) (rest := []) ⟨hx, hb, hml, hown, hts⟩ (m_emit l dC dI ar N0 z h0 ad (upd (upd I 6 (Int32.ofNat (P + 1))) 7 (Int32.ofNat (a0 + 2 + i1))) T (m_up A 2 F) U ((a0 + 2 + i1)) (0) H.size rfl (by omega)) (cwV 1 hts (x_goodV k_1148 k_1150 kp_55 k_9 k_1151) rfl rfl rfl (by decide +kernel) ⟨Nat.le_of_ble_eq_true rfl, Nat.le_of_ble_eq_true rfl⟩) ⟨x_blind, va_recv hK hP (ci := 6) (q0 := 0) rfl rfl, fun U9 hU9 hW9 => x_pre hU9 hW9 hP hD hU hZ hS hAN hN0⟩ rfl rfl hl.1 rfl (lv_room (Nat.le_of_ble_eq_true rfl)) d_Mo_start_441 ⟨Nat.le_of_ble_eq_true rfl, Nat.le_of_ble_eq_true rfl⟩) hS (fun q _ h => hFc q h) hFc (fun u t H1 locs ht hvm hw hB hz1 hk1 hS => ?_)
                            obtain ⟨I145, T145, A145, U145⟩ := u
                            dsimp only at hw hB
                            rw [ht] at hB
                            have hP : va_P (dC, dI) x_cl (m_W h0 ad ar I145 T145 A145 U145) H1 := hB
                            have hD : va_D Bq (m_W h0 ad ar I145 T145 A145 U145) := m_D hD
                            generalize H1 = H at hP hS ⊢
                            refine W.widen (k := 0) (n := 0) (Nat.le_of_ble_eq_true rfl) (Nat.le_of_ble_eq_true rfl) ?_
                            cases hw
                            rw [m_up_up, m_up_s] at hP hD
                            have hP : va_P (dC, dI) x_cl (m_W h0 ad ar (upd (upd (upd I 6 (Int32.ofNat (P + 1))) 7 (Int32.ofNat (a0 + 2 + i1))) 7 (Int32.ofNat (((a0 + 2 + i1)) + 1))) T (m_up A 2 (upd F ((a0 + 2 + i1)) 0)) U) H := hP
                            have hD : va_D Bq (m_W h0 ad ar (upd (upd (upd I 6 (Int32.ofNat (P + 1))) 7 (Int32.ofNat (a0 + 2 + i1))) 7 (Int32.ofNat (((a0 + 2 + i1)) + 1))) T (m_up A 2 (upd F ((a0 + 2 + i1)) 0)) U) := hD
                            refine lv_iinc (v := (Int32.ofNat (i1 + 1))) (lv' := [(5, .int (Int32.ofNat (i1 + 1))), (0, .ref h0), (2, .int r1), (3, .int (Int32.ofNat a0))]) hx hb d_Mo_start_444 hl (k := 3) rfl (x_incN i1) (by decide) rfl (fun ls hl => ?_)
                            refine lv_goto (tgt := 432) hx hb d_Mo_start_447 (by decide) ?_
                            rw [upd_upd] at hP hD
                            exact ih (16 - (i1 + 1)) (by omega) H locs ls ⟨(upd F ((a0 + 2 + i1)) 0), i1 + 1, rfl, by omega, by rw [upd_n (by omega)]; exact f1, fun j hj => by rw [upd_n (by omega)]; exact f2 j hj, hP, hD, hS, lv_sub hl [1, 2, 3, 0] rfl⟩
                        · refine lv_iconst (v := (-1)) hx hb d_Mo_start_248 (by decide) ?_
                          refine W.widen (k := 0) (n := 0) (Nat.le_of_ble_eq_true rfl) (Nat.le_of_ble_eq_true rfl) ?_
                          exact W.iret (v := (-1)) hx hb hr (fun t ht hW => ⟨⟨(-1), (I, T, A, U), rfl, ⟨P, h6, by omega, by omega, m_fr.rf, m_fa.rf, rfl, rfl, Or.inl rfl⟩, by dsimp only; rw [ht]; exact hP⟩, hS.F ht⟩) hS.2.2 d_Mo_start_249
      · have hlt : P < S := x_ch_0 hk4 c27
        refine lv_aload_n hx hb d_Mo_start_95 rfl (lv_at hl 3 rfl) ?_
        refine lv_dup hx hb d_Mo_start_96 rfl ?_
        refine m_g hx hb hts hown hK hP 6 (by decide) rfl (hts _ k_973) (v := .int (Int32.ofNat P)) (congrArg Value.int h6) d_Mo_start_97 ?_
        refine lv_iconst (v := 1) hx hb d_Mo_start_100 (by decide) ?_
        refine lv_iadd hx hb d_Mo_start_101 ?_
        refine W.eq (g2 := F0 m 102 ls [.int (Int32.ofNat (P + 1)), .ref h0]) (by rw [← x_addN (a := P) (b := 1)] <;> rfl) ?_
        refine m_p hx hb hts hown hK hP hD hS 6 (by decide) rfl (hts _ k_973) rfl (by decide +kernel) rfl (by decide) (x := (Int32.ofNat (P + 1))) d_Mo_start_102 (fun H locs hP hD hS => ?_)
        refine lv_iload hx hb d_Mo_start_105 (lv_at hl 0 rfl) ?_
        refine lv_iconst (v := 4) hx hb d_Mo_start_107 (by decide) ?_
        refine lv_icmp_eq (tgt := 141) hx hb d_Mo_start_108 (by decide) (fun c146 => ?_) (fun c146 => ?_)
        · refine lv_iload hx hb d_Mo_start_141 (lv_at hl 0 rfl) ?_
          refine lv_iconst (v := 5) hx hb d_Mo_start_143 (by decide) ?_
          refine lv_icmp_eq (tgt := 163) hx hb d_Mo_start_144 (by decide) (fun c147 => absurd (c146.symm.trans c147) (by decide)) (fun _ => ?_)
          refine lv_aload_n hx hb d_Mo_start_147 rfl (lv_at hl 3 rfl) ?_
          refine lv_bipush (v := 63) hx hb d_Mo_start_148 (by decide) ?_
          have hFc := m_free hD hS hA
          refine va_calli (va_runV (As := [.int 63]) (rest := []) ⟨hx, hb, hml, hown, hts⟩ (m_passes l dC dI ar N0 z h0 ad (upd I 6 (Int32.ofNat (P + 1))) T A U ((P + 1)) S (63) H.size rfl h4 (by omega) (by omega)) (cwV 1 hts (x_goodV k_1136 k_1138 kp_52 k_9 k_1139) rfl rfl rfl (by decide +kernel) ⟨Nat.le_of_ble_eq_true rfl, Nat.le_of_ble_eq_true rfl⟩) ⟨x_blind, va_recv hK hP (ci := 6) (q0 := 0) rfl rfl, fun U9 hU9 hW9 => x_pre hU9 hW9 hP hD hU hZ hS hAN hN0⟩ rfl rfl hl.1 rfl (lv_room (Nat.le_of_ble_eq_true rfl)) d_Mo_start_150 ⟨Nat.le_of_ble_eq_true rfl, Nat.le_of_ble_eq_true rfl⟩) hS (fun q _ h => hFc q h) hFc (fun r148 u t H1 locs ht hvm hw hB hz1 hk1 hS => ?_)
          obtain ⟨I150, T150, A150, U150⟩ := u
          dsimp only at hw hB
          rw [ht] at hB
          have hP : va_P (dC, dI) x_cl (m_W h0 ad ar I150 T150 A150 U150) H1 := hB
          have hD : va_D Bq (m_W h0 ad ar I150 T150 A150 U150) := m_D hD
          generalize H1 = H at hP hS ⊢
          refine W.widen (k := 0) (n := 0) (Nat.le_of_ble_eq_true rfl) (Nat.le_of_ble_eq_true rfl) ?_
          rcases hw with ⟨p151, rfl, h9⟩ | ⟨p151, rfl, h9⟩
          · cases h9
            have hpp151 : (P + 1) < S := m_lk0 (by rw [p151]; decide)
            refine lv_if_eq (tgt := 163) hx hb d_Mo_start_153 (by decide) (fun c152 => absurd c152 (by decide)) (fun _ => ?_)
            refine lv_aload_n hx hb d_Mo_start_156 rfl (lv_at hl 3 rfl) ?_
            have hFc := m_free hD hS hA
            refine va_calli (va_runV (As := []) (rest := []) ⟨hx, hb, hml, hown, hts⟩ (m_isVariable l dC dI ar N0 z h0 ad (upd (upd I 6 (Int32.ofNat (P + 1))) 6 (Int32.ofNat ((P + 1) + 1))) T A U (((P + 1) + 1)) S H.size rfl h4 (by omega) (by omega)) (cwV 0 hts (x_goodV k_1164 k_1166 kp_59 k_9 k_1167) rfl rfl rfl (by decide +kernel) ⟨Nat.le_of_ble_eq_true rfl, Nat.le_of_ble_eq_true rfl⟩) ⟨x_blind, va_recv hK hP (ci := 6) (q0 := 0) rfl rfl, fun U9 hU9 hW9 => x_pre hU9 hW9 hP hD hU hZ hS hAN hN0⟩ rfl rfl hl.1 rfl (lv_room (Nat.le_of_ble_eq_true rfl)) d_Mo_start_157 ⟨Nat.le_of_ble_eq_true rfl, Nat.le_of_ble_eq_true rfl⟩) hS (fun q _ h => hFc q h) hFc (fun r153 u t H1 locs ht hvm hw hB hz1 hk1 hS => ?_)
            obtain ⟨I155, T155, A155, U155⟩ := u
            dsimp only at hw hB
            rw [ht] at hB
            have hP : va_P (dC, dI) x_cl (m_W h0 ad ar I155 T155 A155 U155) H1 := hB
            have hD : va_D Bq (m_W h0 ad ar I155 T155 A155 U155) := m_D hD
            generalize H1 = H at hP hS ⊢
            refine W.widen (k := 0) (n := 0) (Nat.le_of_ble_eq_true rfl) (Nat.le_of_ble_eq_true rfl) ?_
            obtain ⟨h9, hw⟩ := hw
            cases h9
            rcases hw with ⟨v156, rfl⟩ | ⟨v156, rfl⟩
            · have v156 := v156
              refine lv_if_ne (tgt := 165) hx hb d_Mo_start_160 (by decide) (fun _ => ?_) (fun c157 => absurd c157 (by decide))
              obtain ⟨c9, hc9, ec9⟩ := x_ch_ok c27 (by rw [c146]; decide)
              have hps9 : ((P + 1) + 1) < S := m_lkv v156
              refine lv_aload_n hx hb d_Mo_start_165 rfl (lv_at hl 3 rfl) ?_
              refine lv_bipush (v := 7) hx hb d_Mo_start_166 (by decide) ?_
              refine lv_iload hx hb d_Mo_start_168 (lv_at hl 0 rfl) ?_
              refine W.eq (g2 := F0 m 170 ls [.int (Int32.ofNat c9), .int 7, .ref h0]) (by rw [ec9]) ?_
              have hFc := m_free hD hS hA
              refine va_callv (va_runV (As := [.int 7, .int (Int32.ofNat c9)]) (rest := []) ⟨hx, hb, hml, hown, hts⟩ (m_emit2 l dC dI ar N0 z h0 ad (upd (upd I 6 (Int32.ofNat (P + 1))) 6 (Int32.ofNat ((P + 1) + 1))) T A U a0 (7) ((Int32.ofNat c9)) H.size h7 (by omega)) (cwV 2 hts (x_goodV k_1152 k_1154 kp_56 k_9 k_1155) rfl rfl rfl (by decide +kernel) ⟨Nat.le_of_ble_eq_true rfl, Nat.le_of_ble_eq_true rfl⟩) ⟨x_blind, va_recv hK hP (ci := 6) (q0 := 0) rfl rfl, fun U9 hU9 hW9 => x_pre hU9 hW9 hP hD hU hZ hS hAN hN0⟩ rfl rfl hl.1 rfl (lv_room (Nat.le_of_ble_eq_true rfl)) d_Mo_start_170 ⟨Nat.le_of_ble_eq_true rfl, Nat.le_of_ble_eq_true rfl⟩) hS (fun q _ h => hFc q h) hFc (fun u t H1 locs ht hvm hw hB hz1 hk1 hS => ?_)
              obtain ⟨I159, T159, A159, U159⟩ := u
              dsimp only at hw hB
              rw [ht] at hB
              have hP : va_P (dC, dI) x_cl (m_W h0 ad ar I159 T159 A159 U159) H1 := hB
              have hD : va_D Bq (m_W h0 ad ar I159 T159 A159 U159) := m_D hD
              generalize H1 = H at hP hS ⊢
              refine W.widen (k := 0) (n := 0) (Nat.le_of_ble_eq_true rfl) (Nat.le_of_ble_eq_true rfl) ?_
              cases hw
              refine lv_aload_n hx hb d_Mo_start_173 rfl (lv_at hl 3 rfl) ?_
              refine lv_aload_n hx hb d_Mo_start_174 rfl (lv_at hl 3 rfl) ?_
              have hFc := m_free hD hS hA
              refine va_calli (va_runV (As := []) (rest := [.ref h0]) ⟨hx, hb, hml, hown, hts⟩ (m_look l dC dI ar N0 z h0 ad (upd (upd (upd I 6 (Int32.ofNat (P + 1))) 6 (Int32.ofNat ((P + 1) + 1))) 7 (Int32.ofNat (a0 + 2))) T (m_up A 2 (upd (upd (A 2) a0 7) (a0 + 1) (Int32.ofNat c9))) U (((P + 1) + 1)) S H.size rfl h4 (by omega) (by omega)) (cwV 0 hts (x_goodV k_1140 k_1142 kp_53 k_9 k_1143) rfl rfl rfl (by decide +kernel) ⟨Nat.le_of_ble_eq_true rfl, Nat.le_of_ble_eq_true rfl⟩) ⟨x_blind, va_recv hK hP (ci := 6) (q0 := 0) rfl rfl, fun U9 hU9 hW9 => x_pre hU9 hW9 hP hD hU hZ hS hAN hN0⟩ rfl rfl hl.1 rfl (lv_room (Nat.le_of_ble_eq_true rfl)) d_Mo_start_175 ⟨Nat.le_of_ble_eq_true rfl, Nat.le_of_ble_eq_true rfl⟩) hS (fun q _ h => hFc q h) hFc (fun r160 u t H1 locs ht hvm hw hB hz1 hk1 hS => ?_)
              obtain ⟨I162, T162, A162, U162⟩ := u
              dsimp only at hw hB
              rw [ht] at hB
              have hP : va_P (dC, dI) x_cl (m_W h0 ad ar I162 T162 A162 U162) H1 := hB
              have hD : va_D Bq (m_W h0 ad ar I162 T162 A162 U162) := m_D hD
              generalize H1 = H at hP hS ⊢
              refine W.widen (k := 0) (n := 0) (Nat.le_of_ble_eq_true rfl) (Nat.le_of_ble_eq_true rfl) ?_
              obtain ⟨h9, hk163⟩ := hw
              cases h9
              refine lv_bipush (v := 97) hx hb d_Mo_start_178 (by decide) ?_
              obtain ⟨v9, hv9, ev9⟩ := m_var (c := r160) (by rw [hk163]; exact v156)
              refine lv_isub hx hb d_Mo_start_180 ?_
              refine W.eq (g2 := F0 m 181 ls [.int (Int32.ofNat v9), .ref h0]) (by rw [ev9]) ?_
              have hFc := m_free hD hS hA
              refine va_callv (va_runV (As := [.int (Int32.ofNat v9)]) (rest := []) ⟨hx, hb, hml, hown, hts⟩ (m_emit l dC dI ar N0 z h0 ad (upd (upd (upd I 6 (Int32.ofNat (P + 1))) 6 (Int32.ofNat ((P + 1) + 1))) 7 (Int32.ofNat (a0 + 2))) T (m_up A 2 (upd (upd (A 2) a0 7) (a0 + 1) (Int32.ofNat c9))) U ((a0 + 2)) ((Int32.ofNat v9)) H.size rfl (by omega)) (cwV 1 hts (x_goodV k_1148 k_1150 kp_55 k_9 k_1151) rfl rfl rfl (by decide +kernel) ⟨Nat.le_of_ble_eq_true rfl, Nat.le_of_ble_eq_true rfl⟩) ⟨x_blind, va_recv hK hP (ci := 6) (q0 := 0) rfl rfl, fun U9 hU9 hW9 => x_pre hU9 hW9 hP hD hU hZ hS hAN hN0⟩ rfl rfl hl.1 rfl (lv_room (Nat.le_of_ble_eq_true rfl)) d_Mo_start_181 ⟨Nat.le_of_ble_eq_true rfl, Nat.le_of_ble_eq_true rfl⟩) hS (fun q _ h => hFc q h) hFc (fun u t H1 locs ht hvm hw hB hz1 hk1 hS => ?_)
              obtain ⟨I165, T165, A165, U165⟩ := u
              dsimp only at hw hB
              rw [ht] at hB
              have hP : va_P (dC, dI) x_cl (m_W h0 ad ar I165 T165 A165 U165) H1 := hB
              have hD : va_D Bq (m_W h0 ad ar I165 T165 A165 U165) := m_D hD
              generalize H1 = H at hP hS ⊢
              refine W.widen (k := 0) (n := 0) (Nat.le_of_ble_eq_true rfl) (Nat.le_of_ble_eq_true rfl) ?_
              cases hw
              rw [m_up_up, m_up_s] at hP hD
              have hP : va_P (dC, dI) x_cl (m_W h0 ad ar (upd (upd (upd (upd I 6 (Int32.ofNat (P + 1))) 6 (Int32.ofNat ((P + 1) + 1))) 7 (Int32.ofNat (a0 + 2))) 7 (Int32.ofNat (((a0 + 2)) + 1))) T (m_up A 2 (upd (upd (upd (A 2) a0 7) (a0 + 1) (Int32.ofNat c9)) ((a0 + 2)) (Int32.ofNat v9))) U) H := hP
              have hD : va_D Bq (m_W h0 ad ar (upd (upd (upd (upd I 6 (Int32.ofNat (P + 1))) 6 (Int32.ofNat ((P + 1) + 1))) 7 (Int32.ofNat (a0 + 2))) 7 (Int32.ofNat (((a0 + 2)) + 1))) T (m_up A 2 (upd (upd (upd (A 2) a0 7) (a0 + 1) (Int32.ofNat c9)) ((a0 + 2)) (Int32.ofNat v9))) U) := hD
              refine lv_aload_n hx hb d_Mo_start_184 rfl (lv_at hl 3 rfl) ?_
              refine lv_dup hx hb d_Mo_start_185 rfl ?_
              refine m_g hx hb hts hown hK hP 6 (by decide) rfl (hts _ k_973) (v := .int (Int32.ofNat ((P + 1) + 1))) rfl d_Mo_start_186 ?_
              refine lv_iconst (v := 1) hx hb d_Mo_start_189 (by decide) ?_
              refine lv_iadd hx hb d_Mo_start_190 ?_
              refine W.eq (g2 := F0 m 191 ls [.int (Int32.ofNat (((P + 1) + 1) + 1)), .ref h0]) (by rw [← x_addN (a := ((P + 1) + 1)) (b := 1)] <;> rfl) ?_
              refine m_p hx hb hts hown hK hP hD hS 6 (by decide) rfl (hts _ k_973) rfl (by decide +kernel) rfl (by decide) (x := (Int32.ofNat (((P + 1) + 1) + 1))) d_Mo_start_191 (fun H locs hP hD hS => ?_)
              refine lv_iconst (v := 0) hx hb d_Mo_start_194 (by decide) ?_
              refine W.widen (k := 0) (n := 0) (Nat.le_of_ble_eq_true rfl) (Nat.le_of_ble_eq_true rfl) ?_
              exact W.iret (v := 0) hx hb hr (fun t ht hW => ⟨⟨0, ((upd (upd (upd (upd (upd I 6 (Int32.ofNat (P + 1))) 6 (Int32.ofNat ((P + 1) + 1))) 7 (Int32.ofNat (a0 + 2))) 7 (Int32.ofNat (((a0 + 2)) + 1))) 6 (Int32.ofNat (((P + 1) + 1) + 1))), T, (m_up A 2 (upd (upd (upd (A 2) a0 7) (a0 + 1) (Int32.ofNat c9)) ((a0 + 2)) (Int32.ofNat v9))), U), rfl, ⟨(((P + 1) + 1) + 1), rfl, by omega, by omega, (((((m_fr.rf.up (by decide) _).up (by decide) _).up (by decide) _).up (by decide) _).up (by decide) _), (m_fa.rf.up (by decide) _), rfl, rfl, Or.inr (Or.inl ⟨rfl, by omega, (((a0 + 2)) + 1), rfl, by omega, h18, rfl, rfl, rfl, hst.inp hc9 hv9 (by dsimp only; rw [m_up_s, upd_n (by omega), upd_n (by omega), upd_s]) (by dsimp only; rw [m_up_s, upd_n (by omega), upd_s]) (by dsimp only; rw [m_up_s, upd_s]) (fun j hj => by dsimp only; rw [m_up_s, upd_n (by omega), upd_n (by omega), upd_n (by omega)])⟩)⟩, by dsimp only; rw [ht]; exact hP⟩, hS.F ht⟩) hS.2.2 d_Mo_start_195
            · have v156 := v156
              refine lv_if_ne (tgt := 165) hx hb d_Mo_start_160 (by decide) (fun c166 => absurd rfl c166) (fun _ => ?_)
              refine lv_iconst (v := (-1)) hx hb d_Mo_start_163 (by decide) ?_
              refine W.widen (k := 0) (n := 0) (Nat.le_of_ble_eq_true rfl) (Nat.le_of_ble_eq_true rfl) ?_
              exact W.iret (v := (-1)) hx hb hr (fun t ht hW => ⟨⟨(-1), ((upd (upd I 6 (Int32.ofNat (P + 1))) 6 (Int32.ofNat ((P + 1) + 1))), T, A, U), rfl, ⟨((P + 1) + 1), rfl, by omega, by omega, ((m_fr.rf.up (by decide) _).up (by decide) _), m_fa.rf, rfl, rfl, Or.inl rfl⟩, by dsimp only; rw [ht]; exact hP⟩, hS.F ht⟩) hS.2.2 d_Mo_start_164
          · cases h9
            refine lv_if_eq (tgt := 163) hx hb d_Mo_start_153 (by decide) (fun _ => ?_) (fun c167 => absurd (by decide) c167)
            refine lv_iconst (v := (-1)) hx hb d_Mo_start_163 (by decide) ?_
            refine W.widen (k := 0) (n := 0) (Nat.le_of_ble_eq_true rfl) (Nat.le_of_ble_eq_true rfl) ?_
            exact W.iret (v := (-1)) hx hb hr (fun t ht hW => ⟨⟨(-1), ((upd I 6 (Int32.ofNat (P + 1))), T, A, U), rfl, ⟨(P + 1), rfl, by omega, by omega, (m_fr.rf.up (by decide) _), m_fa.rf, rfl, rfl, Or.inl rfl⟩, by dsimp only; rw [ht]; exact hP⟩, hS.F ht⟩) hS.2.2 d_Mo_start_164
        · refine lv_aload_n hx hb d_Mo_start_111 rfl (lv_at hl 3 rfl) ?_
          refine lv_bipush (v := 33) hx hb d_Mo_start_112 (by decide) ?_
          have hFc := m_free hD hS hA
          refine va_calli (va_runV (As := [.int 33]) (rest := []) ⟨hx, hb, hml, hown, hts⟩ (m_passes l dC dI ar N0 z h0 ad (upd I 6 (Int32.ofNat (P + 1))) T A U ((P + 1)) S (33) H.size rfl h4 (by omega) (by omega)) (cwV 1 hts (x_goodV k_1136 k_1138 kp_52 k_9 k_1139) rfl rfl rfl (by decide +kernel) ⟨Nat.le_of_ble_eq_true rfl, Nat.le_of_ble_eq_true rfl⟩) ⟨x_blind, va_recv hK hP (ci := 6) (q0 := 0) rfl rfl, fun U9 hU9 hW9 => x_pre hU9 hW9 hP hD hU hZ hS hAN hN0⟩ rfl rfl hl.1 rfl (lv_room (Nat.le_of_ble_eq_true rfl)) d_Mo_start_114 ⟨Nat.le_of_ble_eq_true rfl, Nat.le_of_ble_eq_true rfl⟩) hS (fun q _ h => hFc q h) hFc (fun r168 u t H1 locs ht hvm hw hB hz1 hk1 hS => ?_)
          obtain ⟨I170, T170, A170, U170⟩ := u
          dsimp only at hw hB
          rw [ht] at hB
          have hP : va_P (dC, dI) x_cl (m_W h0 ad ar I170 T170 A170 U170) H1 := hB
          have hD : va_D Bq (m_W h0 ad ar I170 T170 A170 U170) := m_D hD
          generalize H1 = H at hP hS ⊢
          refine W.widen (k := 0) (n := 0) (Nat.le_of_ble_eq_true rfl) (Nat.le_of_ble_eq_true rfl) ?_
          rcases hw with ⟨p171, rfl, h9⟩ | ⟨p171, rfl, h9⟩
          · cases h9
            have hpp171 : (P + 1) < S := m_lk0 (by rw [p171]; decide)
            refine lv_if_eq (tgt := 141) hx hb d_Mo_start_117 (by decide) (fun c172 => absurd c172 (by decide)) (fun _ => ?_)
            obtain ⟨c9, hc9, ec9⟩ := x_ch_out c27 c146
            refine lv_aload_n hx hb d_Mo_start_120 rfl (lv_at hl 3 rfl) ?_
            refine lv_bipush (v := 6) hx hb d_Mo_start_121 (by decide) ?_
            refine lv_iload hx hb d_Mo_start_123 (lv_at hl 0 rfl) ?_
            refine W.eq (g2 := F0 m 125 ls [.int (Int32.ofNat c9), .int 6, .ref h0]) (by rw [ec9]) ?_
            have hFc := m_free hD hS hA
            refine va_callv (va_runV (As := [.int 6, .int (Int32.ofNat c9)]) (rest := []) ⟨hx, hb, hml, hown, hts⟩ (m_emit2 l dC dI ar N0 z h0 ad (upd (upd I 6 (Int32.ofNat (P + 1))) 6 (Int32.ofNat ((P + 1) + 1))) T A U a0 (6) ((Int32.ofNat c9)) H.size h7 (by omega)) (cwV 2 hts (x_goodV k_1152 k_1154 kp_56 k_9 k_1155) rfl rfl rfl (by decide +kernel) ⟨Nat.le_of_ble_eq_true rfl, Nat.le_of_ble_eq_true rfl⟩) ⟨x_blind, va_recv hK hP (ci := 6) (q0 := 0) rfl rfl, fun U9 hU9 hW9 => x_pre hU9 hW9 hP hD hU hZ hS hAN hN0⟩ rfl rfl hl.1 rfl (lv_room (Nat.le_of_ble_eq_true rfl)) d_Mo_start_125 ⟨Nat.le_of_ble_eq_true rfl, Nat.le_of_ble_eq_true rfl⟩) hS (fun q _ h => hFc q h) hFc (fun u t H1 locs ht hvm hw hB hz1 hk1 hS => ?_)
            obtain ⟨I174, T174, A174, U174⟩ := u
            dsimp only at hw hB
            rw [ht] at hB
            have hP : va_P (dC, dI) x_cl (m_W h0 ad ar I174 T174 A174 U174) H1 := hB
            have hD : va_D Bq (m_W h0 ad ar I174 T174 A174 U174) := m_D hD
            generalize H1 = H at hP hS ⊢
            refine W.widen (k := 0) (n := 0) (Nat.le_of_ble_eq_true rfl) (Nat.le_of_ble_eq_true rfl) ?_
            cases hw
            refine lv_aload_n hx hb d_Mo_start_128 rfl (lv_at hl 3 rfl) ?_
            have hFc := m_free hD hS hA
            refine va_calli (va_runV (As := []) (rest := []) ⟨hx, hb, hml, hown, hts⟩ (m_expression l dC dI ar N0 z h0 ad (upd (upd (upd I 6 (Int32.ofNat (P + 1))) 6 (Int32.ofNat ((P + 1) + 1))) 7 (Int32.ofNat (a0 + 2))) T (m_up A 2 (upd (upd (A 2) a0 6) (a0 + 1) (Int32.ofNat c9))) U (((P + 1) + 1)) S ((a0 + 2)) H.size rfl h4 (by omega) (by omega) (by omega) rfl (by omega)) (cwV 0 hts (x_goodV k_1160 k_1162 kp_58 k_9 k_1163) rfl rfl rfl (by decide +kernel) ⟨Nat.le_of_ble_eq_true rfl, Nat.le_of_ble_eq_true rfl⟩) ⟨x_blind, va_recv hK hP (ci := 6) (q0 := 0) rfl rfl, fun U9 hU9 hW9 => x_pre hU9 hW9 hP hD hU hZ hS hAN hN0⟩ rfl rfl hl.1 rfl (lv_room (Nat.le_of_ble_eq_true rfl)) d_Mo_start_129 ⟨Nat.le_of_ble_eq_true rfl, Nat.le_of_ble_eq_true rfl⟩) hS (fun q _ h => hFc q h) hFc (fun r175 u t H1 locs ht hvm hw hB hz1 hk1 hS => ?_)
            obtain ⟨I177, T177, A177, U177⟩ := u
            dsimp only at hw hB
            rw [ht] at hB
            have hP : va_P (dC, dI) x_cl (m_W h0 ad ar I177 T177 A177 U177) H1 := hB
            have hD : va_D Bq (m_W h0 ad ar I177 T177 A177 U177) := m_D hD
            generalize H1 = H at hP hS ⊢
            refine W.widen (k := 0) (n := 0) (Nat.le_of_ble_eq_true rfl) (Nat.le_of_ble_eq_true rfl) ?_
            obtain ⟨P178, a178, i6178, p1178, p2178, hfr178, hfa178, eT, eU, hres⟩ := hw
            cases eT
            cases eU
            rcases hres with rfl | ⟨rfl, p3178, i7178, l1178, l2178, tk178, ov178, lw178⟩
            · refine lv_if_eq (tgt := 139) hx hb d_Mo_start_132 (by decide) (fun _ => ?_) (fun c179 => absurd (by decide) c179)
              refine lv_iconst (v := (-1)) hx hb d_Mo_start_139 (by decide) ?_
              refine W.widen (k := 0) (n := 0) (Nat.le_of_ble_eq_true rfl) (Nat.le_of_ble_eq_true rfl) ?_
              exact W.iret (v := (-1)) hx hb hr (fun t ht hW => ⟨⟨(-1), (I177, T, A177, U), rfl, ⟨P178, i6178, by omega, by omega, (((((m_fr.rf.up (by decide) _).up (by decide) _).up (by decide) _)).tr hfr178 (by decide)), (((m_fa.rf.up (by decide) _)).tr hfa178 (by decide)), rfl, rfl, Or.inl rfl⟩, by dsimp only; rw [ht]; exact hP⟩, hS.F ht⟩) hS.2.2 d_Mo_start_140
            · refine lv_if_eq (tgt := 139) hx hb d_Mo_start_132 (by decide) (fun c180 => absurd c180 (by decide)) (fun _ => ?_)
              refine lv_iconst (v := 0) hx hb d_Mo_start_135 (by decide) ?_
              refine lv_goto (tgt := 140) hx hb d_Mo_start_136 (by decide) ?_
              refine W.widen (k := 0) (n := 0) (Nat.le_of_ble_eq_true rfl) (Nat.le_of_ble_eq_true rfl) ?_
              exact W.iret (v := 0) hx hb hr (fun t ht hW => ⟨⟨0, (I177, T, A177, U), rfl, ⟨P178, i6178, by omega, by omega, (((((m_fr.rf.up (by decide) _).up (by decide) _).up (by decide) _)).tr hfr178 (by decide)), (((m_fa.rf.up (by decide) _)).tr hfa178 (by decide)), rfl, rfl, Or.inr (Or.inl ⟨rfl, by omega, (a178 + 1), i7178, by omega, ((hfr178 18 (by decide)).trans h18), hfa178 11 (by decide), hfa178 12 (by decide), hfa178 13 (by decide), hst.out hc9 (by dsimp only; rw [lw178 _ (by omega), m_up_s, upd_n (by omega), upd_s]) (by dsimp only; rw [lw178 _ (by omega), m_up_s, upd_s]) (tk178.mono (by omega)) ov178 (fun j hj => by dsimp only; rw [lw178 j (by omega), m_up_s, upd_n (by omega), upd_n (by omega)])⟩)⟩, by dsimp only; rw [ht]; exact hP⟩, hS.F ht⟩) hS.2.2 d_Mo_start_140
          · cases h9
            refine lv_if_eq (tgt := 141) hx hb d_Mo_start_117 (by decide) (fun _ => ?_) (fun c181 => absurd (by decide) c181)
            refine lv_iload hx hb d_Mo_start_141 (lv_at hl 0 rfl) ?_
            refine lv_iconst (v := 5) hx hb d_Mo_start_143 (by decide) ?_
            refine lv_icmp_eq (tgt := 163) hx hb d_Mo_start_144 (by decide) (fun c182 => ?_) (fun c182 => ?_)
            · refine lv_iconst (v := (-1)) hx hb d_Mo_start_163 (by decide) ?_
              refine W.widen (k := 0) (n := 0) (Nat.le_of_ble_eq_true rfl) (Nat.le_of_ble_eq_true rfl) ?_
              exact W.iret (v := (-1)) hx hb hr (fun t ht hW => ⟨⟨(-1), ((upd I 6 (Int32.ofNat (P + 1))), T, A, U), rfl, ⟨(P + 1), rfl, by omega, by omega, (m_fr.rf.up (by decide) _), m_fa.rf, rfl, rfl, Or.inl rfl⟩, by dsimp only; rw [ht]; exact hP⟩, hS.F ht⟩) hS.2.2 d_Mo_start_164
            · refine lv_aload_n hx hb d_Mo_start_147 rfl (lv_at hl 3 rfl) ?_
              refine lv_bipush (v := 63) hx hb d_Mo_start_148 (by decide) ?_
              have hFc := m_free hD hS hA
              refine va_calli (va_runV (As := [.int 63]) (rest := []) ⟨hx, hb, hml, hown, hts⟩ (m_passes l dC dI ar N0 z h0 ad (upd I 6 (Int32.ofNat (P + 1))) T A U ((P + 1)) S (63) H.size rfl h4 (by omega) (by omega)) (cwV 1 hts (x_goodV k_1136 k_1138 kp_52 k_9 k_1139) rfl rfl rfl (by decide +kernel) ⟨Nat.le_of_ble_eq_true rfl, Nat.le_of_ble_eq_true rfl⟩) ⟨x_blind, va_recv hK hP (ci := 6) (q0 := 0) rfl rfl, fun U9 hU9 hW9 => x_pre hU9 hW9 hP hD hU hZ hS hAN hN0⟩ rfl rfl hl.1 rfl (lv_room (Nat.le_of_ble_eq_true rfl)) d_Mo_start_150 ⟨Nat.le_of_ble_eq_true rfl, Nat.le_of_ble_eq_true rfl⟩) hS (fun q _ h => hFc q h) hFc (fun r183 u t H1 locs ht hvm hw hB hz1 hk1 hS => ?_)
              obtain ⟨I185, T185, A185, U185⟩ := u
              dsimp only at hw hB
              rw [ht] at hB
              have hP : va_P (dC, dI) x_cl (m_W h0 ad ar I185 T185 A185 U185) H1 := hB
              have hD : va_D Bq (m_W h0 ad ar I185 T185 A185 U185) := m_D hD
              generalize H1 = H at hP hS ⊢
              refine W.widen (k := 0) (n := 0) (Nat.le_of_ble_eq_true rfl) (Nat.le_of_ble_eq_true rfl) ?_
              rcases hw with ⟨p186, rfl, h9⟩ | ⟨p186, rfl, h9⟩
              · cases h9
                have hpp186 : (P + 1) < S := m_lk0 (by rw [p186]; decide)
                refine lv_if_eq (tgt := 163) hx hb d_Mo_start_153 (by decide) (fun c187 => absurd c187 (by decide)) (fun _ => ?_)
                refine lv_aload_n hx hb d_Mo_start_156 rfl (lv_at hl 3 rfl) ?_
                have hFc := m_free hD hS hA
                refine va_calli (va_runV (As := []) (rest := []) ⟨hx, hb, hml, hown, hts⟩ (m_isVariable l dC dI ar N0 z h0 ad (upd (upd I 6 (Int32.ofNat (P + 1))) 6 (Int32.ofNat ((P + 1) + 1))) T A U (((P + 1) + 1)) S H.size rfl h4 (by omega) (by omega)) (cwV 0 hts (x_goodV k_1164 k_1166 kp_59 k_9 k_1167) rfl rfl rfl (by decide +kernel) ⟨Nat.le_of_ble_eq_true rfl, Nat.le_of_ble_eq_true rfl⟩) ⟨x_blind, va_recv hK hP (ci := 6) (q0 := 0) rfl rfl, fun U9 hU9 hW9 => x_pre hU9 hW9 hP hD hU hZ hS hAN hN0⟩ rfl rfl hl.1 rfl (lv_room (Nat.le_of_ble_eq_true rfl)) d_Mo_start_157 ⟨Nat.le_of_ble_eq_true rfl, Nat.le_of_ble_eq_true rfl⟩) hS (fun q _ h => hFc q h) hFc (fun r188 u t H1 locs ht hvm hw hB hz1 hk1 hS => ?_)
                obtain ⟨I190, T190, A190, U190⟩ := u
                dsimp only at hw hB
                rw [ht] at hB
                have hP : va_P (dC, dI) x_cl (m_W h0 ad ar I190 T190 A190 U190) H1 := hB
                have hD : va_D Bq (m_W h0 ad ar I190 T190 A190 U190) := m_D hD
                generalize H1 = H at hP hS ⊢
                refine W.widen (k := 0) (n := 0) (Nat.le_of_ble_eq_true rfl) (Nat.le_of_ble_eq_true rfl) ?_
                obtain ⟨h9, hw⟩ := hw
                cases h9
                rcases hw with ⟨v191, rfl⟩ | ⟨v191, rfl⟩
                · have v191 := v191
                  refine lv_if_ne (tgt := 165) hx hb d_Mo_start_160 (by decide) (fun _ => ?_) (fun c192 => absurd c192 (by decide))
                  obtain ⟨c9, hc9, ec9⟩ := x_ch_ok c27 c182
                  have hps9 : ((P + 1) + 1) < S := m_lkv v191
                  refine lv_aload_n hx hb d_Mo_start_165 rfl (lv_at hl 3 rfl) ?_
                  refine lv_bipush (v := 7) hx hb d_Mo_start_166 (by decide) ?_
                  refine lv_iload hx hb d_Mo_start_168 (lv_at hl 0 rfl) ?_
                  refine W.eq (g2 := F0 m 170 ls [.int (Int32.ofNat c9), .int 7, .ref h0]) (by rw [ec9]) ?_
                  have hFc := m_free hD hS hA
                  refine va_callv (va_runV (As := [.int 7, .int (Int32.ofNat c9)]) (rest := []) ⟨hx, hb, hml, hown, hts⟩ (m_emit2 l dC dI ar N0 z h0 ad (upd (upd I 6 (Int32.ofNat (P + 1))) 6 (Int32.ofNat ((P + 1) + 1))) T A U a0 (7) ((Int32.ofNat c9)) H.size h7 (by omega)) (cwV 2 hts (x_goodV k_1152 k_1154 kp_56 k_9 k_1155) rfl rfl rfl (by decide +kernel) ⟨Nat.le_of_ble_eq_true rfl, Nat.le_of_ble_eq_true rfl⟩) ⟨x_blind, va_recv hK hP (ci := 6) (q0 := 0) rfl rfl, fun U9 hU9 hW9 => x_pre hU9 hW9 hP hD hU hZ hS hAN hN0⟩ rfl rfl hl.1 rfl (lv_room (Nat.le_of_ble_eq_true rfl)) d_Mo_start_170 ⟨Nat.le_of_ble_eq_true rfl, Nat.le_of_ble_eq_true rfl⟩) hS (fun q _ h => hFc q h) hFc (fun u t H1 locs ht hvm hw hB hz1 hk1 hS => ?_)
                  obtain ⟨I194, T194, A194, U194⟩ := u
                  dsimp only at hw hB
                  rw [ht] at hB
                  have hP : va_P (dC, dI) x_cl (m_W h0 ad ar I194 T194 A194 U194) H1 := hB
                  have hD : va_D Bq (m_W h0 ad ar I194 T194 A194 U194) := m_D hD
                  generalize H1 = H at hP hS ⊢
                  refine W.widen (k := 0) (n := 0) (Nat.le_of_ble_eq_true rfl) (Nat.le_of_ble_eq_true rfl) ?_
                  cases hw
                  refine lv_aload_n hx hb d_Mo_start_173 rfl (lv_at hl 3 rfl) ?_
                  refine lv_aload_n hx hb d_Mo_start_174 rfl (lv_at hl 3 rfl) ?_
                  have hFc := m_free hD hS hA
                  refine va_calli (va_runV (As := []) (rest := [.ref h0]) ⟨hx, hb, hml, hown, hts⟩ (m_look l dC dI ar N0 z h0 ad (upd (upd (upd I 6 (Int32.ofNat (P + 1))) 6 (Int32.ofNat ((P + 1) + 1))) 7 (Int32.ofNat (a0 + 2))) T (m_up A 2 (upd (upd (A 2) a0 7) (a0 + 1) (Int32.ofNat c9))) U (((P + 1) + 1)) S H.size rfl h4 (by omega) (by omega)) (cwV 0 hts (x_goodV k_1140 k_1142 kp_53 k_9 k_1143) rfl rfl rfl (by decide +kernel) ⟨Nat.le_of_ble_eq_true rfl, Nat.le_of_ble_eq_true rfl⟩) ⟨x_blind, va_recv hK hP (ci := 6) (q0 := 0) rfl rfl, fun U9 hU9 hW9 => x_pre hU9 hW9 hP hD hU hZ hS hAN hN0⟩ rfl rfl hl.1 rfl (lv_room (Nat.le_of_ble_eq_true rfl)) d_Mo_start_175 ⟨Nat.le_of_ble_eq_true rfl, Nat.le_of_ble_eq_true rfl⟩) hS (fun q _ h => hFc q h) hFc (fun r195 u t H1 locs ht hvm hw hB hz1 hk1 hS => ?_)
                  obtain ⟨I197, T197, A197, U197⟩ := u
                  dsimp only at hw hB
                  rw [ht] at hB
                  have hP : va_P (dC, dI) x_cl (m_W h0 ad ar I197 T197 A197 U197) H1 := hB
                  have hD : va_D Bq (m_W h0 ad ar I197 T197 A197 U197) := m_D hD
                  generalize H1 = H at hP hS ⊢
                  refine W.widen (k := 0) (n := 0) (Nat.le_of_ble_eq_true rfl) (Nat.le_of_ble_eq_true rfl) ?_
                  obtain ⟨h9, hk198⟩ := hw
                  cases h9
                  refine lv_bipush (v := 97) hx hb d_Mo_start_178 (by decide) ?_
                  obtain ⟨v9, hv9, ev9⟩ := m_var (c := r195) (by rw [hk198]; exact v191)
                  refine lv_isub hx hb d_Mo_start_180 ?_
                  refine W.eq (g2 := F0 m 181 ls [.int (Int32.ofNat v9), .ref h0]) (by rw [ev9]) ?_
                  have hFc := m_free hD hS hA
                  refine va_callv (va_runV (As := [.int (Int32.ofNat v9)]) (rest := []) ⟨hx, hb, hml, hown, hts⟩ (m_emit l dC dI ar N0 z h0 ad (upd (upd (upd I 6 (Int32.ofNat (P + 1))) 6 (Int32.ofNat ((P + 1) + 1))) 7 (Int32.ofNat (a0 + 2))) T (m_up A 2 (upd (upd (A 2) a0 7) (a0 + 1) (Int32.ofNat c9))) U ((a0 + 2)) ((Int32.ofNat v9)) H.size rfl (by omega)) (cwV 1 hts (x_goodV k_1148 k_1150 kp_55 k_9 k_1151) rfl rfl rfl (by decide +kernel) ⟨Nat.le_of_ble_eq_true rfl, Nat.le_of_ble_eq_true rfl⟩) ⟨x_blind, va_recv hK hP (ci := 6) (q0 := 0) rfl rfl, fun U9 hU9 hW9 => x_pre hU9 hW9 hP hD hU hZ hS hAN hN0⟩ rfl rfl hl.1 rfl (lv_room (Nat.le_of_ble_eq_true rfl)) d_Mo_start_181 ⟨Nat.le_of_ble_eq_true rfl, Nat.le_of_ble_eq_true rfl⟩) hS (fun q _ h => hFc q h) hFc (fun u t H1 locs ht hvm hw hB hz1 hk1 hS => ?_)
                  obtain ⟨I200, T200, A200, U200⟩ := u
                  dsimp only at hw hB
                  rw [ht] at hB
                  have hP : va_P (dC, dI) x_cl (m_W h0 ad ar I200 T200 A200 U200) H1 := hB
                  have hD : va_D Bq (m_W h0 ad ar I200 T200 A200 U200) := m_D hD
                  generalize H1 = H at hP hS ⊢
                  refine W.widen (k := 0) (n := 0) (Nat.le_of_ble_eq_true rfl) (Nat.le_of_ble_eq_true rfl) ?_
                  cases hw
                  rw [m_up_up, m_up_s] at hP hD
                  have hP : va_P (dC, dI) x_cl (m_W h0 ad ar (upd (upd (upd (upd I 6 (Int32.ofNat (P + 1))) 6 (Int32.ofNat ((P + 1) + 1))) 7 (Int32.ofNat (a0 + 2))) 7 (Int32.ofNat (((a0 + 2)) + 1))) T (m_up A 2 (upd (upd (upd (A 2) a0 7) (a0 + 1) (Int32.ofNat c9)) ((a0 + 2)) (Int32.ofNat v9))) U) H := hP
                  have hD : va_D Bq (m_W h0 ad ar (upd (upd (upd (upd I 6 (Int32.ofNat (P + 1))) 6 (Int32.ofNat ((P + 1) + 1))) 7 (Int32.ofNat (a0 + 2))) 7 (Int32.ofNat (((a0 + 2)) + 1))) T (m_up A 2 (upd (upd (upd (A 2) a0 7) (a0 + 1) (Int32.ofNat c9)) ((a0 + 2)) (Int32.ofNat v9))) U) := hD
                  refine lv_aload_n hx hb d_Mo_start_184 rfl (lv_at hl 3 rfl) ?_
                  refine lv_dup hx hb d_Mo_start_185 rfl ?_
                  refine m_g hx hb hts hown hK hP 6 (by decide) rfl (hts _ k_973) (v := .int (Int32.ofNat ((P + 1) + 1))) rfl d_Mo_start_186 ?_
                  refine lv_iconst (v := 1) hx hb d_Mo_start_189 (by decide) ?_
                  refine lv_iadd hx hb d_Mo_start_190 ?_
                  refine W.eq (g2 := F0 m 191 ls [.int (Int32.ofNat (((P + 1) + 1) + 1)), .ref h0]) (by rw [← x_addN (a := ((P + 1) + 1)) (b := 1)] <;> rfl) ?_
                  refine m_p hx hb hts hown hK hP hD hS 6 (by decide) rfl (hts _ k_973) rfl (by decide +kernel) rfl (by decide) (x := (Int32.ofNat (((P + 1) + 1) + 1))) d_Mo_start_191 (fun H locs hP hD hS => ?_)
                  refine lv_iconst (v := 0) hx hb d_Mo_start_194 (by decide) ?_
                  refine W.widen (k := 0) (n := 0) (Nat.le_of_ble_eq_true rfl) (Nat.le_of_ble_eq_true rfl) ?_
                  exact W.iret (v := 0) hx hb hr (fun t ht hW => ⟨⟨0, ((upd (upd (upd (upd (upd I 6 (Int32.ofNat (P + 1))) 6 (Int32.ofNat ((P + 1) + 1))) 7 (Int32.ofNat (a0 + 2))) 7 (Int32.ofNat (((a0 + 2)) + 1))) 6 (Int32.ofNat (((P + 1) + 1) + 1))), T, (m_up A 2 (upd (upd (upd (A 2) a0 7) (a0 + 1) (Int32.ofNat c9)) ((a0 + 2)) (Int32.ofNat v9))), U), rfl, ⟨(((P + 1) + 1) + 1), rfl, by omega, by omega, (((((m_fr.rf.up (by decide) _).up (by decide) _).up (by decide) _).up (by decide) _).up (by decide) _), (m_fa.rf.up (by decide) _), rfl, rfl, Or.inr (Or.inl ⟨rfl, by omega, (((a0 + 2)) + 1), rfl, by omega, h18, rfl, rfl, rfl, hst.inp hc9 hv9 (by dsimp only; rw [m_up_s, upd_n (by omega), upd_n (by omega), upd_s]) (by dsimp only; rw [m_up_s, upd_n (by omega), upd_s]) (by dsimp only; rw [m_up_s, upd_s]) (fun j hj => by dsimp only; rw [m_up_s, upd_n (by omega), upd_n (by omega), upd_n (by omega)])⟩)⟩, by dsimp only; rw [ht]; exact hP⟩, hS.F ht⟩) hS.2.2 d_Mo_start_195
                · have v191 := v191
                  refine lv_if_ne (tgt := 165) hx hb d_Mo_start_160 (by decide) (fun c201 => absurd rfl c201) (fun _ => ?_)
                  refine lv_iconst (v := (-1)) hx hb d_Mo_start_163 (by decide) ?_
                  refine W.widen (k := 0) (n := 0) (Nat.le_of_ble_eq_true rfl) (Nat.le_of_ble_eq_true rfl) ?_
                  exact W.iret (v := (-1)) hx hb hr (fun t ht hW => ⟨⟨(-1), ((upd (upd I 6 (Int32.ofNat (P + 1))) 6 (Int32.ofNat ((P + 1) + 1))), T, A, U), rfl, ⟨((P + 1) + 1), rfl, by omega, by omega, ((m_fr.rf.up (by decide) _).up (by decide) _), m_fa.rf, rfl, rfl, Or.inl rfl⟩, by dsimp only; rw [ht]; exact hP⟩, hS.F ht⟩) hS.2.2 d_Mo_start_164
              · cases h9
                refine lv_if_eq (tgt := 163) hx hb d_Mo_start_153 (by decide) (fun _ => ?_) (fun c202 => absurd (by decide) c202)
                refine lv_iconst (v := (-1)) hx hb d_Mo_start_163 (by decide) ?_
                refine W.widen (k := 0) (n := 0) (Nat.le_of_ble_eq_true rfl) (Nat.le_of_ble_eq_true rfl) ?_
                exact W.iret (v := (-1)) hx hb hr (fun t ht hW => ⟨⟨(-1), ((upd I 6 (Int32.ofNat (P + 1))), T, A, U), rfl, ⟨(P + 1), rfl, by omega, by omega, (m_fr.rf.up (by decide) _), m_fa.rf, rfl, rfl, Or.inl rfl⟩, by dsimp only; rw [ht]; exact hP⟩, hS.F ht⟩) hS.2.2 d_Mo_start_164
  · refine lv_iload_n hx hb d_Mo_start_16 rfl (lv_at hl 4 rfl) ?_
    refine lv_bipush (v := 7) hx hb d_Mo_start_17 (by decide) ?_
    refine lv_icmp_gt (tgt := 40) hx hb d_Mo_start_19 (by decide) (fun c203 => ?_) (fun c203 => ?_)
    · have c203 : 7 < dv := (x_ltN (a := 7) (b := dv) (by omega) (by omega)).mp c203
      refine lv_iconst (v := (-1)) hx hb d_Mo_start_40 (by decide) ?_
      refine W.widen (k := 0) (n := 0) (Nat.le_of_ble_eq_true rfl) (Nat.le_of_ble_eq_true rfl) ?_
      exact W.iret (v := (-1)) hx hb hr (fun t ht hW => ⟨⟨(-1), (I, T, A, U), rfl, ⟨P, h6, by omega, by omega, m_fr.rf, m_fa.rf, rfl, rfl, Or.inl rfl⟩, by dsimp only; rw [ht]; exact hP⟩, hS.F ht⟩) hS.2.2 d_Mo_start_41
    · have c203 : ¬ 7 < dv := fun h9 => c203 ((x_ltN (a := 7) (b := dv) (by omega) (by omega)).mpr h9)
      refine lv_iload_n hx hb d_Mo_start_22 rfl (lv_at hl 4 rfl) ?_
      refine lv_bipush (v := 7) hx hb d_Mo_start_23 (by decide) ?_
      refine lv_icmp_ne (tgt := 42) hx hb d_Mo_start_25 (by decide) (fun c204 => ?_) (fun c204 => ?_)
      · have c204 : ¬ dv = 7 := fun h9 => c204 ((x_eqN (a := dv) (b := 7) (by omega) (by omega)).mpr h9)
        exact key (by omega)
      · have c204 : dv = 7 := (x_eqN (a := dv) (b := 7) (by omega) (by omega)).mp c204
        refine lv_iload_n hx hb d_Mo_start_28 rfl (lv_at hl 2 rfl) ?_
        refine lv_bipush (v := 94) hx hb d_Mo_start_29 (by decide) ?_
        refine lv_icmp_eq (tgt := 40) hx hb d_Mo_start_31 (by decide) (fun c205 => ?_) (fun c205 => ?_)
        · refine lv_iconst (v := (-1)) hx hb d_Mo_start_40 (by decide) ?_
          refine W.widen (k := 0) (n := 0) (Nat.le_of_ble_eq_true rfl) (Nat.le_of_ble_eq_true rfl) ?_
          exact W.iret (v := (-1)) hx hb hr (fun t ht hW => ⟨⟨(-1), (I, T, A, U), rfl, ⟨P, h6, by omega, by omega, m_fr.rf, m_fa.rf, rfl, rfl, Or.inl rfl⟩, by dsimp only; rw [ht]; exact hP⟩, hS.F ht⟩) hS.2.2 d_Mo_start_41
        · refine lv_iload_n hx hb d_Mo_start_34 rfl (lv_at hl 2 rfl) ?_
          refine lv_bipush (v := 63) hx hb d_Mo_start_35 (by decide) ?_
          refine lv_icmp_ne (tgt := 42) hx hb d_Mo_start_37 (by decide) (fun c206 => ?_) (fun c206 => ?_)
          · exact key (by omega)
          · refine lv_iconst (v := (-1)) hx hb d_Mo_start_40 (by decide) ?_
            refine W.widen (k := 0) (n := 0) (Nat.le_of_ble_eq_true rfl) (Nat.le_of_ble_eq_true rfl) ?_
            exact W.iret (v := (-1)) hx hb hr (fun t ht hW => ⟨⟨(-1), (I, T, A, U), rfl, ⟨P, h6, by omega, by omega, m_fr.rf, m_fa.rf, rfl, rfl, Or.inl rfl⟩, by dsimp only; rw [ht]; exact hP⟩, hS.F ht⟩) hS.2.2 d_Mo_start_41
