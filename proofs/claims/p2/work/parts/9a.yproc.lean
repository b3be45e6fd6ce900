-- ===== 9a.yproc: process of the Reader, by program =====
theorem k_334 : (Jvm.Cond.methodLink "ChannelMachine$Reader" (63 : Nat) ({ cls := "ChannelMachine$Reader", name := "begin", desc := "(LChannelMachine$Process;I)LChannelMachine$Process;" } : Jvm.MethodName)) ∈ x_T := x_at 334 (by decide +kernel) (by decide +kernel)
theorem k_336 : (Jvm.Cond.instanceMethod ({ cls := "ChannelMachine$Reader", name := "begin", desc := "(LChannelMachine$Process;I)LChannelMachine$Process;" } : Jvm.MethodName)) ∈ x_T := x_at 336 (by decide +kernel) (by decide +kernel)
theorem k_337 : (Jvm.Cond.code ({ cls := "ChannelMachine$Reader", name := "begin", desc := "(LChannelMachine$Process;I)LChannelMachine$Process;" } : Jvm.MethodName) prog_8_method_14_code (7 : Nat) (Option.some (Jvm.ClassFile.FieldType.object "ChannelMachine$Process"))) ∈ x_T := x_at 337 (by decide +kernel) (by decide +kernel)
theorem k_484 : (Jvm.Cond.fieldLink "ChannelMachine$Reader" (67 : Nat) "ChannelMachine$1" "$SwitchMap$ChannelMachine$Kind" "[I") ∈ x_T := x_at 484 (by decide +kernel) (by decide +kernel)
theorem k_486 : (Jvm.Cond.methodLink "ChannelMachine$Reader" (78 : Nat) ({ cls := "ChannelMachine$Kind", name := "ordinal", desc := "()I" } : Jvm.MethodName)) ∈ x_T := x_at 486 (by decide +kernel) (by decide +kernel)
theorem k_496 : (Jvm.Cond.methodLink "ChannelMachine$Reader" (84 : Nat) ({ cls := "ChannelMachine$Reader", name := "endOfLast", desc := "(Z)I" } : Jvm.MethodName)) ∈ x_T := x_at 496 (by decide +kernel) (by decide +kernel)
theorem k_498 : (Jvm.Cond.instanceMethod ({ cls := "ChannelMachine$Reader", name := "endOfLast", desc := "(Z)I" } : Jvm.MethodName)) ∈ x_T := x_at 498 (by decide +kernel) (by decide +kernel)
theorem k_499 : (Jvm.Cond.code ({ cls := "ChannelMachine$Reader", name := "endOfLast", desc := "(Z)I" } : Jvm.MethodName) prog_8_method_23_code (6 : Nat) (Option.some Jvm.ClassFile.FieldType.int)) ∈ x_T := x_at 499 (by decide +kernel) (by decide +kernel)
theorem k_522 : (Jvm.Cond.methodLink "ChannelMachine$Reader" (88 : Nat) ({ cls := "ChannelMachine$Reader", name := "lastExpression", desc := "(LChannelMachine$Process;I)Z" } : Jvm.MethodName)) ∈ x_T := x_at 522 (by decide +kernel) (by decide +kernel)
theorem k_524 : (Jvm.Cond.instanceMethod ({ cls := "ChannelMachine$Reader", name := "lastExpression", desc := "(LChannelMachine$Process;I)Z" } : Jvm.MethodName)) ∈ x_T := x_at 524 (by decide +kernel) (by decide +kernel)
theorem k_525 : (Jvm.Cond.code ({ cls := "ChannelMachine$Reader", name := "lastExpression", desc := "(LChannelMachine$Process;I)Z" } : Jvm.MethodName) prog_8_method_22_code (4 : Nat) (Option.some Jvm.ClassFile.FieldType.boolean)) ∈ x_T := x_at 525 (by decide +kernel) (by decide +kernel)
theorem k_550 : (Jvm.Cond.methodLink "ChannelMachine$Reader" (98 : Nat) ({ cls := "ChannelMachine$Reader", name := "parts", desc := "(LChannelMachine$Process;II)Z" } : Jvm.MethodName)) ∈ x_T := x_at 550 (by decide +kernel) (by decide +kernel)
theorem k_552 : (Jvm.Cond.instanceMethod ({ cls := "ChannelMachine$Reader", name := "parts", desc := "(LChannelMachine$Process;II)Z" } : Jvm.MethodName)) ∈ x_T := x_at 552 (by decide +kernel) (by decide +kernel)
theorem k_553 : (Jvm.Cond.code ({ cls := "ChannelMachine$Reader", name := "parts", desc := "(LChannelMachine$Process;II)Z" } : Jvm.MethodName) prog_8_method_18_code (5 : Nat) (Option.some Jvm.ClassFile.FieldType.boolean)) ∈ x_T := x_at 553 (by decide +kernel) (by decide +kernel)
theorem k_558 : (Jvm.Cond.methodLink "ChannelMachine$Reader" (102 : Nat) ({ cls := "ChannelMachine$Reader", name := "guards", desc := "(LChannelMachine$Process;I)Z" } : Jvm.MethodName)) ∈ x_T := x_at 558 (by decide +kernel) (by decide +kernel)
theorem k_560 : (Jvm.Cond.instanceMethod ({ cls := "ChannelMachine$Reader", name := "guards", desc := "(LChannelMachine$Process;I)Z" } : Jvm.MethodName)) ∈ x_T := x_at 560 (by decide +kernel) (by decide +kernel)
theorem k_561 : (Jvm.Cond.code ({ cls := "ChannelMachine$Reader", name := "guards", desc := "(LChannelMachine$Process;I)Z" } : Jvm.MethodName) prog_8_method_19_code (7 : Nat) (Option.some Jvm.ClassFile.FieldType.boolean)) ∈ x_T := x_at 561 (by decide +kernel) (by decide +kernel)
theorem k_603 : (Jvm.Cond.methodLink "ChannelMachine$Reader" (105 : Nat) ({ cls := "ChannelMachine$Reader", name := "condition", desc := "(LChannelMachine$Process;)Z" } : Jvm.MethodName)) ∈ x_T := x_at 603 (by decide +kernel) (by decide +kernel)
theorem k_605 : (Jvm.Cond.instanceMethod ({ cls := "ChannelMachine$Reader", name := "condition", desc := "(LChannelMachine$Process;)Z" } : Jvm.MethodName)) ∈ x_T := x_at 605 (by decide +kernel) (by decide +kernel)
theorem k_606 : (Jvm.Cond.code ({ cls := "ChannelMachine$Reader", name := "condition", desc := "(LChannelMachine$Process;)Z" } : Jvm.MethodName) prog_8_method_21_code (2 : Nat) (Option.some Jvm.ClassFile.FieldType.boolean)) ∈ x_T := x_at 606 (by decide +kernel) (by decide +kernel)
theorem kp_2 : (Jvm.Cond.selects "ChannelMachine$Reader" ({ cls := "ChannelMachine$Reader", name := "begin", desc := "(LChannelMachine$Process;I)LChannelMachine$Process;" } : Jvm.MethodName) ({ cls := "ChannelMachine$Reader", name := "begin", desc := "(LChannelMachine$Process;I)LChannelMachine$Process;" } : Jvm.MethodName)) ∈ x_T := x_sel (q := (({ cls := "ChannelMachine$Reader", name := "begin", desc := "(LChannelMachine$Process;I)LChannelMachine$Process;" } : Jvm.MethodName), 9)) 2 (by decide +kernel) (by decide +kernel)
theorem kp_8 : (Jvm.Cond.selects "ChannelMachine$Reader" ({ cls := "ChannelMachine$Reader", name := "endOfLast", desc := "(Z)I" } : Jvm.MethodName) ({ cls := "ChannelMachine$Reader", name := "endOfLast", desc := "(Z)I" } : Jvm.MethodName)) ∈ x_T := x_sel (q := (({ cls := "ChannelMachine$Reader", name := "endOfLast", desc := "(Z)I" } : Jvm.MethodName), 9)) 8 (by decide +kernel) (by decide +kernel)
theorem kp_13 : (Jvm.Cond.selects "ChannelMachine$Reader" ({ cls := "ChannelMachine$Reader", name := "lastExpression", desc := "(LChannelMachine$Process;I)Z" } : Jvm.MethodName) ({ cls := "ChannelMachine$Reader", name := "lastExpression", desc := "(LChannelMachine$Process;I)Z" } : Jvm.MethodName)) ∈ x_T := x_sel (q := (({ cls := "ChannelMachine$Reader", name := "lastExpression", desc := "(LChannelMachine$Process;I)Z" } : Jvm.MethodName), 9)) 13 (by decide +kernel) (by decide +kernel)
theorem kp_16 : (Jvm.Cond.selects "ChannelMachine$Reader" ({ cls := "ChannelMachine$Reader", name := "parts", desc := "(LChannelMachine$Process;II)Z" } : Jvm.MethodName) ({ cls := "ChannelMachine$Reader", name := "parts", desc := "(LChannelMachine$Process;II)Z" } : Jvm.MethodName)) ∈ x_T := x_sel (q := (({ cls := "ChannelMachine$Reader", name := "parts", desc := "(LChannelMachine$Process;II)Z" } : Jvm.MethodName), 9)) 16 (by decide +kernel) (by decide +kernel)
theorem kp_17 : (Jvm.Cond.selects "ChannelMachine$Reader" ({ cls := "ChannelMachine$Reader", name := "guards", desc := "(LChannelMachine$Process;I)Z" } : Jvm.MethodName) ({ cls := "ChannelMachine$Reader", name := "guards", desc := "(LChannelMachine$Process;I)Z" } : Jvm.MethodName)) ∈ x_T := x_sel (q := (({ cls := "ChannelMachine$Reader", name := "guards", desc := "(LChannelMachine$Process;I)Z" } : Jvm.MethodName), 9)) 17 (by decide +kernel) (by decide +kernel)
theorem kp_19 : (Jvm.Cond.selects "ChannelMachine$Reader" ({ cls := "ChannelMachine$Reader", name := "condition", desc := "(LChannelMachine$Process;)Z" } : Jvm.MethodName) ({ cls := "ChannelMachine$Reader", name := "condition", desc := "(LChannelMachine$Process;)Z" } : Jvm.MethodName)) ∈ x_T := x_sel (q := (({ cls := "ChannelMachine$Reader", name := "condition", desc := "(LChannelMachine$Process;)Z" } : Jvm.MethodName), 9)) 19 (by decide +kernel) (by decide +kernel)
theorem d_Reader_process_0 : decode prog_8_method_13_code 0 = .ok (.iload_n 2, 1) := by decide +kernel
theorem d_Reader_process_1 : decode prog_8_method_13_code 1 = .ok (.bipush 7, 2) := by decide +kernel
theorem d_Reader_process_3 : decode prog_8_method_13_code 3 = .ok (.if_icmp .le 7, 3) := by decide +kernel
theorem d_Reader_process_6 : decode prog_8_method_13_code 6 = .ok (.aconst_null, 1) := by decide +kernel
theorem d_Reader_process_7 : decode prog_8_method_13_code 7 = .ok (.goto 9, 3) := by decide +kernel
theorem d_Reader_process_10 : decode prog_8_method_13_code 10 = .ok (.aload_n 0, 1) := by decide +kernel
theorem d_Reader_process_11 : decode prog_8_method_13_code 11 = .ok (.aload_n 1, 1) := by decide +kernel
theorem d_Reader_process_12 : decode prog_8_method_13_code 12 = .ok (.iload_n 2, 1) := by decide +kernel
theorem d_Reader_process_13 : decode prog_8_method_13_code 13 = .ok (.invokevirtual 63, 3) := by decide +kernel
theorem d_Reader_process_16 : decode prog_8_method_13_code 16 = .ok (.astore 4, 2) := by decide +kernel
theorem d_Reader_process_18 : decode prog_8_method_13_code 18 = .ok (.aload 4, 2) := by decide +kernel
theorem d_Reader_process_20 : decode prog_8_method_13_code 20 = .ok (.ifnonnull 8, 3) := by decide +kernel
theorem d_Reader_process_23 : decode prog_8_method_13_code 23 = .ok (.aload_n 0, 1) := by decide +kernel
theorem d_Reader_process_24 : decode prog_8_method_13_code 24 = .ok (.invokevirtual 42, 3) := by decide +kernel
theorem d_Reader_process_27 : decode prog_8_method_13_code 27 = .ok (.ireturn, 1) := by decide +kernel
theorem d_Reader_process_28 : decode prog_8_method_13_code 28 = .ok (.getstatic 67, 3) := by decide +kernel
theorem d_Reader_process_31 : decode prog_8_method_13_code 31 = .ok (.aload 4, 2) := by decide +kernel
theorem d_Reader_process_33 : decode prog_8_method_13_code 33 = .ok (.getfield 72, 3) := by decide +kernel
theorem d_Reader_process_36 : decode prog_8_method_13_code 36 = .ok (.invokevirtual 78, 3) := by decide +kernel
theorem d_Reader_process_39 : decode prog_8_method_13_code 39 = .ok (.iaload, 1) := by decide +kernel
theorem d_Reader_process_40 : decode prog_8_method_13_code 40 = .ok (.tableswitch 302 1 9 #[52, 81, 110, 122, 146, 173, 199, 224, 252], 52) := by decide +kernel
theorem d_Reader_process_92 : decode prog_8_method_13_code 92 = .ok (.aload_n 0, 1) := by decide +kernel
theorem d_Reader_process_93 : decode prog_8_method_13_code 93 = .ok (.bipush 58, 2) := by decide +kernel
theorem d_Reader_process_95 : decode prog_8_method_13_code 95 = .ok (.invokevirtual 56, 3) := by decide +kernel
theorem d_Reader_process_98 : decode prog_8_method_13_code 98 = .ok (.ifCond .eq 21, 3) := by decide +kernel
theorem d_Reader_process_101 : decode prog_8_method_13_code 101 = .ok (.aload_n 0, 1) := by decide +kernel
theorem d_Reader_process_102 : decode prog_8_method_13_code 102 = .ok (.aload 4, 2) := by decide +kernel
theorem d_Reader_process_104 : decode prog_8_method_13_code 104 = .ok (.aload_n 0, 1) := by decide +kernel
theorem d_Reader_process_105 : decode prog_8_method_13_code 105 = .ok (.iload_n 3, 1) := by decide +kernel
theorem d_Reader_process_106 : decode prog_8_method_13_code 106 = .ok (.invokevirtual 84, 3) := by decide +kernel
theorem d_Reader_process_109 : decode prog_8_method_13_code 109 = .ok (.invokevirtual 88, 3) := by decide +kernel
theorem d_Reader_process_112 : decode prog_8_method_13_code 112 = .ok (.ifCond .eq 7, 3) := by decide +kernel
theorem d_Reader_process_115 : decode prog_8_method_13_code 115 = .ok (.iconst 1, 1) := by decide +kernel
theorem d_Reader_process_116 : decode prog_8_method_13_code 116 = .ok (.goto 4, 3) := by decide +kernel
theorem d_Reader_process_119 : decode prog_8_method_13_code 119 = .ok (.iconst 0, 1) := by decide +kernel
theorem d_Reader_process_120 : decode prog_8_method_13_code 120 = .ok (.ireturn, 1) := by decide +kernel
theorem d_Reader_process_121 : decode prog_8_method_13_code 121 = .ok (.aload_n 0, 1) := by decide +kernel
theorem d_Reader_process_122 : decode prog_8_method_13_code 122 = .ok (.bipush 33, 2) := by decide +kernel
theorem d_Reader_process_124 : decode prog_8_method_13_code 124 = .ok (.invokevirtual 56, 3) := by decide +kernel
theorem d_Reader_process_127 : decode prog_8_method_13_code 127 = .ok (.ifCond .eq 21, 3) := by decide +kernel
theorem d_Reader_process_130 : decode prog_8_method_13_code 130 = .ok (.aload_n 0, 1) := by decide +kernel
theorem d_Reader_process_131 : decode prog_8_method_13_code 131 = .ok (.aload 4, 2) := by decide +kernel
theorem d_Reader_process_133 : decode prog_8_method_13_code 133 = .ok (.aload_n 0, 1) := by decide +kernel
theorem d_Reader_process_134 : decode prog_8_method_13_code 134 = .ok (.iload_n 3, 1) := by decide +kernel
theorem d_Reader_process_135 : decode prog_8_method_13_code 135 = .ok (.invokevirtual 84, 3) := by decide +kernel
theorem d_Reader_process_138 : decode prog_8_method_13_code 138 = .ok (.invokevirtual 88, 3) := by decide +kernel
theorem d_Reader_process_141 : decode prog_8_method_13_code 141 = .ok (.ifCond .eq 7, 3) := by decide +kernel
theorem d_Reader_process_144 : decode prog_8_method_13_code 144 = .ok (.iconst 1, 1) := by decide +kernel
theorem d_Reader_process_145 : decode prog_8_method_13_code 145 = .ok (.goto 4, 3) := by decide +kernel
theorem d_Reader_process_148 : decode prog_8_method_13_code 148 = .ok (.iconst 0, 1) := by decide +kernel
theorem d_Reader_process_149 : decode prog_8_method_13_code 149 = .ok (.ireturn, 1) := by decide +kernel
theorem d_Reader_process_150 : decode prog_8_method_13_code 150 = .ok (.aload_n 0, 1) := by decide +kernel
theorem d_Reader_process_151 : decode prog_8_method_13_code 151 = .ok (.aload 4, 2) := by decide +kernel
theorem d_Reader_process_153 : decode prog_8_method_13_code 153 = .ok (.aload_n 0, 1) := by decide +kernel
theorem d_Reader_process_154 : decode prog_8_method_13_code 154 = .ok (.iload_n 3, 1) := by decide +kernel
theorem d_Reader_process_155 : decode prog_8_method_13_code 155 = .ok (.invokevirtual 84, 3) := by decide +kernel
theorem d_Reader_process_158 : decode prog_8_method_13_code 158 = .ok (.invokevirtual 88, 3) := by decide +kernel
theorem d_Reader_process_161 : decode prog_8_method_13_code 161 = .ok (.ireturn, 1) := by decide +kernel
theorem d_Reader_process_162 : decode prog_8_method_13_code 162 = .ok (.aload 4, 2) := by decide +kernel
theorem d_Reader_process_164 : decode prog_8_method_13_code 164 = .ok (.aload_n 0, 1) := by decide +kernel
theorem d_Reader_process_165 : decode prog_8_method_13_code 165 = .ok (.invokevirtual 92, 3) := by decide +kernel
theorem d_Reader_process_168 : decode prog_8_method_13_code 168 = .ok (.putfield 95, 3) := by decide +kernel
theorem d_Reader_process_171 : decode prog_8_method_13_code 171 = .ok (.aload 4, 2) := by decide +kernel
theorem d_Reader_process_173 : decode prog_8_method_13_code 173 = .ok (.getfield 95, 3) := by decide +kernel
theorem d_Reader_process_176 : decode prog_8_method_13_code 176 = .ok (.iconst (-1), 1) := by decide +kernel
theorem d_Reader_process_177 : decode prog_8_method_13_code 177 = .ok (.if_icmp .eq 7, 3) := by decide +kernel
theorem d_Reader_process_180 : decode prog_8_method_13_code 180 = .ok (.iconst 1, 1) := by decide +kernel
theorem d_Reader_process_181 : decode prog_8_method_13_code 181 = .ok (.goto 4, 3) := by decide +kernel
theorem d_Reader_process_184 : decode prog_8_method_13_code 184 = .ok (.iconst 0, 1) := by decide +kernel
theorem d_Reader_process_185 : decode prog_8_method_13_code 185 = .ok (.ireturn, 1) := by decide +kernel
theorem d_Reader_process_186 : decode prog_8_method_13_code 186 = .ok (.aload_n 0, 1) := by decide +kernel
theorem d_Reader_process_187 : decode prog_8_method_13_code 187 = .ok (.aload 4, 2) := by decide +kernel
theorem d_Reader_process_189 : decode prog_8_method_13_code 189 = .ok (.iload_n 2, 1) := by decide +kernel
theorem d_Reader_process_190 : decode prog_8_method_13_code 190 = .ok (.bipush 72, 2) := by decide +kernel
theorem d_Reader_process_192 : decode prog_8_method_13_code 192 = .ok (.invokevirtual 98, 3) := by decide +kernel
theorem d_Reader_process_195 : decode prog_8_method_13_code 195 = .ok (.ifCond .eq 16, 3) := by decide +kernel
theorem d_Reader_process_198 : decode prog_8_method_13_code 198 = .ok (.aload_n 0, 1) := by decide +kernel
theorem d_Reader_process_199 : decode prog_8_method_13_code 199 = .ok (.bipush 41, 2) := by decide +kernel
theorem d_Reader_process_201 : decode prog_8_method_13_code 201 = .ok (.invokevirtual 56, 3) := by decide +kernel
theorem d_Reader_process_204 : decode prog_8_method_13_code 204 = .ok (.ifCond .eq 7, 3) := by decide +kernel
theorem d_Reader_process_207 : decode prog_8_method_13_code 207 = .ok (.iconst 1, 1) := by decide +kernel
theorem d_Reader_process_208 : decode prog_8_method_13_code 208 = .ok (.goto 4, 3) := by decide +kernel
theorem d_Reader_process_211 : decode prog_8_method_13_code 211 = .ok (.iconst 0, 1) := by decide +kernel
theorem d_Reader_process_212 : decode prog_8_method_13_code 212 = .ok (.ireturn, 1) := by decide +kernel
theorem d_Reader_process_213 : decode prog_8_method_13_code 213 = .ok (.aload_n 0, 1) := by decide +kernel
theorem d_Reader_process_214 : decode prog_8_method_13_code 214 = .ok (.aload 4, 2) := by decide +kernel
theorem d_Reader_process_216 : decode prog_8_method_13_code 216 = .ok (.iload_n 2, 1) := by decide +kernel
theorem d_Reader_process_217 : decode prog_8_method_13_code 217 = .ok (.iconst 4, 1) := by decide +kernel
theorem d_Reader_process_218 : decode prog_8_method_13_code 218 = .ok (.invokevirtual 98, 3) := by decide +kernel
theorem d_Reader_process_221 : decode prog_8_method_13_code 221 = .ok (.ifCond .eq 16, 3) := by decide +kernel
theorem d_Reader_process_224 : decode prog_8_method_13_code 224 = .ok (.aload_n 0, 1) := by decide +kernel
theorem d_Reader_process_225 : decode prog_8_method_13_code 225 = .ok (.bipush 125, 2) := by decide +kernel
theorem d_Reader_process_227 : decode prog_8_method_13_code 227 = .ok (.invokevirtual 56, 3) := by decide +kernel
theorem d_Reader_process_230 : decode prog_8_method_13_code 230 = .ok (.ifCond .eq 7, 3) := by decide +kernel
theorem d_Reader_process_233 : decode prog_8_method_13_code 233 = .ok (.iconst 1, 1) := by decide +kernel
theorem d_Reader_process_234 : decode prog_8_method_13_code 234 = .ok (.goto 4, 3) := by decide +kernel
theorem d_Reader_process_237 : decode prog_8_method_13_code 237 = .ok (.iconst 0, 1) := by decide +kernel
theorem d_Reader_process_238 : decode prog_8_method_13_code 238 = .ok (.ireturn, 1) := by decide +kernel
theorem d_Reader_process_239 : decode prog_8_method_13_code 239 = .ok (.aload_n 0, 1) := by decide +kernel
theorem d_Reader_process_240 : decode prog_8_method_13_code 240 = .ok (.aload 4, 2) := by decide +kernel
theorem d_Reader_process_242 : decode prog_8_method_13_code 242 = .ok (.iload_n 2, 1) := by decide +kernel
theorem d_Reader_process_243 : decode prog_8_method_13_code 243 = .ok (.invokevirtual 102, 3) := by decide +kernel
theorem d_Reader_process_246 : decode prog_8_method_13_code 246 = .ok (.ifCond .eq 16, 3) := by decide +kernel
theorem d_Reader_process_249 : decode prog_8_method_13_code 249 = .ok (.aload_n 0, 1) := by decide +kernel
theorem d_Reader_process_250 : decode prog_8_method_13_code 250 = .ok (.bipush 93, 2) := by decide +kernel
theorem d_Reader_process_252 : decode prog_8_method_13_code 252 = .ok (.invokevirtual 56, 3) := by decide +kernel
theorem d_Reader_process_255 : decode prog_8_method_13_code 255 = .ok (.ifCond .eq 7, 3) := by decide +kernel
theorem d_Reader_process_258 : decode prog_8_method_13_code 258 = .ok (.iconst 1, 1) := by decide +kernel
theorem d_Reader_process_259 : decode prog_8_method_13_code 259 = .ok (.goto 4, 3) := by decide +kernel
theorem d_Reader_process_262 : decode prog_8_method_13_code 262 = .ok (.iconst 0, 1) := by decide +kernel
theorem d_Reader_process_263 : decode prog_8_method_13_code 263 = .ok (.ireturn, 1) := by decide +kernel
theorem d_Reader_process_264 : decode prog_8_method_13_code 264 = .ok (.aload_n 0, 1) := by decide +kernel
theorem d_Reader_process_265 : decode prog_8_method_13_code 265 = .ok (.aload 4, 2) := by decide +kernel
theorem d_Reader_process_267 : decode prog_8_method_13_code 267 = .ok (.invokevirtual 105, 3) := by decide +kernel
theorem d_Reader_process_270 : decode prog_8_method_13_code 270 = .ok (.ifCond .eq 20, 3) := by decide +kernel
theorem d_Reader_process_273 : decode prog_8_method_13_code 273 = .ok (.aload_n 0, 1) := by decide +kernel
theorem d_Reader_process_274 : decode prog_8_method_13_code 274 = .ok (.aload 4, 2) := by decide +kernel
theorem d_Reader_process_276 : decode prog_8_method_13_code 276 = .ok (.iload_n 2, 1) := by decide +kernel
theorem d_Reader_process_277 : decode prog_8_method_13_code 277 = .ok (.iconst 1, 1) := by decide +kernel
theorem d_Reader_process_278 : decode prog_8_method_13_code 278 = .ok (.iadd, 1) := by decide +kernel
theorem d_Reader_process_279 : decode prog_8_method_13_code 279 = .ok (.iload_n 3, 1) := by decide +kernel
theorem d_Reader_process_280 : decode prog_8_method_13_code 280 = .ok (.invokevirtual 109, 3) := by decide +kernel
theorem d_Reader_process_283 : decode prog_8_method_13_code 283 = .ok (.ifCond .eq 7, 3) := by decide +kernel
theorem d_Reader_process_286 : decode prog_8_method_13_code 286 = .ok (.iconst 1, 1) := by decide +kernel
theorem d_Reader_process_287 : decode prog_8_method_13_code 287 = .ok (.goto 4, 3) := by decide +kernel
theorem d_Reader_process_290 : decode prog_8_method_13_code 290 = .ok (.iconst 0, 1) := by decide +kernel
theorem d_Reader_process_291 : decode prog_8_method_13_code 291 = .ok (.ireturn, 1) := by decide +kernel
theorem d_Reader_process_292 : decode prog_8_method_13_code 292 = .ok (.aload_n 0, 1) := by decide +kernel
theorem d_Reader_process_293 : decode prog_8_method_13_code 293 = .ok (.aload 4, 2) := by decide +kernel
theorem d_Reader_process_295 : decode prog_8_method_13_code 295 = .ok (.invokevirtual 105, 3) := by decide +kernel
theorem d_Reader_process_298 : decode prog_8_method_13_code 298 = .ok (.ifCond .eq 42, 3) := by decide +kernel
theorem d_Reader_process_301 : decode prog_8_method_13_code 301 = .ok (.aload_n 0, 1) := by decide +kernel
theorem d_Reader_process_302 : decode prog_8_method_13_code 302 = .ok (.aload 4, 2) := by decide +kernel
theorem d_Reader_process_304 : decode prog_8_method_13_code 304 = .ok (.iload_n 2, 1) := by decide +kernel
theorem d_Reader_process_305 : decode prog_8_method_13_code 305 = .ok (.iconst 1, 1) := by decide +kernel
theorem d_Reader_process_306 : decode prog_8_method_13_code 306 = .ok (.iadd, 1) := by decide +kernel
theorem d_Reader_process_307 : decode prog_8_method_13_code 307 = .ok (.iconst 0, 1) := by decide +kernel
theorem d_Reader_process_308 : decode prog_8_method_13_code 308 = .ok (.invokevirtual 109, 3) := by decide +kernel
theorem d_Reader_process_311 : decode prog_8_method_13_code 311 = .ok (.ifCond .eq 29, 3) := by decide +kernel
theorem d_Reader_process_314 : decode prog_8_method_13_code 314 = .ok (.aload_n 0, 1) := by decide +kernel
theorem d_Reader_process_315 : decode prog_8_method_13_code 315 = .ok (.bipush 44, 2) := by decide +kernel
theorem d_Reader_process_317 : decode prog_8_method_13_code 317 = .ok (.invokevirtual 56, 3) := by decide +kernel
theorem d_Reader_process_320 : decode prog_8_method_13_code 320 = .ok (.ifCond .eq 20, 3) := by decide +kernel
theorem d_Reader_process_323 : decode prog_8_method_13_code 323 = .ok (.aload_n 0, 1) := by decide +kernel
theorem d_Reader_process_324 : decode prog_8_method_13_code 324 = .ok (.aload 4, 2) := by decide +kernel
theorem d_Reader_process_326 : decode prog_8_method_13_code 326 = .ok (.iload_n 2, 1) := by decide +kernel
theorem d_Reader_process_327 : decode prog_8_method_13_code 327 = .ok (.iconst 1, 1) := by decide +kernel
theorem d_Reader_process_328 : decode prog_8_method_13_code 328 = .ok (.iadd, 1) := by decide +kernel
theorem d_Reader_process_329 : decode prog_8_method_13_code 329 = .ok (.iload_n 3, 1) := by decide +kernel
theorem d_Reader_process_330 : decode prog_8_method_13_code 330 = .ok (.invokevirtual 109, 3) := by decide +kernel
theorem d_Reader_process_333 : decode prog_8_method_13_code 333 = .ok (.ifCond .eq 7, 3) := by decide +kernel
theorem d_Reader_process_336 : decode prog_8_method_13_code 336 = .ok (.iconst 1, 1) := by decide +kernel
theorem d_Reader_process_337 : decode prog_8_method_13_code 337 = .ok (.goto 4, 3) := by decide +kernel
theorem d_Reader_process_340 : decode prog_8_method_13_code 340 = .ok (.iconst 0, 1) := by decide +kernel
theorem d_Reader_process_341 : decode prog_8_method_13_code 341 = .ok (.ireturn, 1) := by decide +kernel
theorem d_Reader_process_342 : decode prog_8_method_13_code 342 = .ok (.iconst 1, 1) := by decide +kernel
theorem d_Reader_process_343 : decode prog_8_method_13_code 343 = .ok (.ireturn, 1) := by decide +kernel
set_option maxHeartbeats 4000000 in
set_option maxRecDepth 100000 in
theorem c_E_ordinal0 (l : Launch) (dC : Nat → ClassId) (dI : Nat → Nat → Nat) (ar : Nat → ClassId) (N0 : Nat) (z : Nat → Nat) (ad : Nat → Nat) (I : Nat → Int32) (T : Int64) (A : Nat → Nat → Int32) (O : Nat → Option Nat) (pl : va_W) (jj : Nat) (sz w0 : Nat) (hjj : jj < 11) : Met l ({ cls := "java/lang/Enum", name := "ordinal", desc := "()I" } : Jvm.MethodName) ((Jvm.Cond.code ({ cls := "java/lang/Enum", name := "ordinal", desc := "()I" } : Jvm.MethodName) prog_16_method_2_code (1 : Nat) (Option.some Jvm.ClassFile.FieldType.int)) :: x_T) ({ frames := 0, cells := 0, slots := 0, locals := 0 }) (y_Pc (dC, dI) ar N0 z (y_W ad ar I T A O pl) sz w0 [.ref (z (3 + jj))]) (va_Qi (fun (r : Int32) (u : (Nat → Int32) × Int64 × (Nat → Nat → Int32) × (Nat → Option Nat) × va_W × (Nat × Nat × Nat × Nat)) => u = (I, T, A, O, pl, 0, 0, 0, 0) ∧ r = Int32.ofNat jj) (fun u t => va_P (dC, dI) y_cl (y_W ad ar u.1 u.2.1 u.2.2.1 u.2.2.2.1 u.2.2.2.2.1) t.heap ∧ va_D (va_A (y_W ad ar I T A O pl) sz) (y_W ad ar u.1 u.2.1 u.2.2.1 u.2.2.2.1 u.2.2.2.2.1) ∧ True) (va_A (y_W ad ar I T A O pl) sz)) (0) (0) (va_A (y_W ad ar I T A O pl) sz) := by
  refine Met.ofW (cc := prog_16_method_2_code) (maxL := 1) (ret := (some .int)) (by decide) rfl ?_
  intro p e s m args below meth c s₁ B hml hv
  obtain ⟨rfl, hsz, hN0, hP, hU, hZ, hD0, hw0⟩ := hv
  have hK := hU.2.1
  have hx := B.exec
  have hb := B.bytes
  have hr := B.returns
  have hts : ∀ w ∈ x_T, w.before ([.ref (z (3 + jj))] : List Value).toArray s = true := fun w h => atoms_spec (ws := (Jvm.Cond.code ({ cls := "java/lang/Enum", name := "ordinal", desc := "()I" } : Jvm.MethodName) prog_16_method_2_code (1 : Nat) (Option.some Jvm.ClassFile.FieldType.int)) :: x_T) B.pre w (List.mem_cons_of_mem _ h)
  have hown : s.vm.findClass "java/lang/Enum" = some m.cls := findClass_of_methodNamed B.named
  have hlocks := B.notSynchronized
  subst hsz
  subst hw0
  have hD := hD0.self (sz := s.heap.size)
  have hAN := x_AN hD0 hN0
  generalize hAe : va_A (y_W ad ar I T A O pl) s.heap.size = Bq at hD hAN ⊢
  have hA : ∀ q : Nat, s.heap.size ≤ q → Bq q := fun q h => by rw [← hAe]; exact Or.inr h
  have hS : va_S Bq s.heap s.heap [] := va_S.rf
  have hl := lv_entry ([.ref (z (3 + jj))]) (n := 1) (Nat.le_of_ble_eq_true rfl)
  rw [lg_entry_eq]
  generalize (lg_sl ([.ref (z (3 + jj))]) ++ List.replicate (1 - (lg_sl ([.ref (z (3 + jj))])).length) Slot.unset).toArray = ls at hl ⊢
  have hl : lv_has ls 1 [(0, .ref (z (3 + jj)))] := hl
  refine lv_aload_n hx hb d_Enum_ordinal_0 rfl (lv_at hl 0 rfl) ?_
  refine va_getE (E := "ChannelMachine$Kind") (i := jj) (ad := fun i => z (3 + i)) hx hb (hZ.2.1.narrow hAN) hjj hS hown (q := ("java/lang/Enum", "ordinal", "I", [0, 1, 2, 3, 4, 5, 6, 7, 8, 9, 10])) List.mem_cons_self (hts _ k_1307) (fun _ h9 => h9) d_Enum_ordinal_1 ?_
  refine W.eq (g2 := F0 m 4 ls [.int (Int32.ofNat jj)]) (by dsimp only; rw [y_ord jj hjj]) ?_
  refine y_know (fun hy91 hy92 hy93 hy94 => ?_)
  have hac9 : True := trivial
  refine W.widen (k := 0) (n := 0) (by omega) (by omega) ?_
  exact W.iret (v := (Int32.ofNat jj)) hx hb hr (fun t ht hW => ⟨⟨(Int32.ofNat jj), (I, T, A, O, pl, (0, 0, 0, 0)), rfl, ⟨rfl, rfl⟩, (by dsimp only; rw [ht]; exact ⟨hP, hD, hac9⟩)⟩, hS.F ht⟩) hS.2.2 d_Enum_ordinal_4
set_option maxHeartbeats 4000000 in
set_option maxRecDepth 100000 in
theorem st_P (nn : Nat) (ihP : ∀ (l : Launch) (dC : Nat → ClassId) (dI : Nat → Nat → Nat) (ar : Nat → ClassId) (N0 : Nat) (z : Nat → Nat) (ad : Nat → Nat) (I : Nat → Int32) (T : Int64) (A : Nat → Nat → Int32) (O : Nat → Option Nat) (pl : va_W) (ln cl aa : Nat) (f0 : Nat → Option va_E) (G J : Nat → Nat) (C Gs : Nat → List Nat) (S : Nat → Nat) (par : Option Nat) (dp : Nat) (gv : Int32) (sz w0 : Nat) (hmi : y_RD I A (ln, cl, ln, aa)) (hdx : y_DX z ar f0 G J C Gs S (y_L pl)) (hpar : ∀ P, par = some P → G P = 7 ∧ (J P = 6 → (C P).length < 4)) (hdp : 1 ≤ dp ∧ dp ≤ 8) (hrk : 8 - dp < nn) , Met l ({ cls := "ChannelMachine$Reader", name := "process", desc := "(LChannelMachine$Process;IZ)Z" } : Jvm.MethodName) ((Jvm.Cond.code ({ cls := "ChannelMachine$Reader", name := "process", desc := "(LChannelMachine$Process;IZ)Z" } : Jvm.MethodName) prog_8_method_13_code (5 : Nat) (Option.some Jvm.ClassFile.FieldType.boolean)) :: x_T) ({ frames := 2 * nn + 40, cells := 3 * (72 - aa) + 2, slots := 100 * (72 - aa) + 80, locals := 100 * nn + 1400 }) (y_Pc (dC, dI) ar N0 z (y_W ad ar I T A O pl) sz w0 [.ref (ad 1), va_rf par, .int (Int32.ofNat dp), .int gv]) (va_Qi (fun (r : Int32) (u : (Nat → Int32) × Int64 × (Nat → Nat → Int32) × (Nat → Option Nat) × va_W × (Nat × Nat × Nat × Nat)) => y_RD u.1 u.2.2.1 (ln, u.2.2.2.2.2.2.1, ln, u.2.2.2.2.2.2.2.2) ∧ u.2.1 = T ∧ (∀ k, (k ≠ 0 ∨ par ≠ none) → u.2.2.2.1 k = O k) ∧ m_fr [2, 3, 4, 5, 6] I u.1 ∧ aa ≤ u.2.2.2.2.2.2.2.2 ∧ ((r = 0 ∧ u.2.2.2.2.2.2.2.1 ≤ 1 ∧ ∀ a, f0 a ≠ none → y_L u.2.2.2.2.1 a = f0 a) ∨ (r = 1 ∧ u.2.2.2.2.2.2.2.1 = 0 ∧ ∃ p, y_SU z ar f0 (y_L pl) G J C Gs S par p (y_L u.2.2.2.2.1) ∧ (par = none → u.2.2.2.1 0 = some p)))) (fun u t => va_P (dC, dI) y_cl (y_W ad ar u.1 u.2.1 u.2.2.1 u.2.2.2.1 u.2.2.2.2.1) t.heap ∧ va_D (va_A (y_W ad ar I T A O pl) sz) (y_W ad ar u.1 u.2.1 u.2.2.1 u.2.2.2.1 u.2.2.2.2.1) ∧ y_rc sz w0 aa u.2.2.2.2.2.2.2.2 u.2.2.2.2.2.2.2.1 t.heap) (va_A (y_W ad ar I T A O pl) sz)) (3 * (72 - aa) + 2) (100 * (72 - aa) + 80) (va_A (y_W ad ar I T A O pl) sz)) (ihT : ∀ (l : Launch) (dC : Nat → ClassId) (dI : Nat → Nat → Nat) (ar : Nat → ClassId) (N0 : Nat) (z : Nat → Nat) (ad : Nat → Nat) (I : Nat → Int32) (T : Int64) (A : Nat → Nat → Int32) (O : Nat → Option Nat) (pl : va_W) (ln cl aa : Nat) (f0 : Nat → Option va_E) (G J : Nat → Nat) (C Gs : Nat → List Nat) (S : Nat → Nat) (P dp mo : Nat) (sz w0 : Nat) (hmi : y_RD I A (ln, cl, ln, aa)) (hdx : y_DX z ar f0 G J C Gs S (y_L pl)) (hPG : G P = 7) (hdp : 1 ≤ dp ∧ dp ≤ 7) (hrk : 7 - dp < nn) (hC0 : C P = []) (hmo : mo ≤ 72 ∧ (J P = 6 → mo ≤ 4)) , Met l ({ cls := "ChannelMachine$Reader", name := "parts", desc := "(LChannelMachine$Process;II)Z" } : Jvm.MethodName) ((Jvm.Cond.code ({ cls := "ChannelMachine$Reader", name := "parts", desc := "(LChannelMachine$Process;II)Z" } : Jvm.MethodName) prog_8_method_18_code (5 : Nat) (Option.some Jvm.ClassFile.FieldType.boolean)) :: x_T) ({ frames := 2 * nn + 41, cells := 3 * (72 - aa) + 2, slots := 100 * (72 - aa) + 80, locals := 100 * nn + 1440 }) (y_Pc (dC, dI) ar N0 z (y_W ad ar I T A O pl) sz w0 [.ref (ad 1), .ref P, .int (Int32.ofNat dp), .int (Int32.ofNat mo)]) (va_Qi (fun (r : Int32) (u : (Nat → Int32) × Int64 × (Nat → Nat → Int32) × (Nat → Option Nat) × va_W × (Nat × Nat × Nat × Nat)) => y_RD u.1 u.2.2.1 (ln, u.2.2.2.2.2.2.1, ln, u.2.2.2.2.2.2.2.2) ∧ u.2.1 = T ∧ (∀ k, u.2.2.2.1 k = O k) ∧ m_fr [2, 3, 4, 5, 6] I u.1 ∧ aa ≤ u.2.2.2.2.2.2.2.2 ∧ ((r = 0 ∧ u.2.2.2.2.2.2.2.1 ≤ 1 ∧ ∀ a, f0 a ≠ none → y_L u.2.2.2.2.1 a = f0 a) ∨ (r = 1 ∧ u.2.2.2.2.2.2.2.1 = 0 ∧ ∃ (G' J' : Nat → Nat) (C' Gs' : Nat → List Nat) (S' : Nat → Nat), y_DX z ar f0 G' J' C' Gs' S' (y_L u.2.2.2.2.1) ∧ y_PH P (y_L pl) G J C Gs S (y_L u.2.2.2.2.1) G' J' C' Gs' S' ∧ S' P = S P))) (fun u t => va_P (dC, dI) y_cl (y_W ad ar u.1 u.2.1 u.2.2.1 u.2.2.2.1 u.2.2.2.2.1) t.heap ∧ va_D (va_A (y_W ad ar I T A O pl) sz) (y_W ad ar u.1 u.2.1 u.2.2.1 u.2.2.2.1 u.2.2.2.2.1) ∧ y_rc sz w0 aa u.2.2.2.2.2.2.2.2 u.2.2.2.2.2.2.2.1 t.heap) (va_A (y_W ad ar I T A O pl) sz)) (3 * (72 - aa) + 2) (100 * (72 - aa) + 80) (va_A (y_W ad ar I T A O pl) sz)) (ihG : ∀ (l : Launch) (dC : Nat → ClassId) (dI : Nat → Nat → Nat) (ar : Nat → ClassId) (N0 : Nat) (z : Nat → Nat) (ad : Nat → Nat) (I : Nat → Int32) (T : Int64) (A : Nat → Nat → Int32) (O : Nat → Option Nat) (pl : va_W) (ln cl aa : Nat) (f0 : Nat → Option va_E) (G J : Nat → Nat) (C Gs : Nat → List Nat) (S : Nat → Nat) (P dp : Nat) (sz w0 : Nat) (hmi : y_RD I A (ln, cl, ln, aa)) (hdx : y_DX z ar f0 G J C Gs S (y_L pl)) (hPG : G P = 7) (hdp : 1 ≤ dp ∧ dp ≤ 7) (hrk : 7 - dp < nn) (hG0 : Gs P = []) (hJP : J P = 10) , Met l ({ cls := "ChannelMachine$Reader", name := "guards", desc := "(LChannelMachine$Process;I)Z" } : Jvm.MethodName) ((Jvm.Cond.code ({ cls := "ChannelMachine$Reader", name := "guards", desc := "(LChannelMachine$Process;I)Z" } : Jvm.MethodName) prog_8_method_19_code (7 : Nat) (Option.some Jvm.ClassFile.FieldType.boolean)) :: x_T) ({ frames := 2 * nn + 41, cells := 3 * (72 - aa) + 2, slots := 100 * (72 - aa) + 80, locals := 100 * nn + 1440 }) (y_Pc (dC, dI) ar N0 z (y_W ad ar I T A O pl) sz w0 [.ref (ad 1), .ref P, .int (Int32.ofNat dp)]) (va_Qi (fun (r : Int32) (u : (Nat → Int32) × Int64 × (Nat → Nat → Int32) × (Nat → Option Nat) × va_W × (Nat × Nat × Nat × Nat)) => y_RD u.1 u.2.2.1 (ln, u.2.2.2.2.2.2.1, ln, u.2.2.2.2.2.2.2.2) ∧ u.2.1 = T ∧ (∀ k, u.2.2.2.1 k = O k) ∧ m_fr [2, 3, 4, 5, 6] I u.1 ∧ aa ≤ u.2.2.2.2.2.2.2.2 ∧ ((r = 0 ∧ u.2.2.2.2.2.2.2.1 ≤ 1 ∧ ∀ a, f0 a ≠ none → y_L u.2.2.2.2.1 a = f0 a) ∨ (r = 1 ∧ u.2.2.2.2.2.2.2.1 = 0 ∧ ∃ (G' J' : Nat → Nat) (C' Gs' : Nat → List Nat) (S' : Nat → Nat), y_DX z ar f0 G' J' C' Gs' S' (y_L u.2.2.2.2.1) ∧ y_PH P (y_L pl) G J C Gs S (y_L u.2.2.2.2.1) G' J' C' Gs' S' ∧ S' P = S P))) (fun u t => va_P (dC, dI) y_cl (y_W ad ar u.1 u.2.1 u.2.2.1 u.2.2.2.1 u.2.2.2.2.1) t.heap ∧ va_D (va_A (y_W ad ar I T A O pl) sz) (y_W ad ar u.1 u.2.1 u.2.2.1 u.2.2.2.1 u.2.2.2.2.1) ∧ y_rc sz w0 aa u.2.2.2.2.2.2.2.2 u.2.2.2.2.2.2.2.1 t.heap) (va_A (y_W ad ar I T A O pl) sz)) (3 * (72 - aa) + 2) (100 * (72 - aa) + 80) (va_A (y_W ad ar I T A O pl) sz)) (l : Launch) (dC : Nat → ClassId) (dI : Nat → Nat → Nat) (ar : Nat → ClassId) (N0 : Nat) (z : Nat → Nat) (ad : Nat → Nat) (I : Nat → Int32) (T : Int64) (A : Nat → Nat → Int32) (O : Nat → Option Nat) (pl : va_W) (ln cl aa : Nat) (f0 : Nat → Option va_E) (G J : Nat → Nat) (C Gs : Nat → List Nat) (S : Nat → Nat) (par : Option Nat) (dp : Nat) (gv : Int32) (sz w0 : Nat) (hmi : y_RD I A (ln, cl, ln, aa)) (hdx : y_DX z ar f0 G J C Gs S (y_L pl)) (hpar : ∀ P, par = some P → G P = 7 ∧ (J P = 6 → (C P).length < 4)) (hdp : 1 ≤ dp ∧ dp ≤ 8) (hrk : 8 - dp < (nn + 1)) : Met l ({ cls := "ChannelMachine$Reader", name := "process", desc := "(LChannelMachine$Process;IZ)Z" } : Jvm.MethodName) ((Jvm.Cond.code ({ cls := "ChannelMachine$Reader", name := "process", desc := "(LChannelMachine$Process;IZ)Z" } : Jvm.MethodName) prog_8_method_13_code (5 : Nat) (Option.some Jvm.ClassFile.FieldType.boolean)) :: x_T) ({ frames := 2 * (nn + 1) + 40, cells := 3 * (72 - aa) + 2, slots := 100 * (72 - aa) + 80, locals := 100 * (nn + 1) + 1400 }) (y_Pc (dC, dI) ar N0 z (y_W ad ar I T A O pl) sz w0 [.ref (ad 1), va_rf par, .int (Int32.ofNat dp), .int gv]) (va_Qi (fun (r : Int32) (u : (Nat → Int32) × Int64 × (Nat → Nat → Int32) × (Nat → Option Nat) × va_W × (Nat × Nat × Nat × Nat)) => y_RD u.1 u.2.2.1 (ln, u.2.2.2.2.2.2.1, ln, u.2.2.2.2.2.2.2.2) ∧ u.2.1 = T ∧ (∀ k, (k ≠ 0 ∨ par ≠ none) → u.2.2.2.1 k = O k) ∧ m_fr [2, 3, 4, 5, 6] I u.1 ∧ aa ≤ u.2.2.2.2.2.2.2.2 ∧ ((r = 0 ∧ u.2.2.2.2.2.2.2.1 ≤ 1 ∧ ∀ a, f0 a ≠ none → y_L u.2.2.2.2.1 a = f0 a) ∨ (r = 1 ∧ u.2.2.2.2.2.2.2.1 = 0 ∧ ∃ p, y_SU z ar f0 (y_L pl) G J C Gs S par p (y_L u.2.2.2.2.1) ∧ (par = none → u.2.2.2.1 0 = some p)))) (fun u t => va_P (dC, dI) y_cl (y_W ad ar u.1 u.2.1 u.2.2.1 u.2.2.2.1 u.2.2.2.2.1) t.heap ∧ va_D (va_A (y_W ad ar I T A O pl) sz) (y_W ad ar u.1 u.2.1 u.2.2.1 u.2.2.2.1 u.2.2.2.2.1) ∧ y_rc sz w0 aa u.2.2.2.2.2.2.2.2 u.2.2.2.2.2.2.2.1 t.heap) (va_A (y_W ad ar I T A O pl) sz)) (3 * (72 - aa) + 2) (100 * (72 - aa) + 80) (va_A (y_W ad ar I T A O pl) sz) := by
  rcases par with _ | P
  · refine Met.ofW (cc := prog_8_method_13_code) (maxL := 5) (ret := (some .boolean)) (by decide) rfl ?_
    intro p e s m args below meth c s₁ B hml hv
    obtain ⟨rfl, hsz, hN0, hP, hU, hZ, hD0, hw0⟩ := hv
    have hK := hU.2.1
    have hx := B.exec
    have hb := B.bytes
    have hr := B.returns
    have hts : ∀ w ∈ x_T, w.before ([.ref (ad 1), va_rf none, .int (Int32.ofNat dp), .int gv] : List Value).toArray s = true := fun w h => atoms_spec (ws := (Jvm.Cond.code ({ cls := "ChannelMachine$Reader", name := "process", desc := "(LChannelMachine$Process;IZ)Z" } : Jvm.MethodName) prog_8_method_13_code (5 : Nat) (Option.some Jvm.ClassFile.FieldType.boolean)) :: x_T) B.pre w (List.mem_cons_of_mem _ h)
    have hown : s.vm.findClass "ChannelMachine$Reader" = some m.cls := findClass_of_methodNamed B.named
    have hlocks := B.notSynchronized
    subst hsz
    subst hw0
    have hD := hD0.self (sz := s.heap.size)
    have hAN := x_AN hD0 hN0
    generalize hAe : va_A (y_W ad ar I T A O pl) s.heap.size = Bq at hD hAN ⊢
    have hA : ∀ q : Nat, s.heap.size ≤ q → Bq q := fun q h => by rw [← hAe]; exact Or.inr h
    have hS : va_S Bq s.heap s.heap [] := va_S.rf
    have hl := lv_entry ([.ref (ad 1), va_rf none, .int (Int32.ofNat dp), .int gv]) (n := 5) (Nat.le_of_ble_eq_true rfl)
    rw [lg_entry_eq]
    generalize (lg_sl ([.ref (ad 1), va_rf none, .int (Int32.ofNat dp), .int gv]) ++ List.replicate (5 - (lg_sl ([.ref (ad 1), va_rf none, .int (Int32.ofNat dp), .int gv])).length) Slot.unset).toArray = ls at hl ⊢
    have hl : lv_has ls 5 [(0, .ref (ad 1)), (1, .null), (2, .int (Int32.ofNat dp)), (3, .int gv)] := hl
    have hbn := hmi.2.1
    dsimp only at hbn
    refine lv_iload_n hx hb d_Reader_process_0 rfl (lv_at hl 2 rfl) ?_
    refine lv_bipush (v := 7) hx hb d_Reader_process_1 (by decide) ?_
    refine lv_icmp_le (tgt := 10) hx hb d_Reader_process_3 (by decide) (fun c_1 => ?_) (fun c_1 => ?_)
    · have c_1 : dp ≤ 7 := (x_leN (a := dp) (b := 7) (by omega) (by omega)).mp c_1
      have hdT : 1 ≤ dp ∧ dp ≤ 7 := by omega
      have hrT : 7 - dp < nn := by omega
      have hdN : 1 ≤ dp + 1 ∧ dp + 1 ≤ 8 := by omega
      have hrN : 8 - (dp + 1) < nn := by omega
      refine lv_aload_n hx hb d_Reader_process_10 rfl (lv_at hl 0 rfl) ?_
      refine lv_aload_nN hx hb d_Reader_process_11 rfl (lv_at hl 1 rfl) ?_
      refine lv_iload_n hx hb d_Reader_process_12 rfl (lv_at hl 2 rfl) ?_
      refine y_know (fun hya1 hya2 hya3 hya4 => ?_)
      have hFc := y_free hD hS hA
      refine va_callq (va_runV (As := [.null, .int (Int32.ofNat dp)]) (rest := []) ⟨hx, hb, hml, hown, hts⟩ (c_Rd_begin l dC dI ar N0 z ad I T A O pl ln cl ln aa f0 G J C Gs S none dp s.heap.size (y_hs s.heap) hmi hdx (by omega) hpar) (cwV 2 hts (x_goodV k_334 k_336 kp_2 k_2 k_337) rfl rfl rfl (by decide +kernel) ⟨Nat.le_trans (m := 40) (Nat.le_of_ble_eq_true rfl) (Nat.le_add_left 40 _), Nat.le_trans (m := 1400) (Nat.le_of_ble_eq_true rfl) (Nat.le_add_left 1400 _)⟩) ⟨y_blind, va_recv hK hP (ci := 3) (q0 := 1) rfl (y_W_ob (by decide) (by decide)), fun U9 hU9 hW9 => y_pre hU9 hW9 hP hD hU hZ hS hAN hN0⟩ rfl rfl hl.1 rfl (lv_room (Nat.le_of_ble_eq_true rfl)) d_Reader_process_13 ⟨(by show 0 + (2) ≤ 3 * (72 - aa) + 2; omega), (by show 0 + (17) ≤ 100 * (72 - aa) + 80; omega)⟩) hS (fun q _ h => hFc q h) hFc (fun r_2 u t H1 locs ht hvm hw hB hz1 hk1 hS => ?_)
      obtain ⟨I3, T3, A3, O3, pl3, q3, s3, cq3, cs3⟩ := u
      dsimp only at hw hB
      rw [ht] at hB
      obtain ⟨hP, hD1, hac3⟩ := hB
      have hD : va_D Bq (y_W ad ar I3 T3 A3 O3 pl3) := hD1.weaken (fun _ q _ h => hFc q.1 h)
      generalize H1 = H at hP hS hac3 ⊢
      have hae3 := hac3
      try unfold y_ac at hae3
      try dsimp only at hae3
      obtain ⟨hmi, e6, e7, e2, hO3, fr3, hbr⟩ := hw
      rw [e2] at hP hD
      rw [e6, e7] at hmi
      have hP : va_P (dC, dI) y_cl (y_W ad ar I3 T A3 O3 pl3) H := hP
      have hD : va_D Bq (y_W ad ar I3 T A3 O3 pl3) := hD
      rcases hbr with ⟨rfl, epl, eat⟩ | ⟨eat, p3, t3, jj9, chB, vaB, G3, J3, C3, Gs3, S3, rfl, hzp3, hdxB, hfx, hcx, ⟨hg1, hg2, hg3, hg4, hg5, hg6⟩, hfp3, hpr, hjj, hchB⟩
      · rw [epl] at hP hD
        rw [eat] at hmi
        refine W.eq (g2 := F0 m 16 ls [.null]) rfl ?_
        have hP : va_P (dC, dI) y_cl (y_W ad ar I3 T A3 O3 pl) H := hP
        have hD : va_D Bq (y_W ad ar I3 T A3 O3 pl) := hD
        have hbn := hmi.2.1
        dsimp only at hbn
        refine lv_astoreN (lv' := [(4, .null), (0, .ref (ad 1)), (1, .null), (2, .int (Int32.ofNat dp)), (3, .int gv)]) hx hb d_Reader_process_16 hl (by decide) rfl (fun ls hl => ?_)
        refine lv_aloadN hx hb d_Reader_process_18 (lv_at hl 0 rfl) ?_
        refine lv_ifnonnullN hx hb d_Reader_process_20 ?_
        refine lv_aload_n hx hb d_Reader_process_23 rfl (lv_at hl 1 rfl) ?_
        have hFc := y_free hD hS hA
        refine va_calli (va_runV (As := []) (rest := []) ⟨hx, hb, hml, hown, hts⟩ (c_Rd_refuse l dC dI ar N0 z ad I3 T A3 O3 pl ln s3 ln aa H.size (y_hs H) hmi) (cwV 0 hts (x_goodV k_477 k_479 kp_6 k_2 k_480) rfl rfl rfl (by decide +kernel) ⟨Nat.le_trans (m := 40) (Nat.le_of_ble_eq_true rfl) (Nat.le_add_left 40 _), Nat.le_trans (m := 1400) (Nat.le_of_ble_eq_true rfl) (Nat.le_add_left 1400 _)⟩) ⟨y_blind, va_recv hK hP (ci := 3) (q0 := 1) rfl (y_W_ob (by decide) (by decide)), fun U9 hU9 hW9 => y_pre hU9 hW9 hP hD hU hZ hS hAN hN0⟩ rfl rfl hl.1 rfl (lv_room (Nat.le_of_ble_eq_true rfl)) d_Reader_process_24 ⟨(by show 0 + (2) + (0) ≤ 3 * (72 - aa) + 2; omega), (by show 0 + (17) + (0) ≤ 100 * (72 - aa) + 80; omega)⟩) hS (fun q _ h => hFc q h) hFc (fun r_4 u t H1 locs ht hvm hw hB hz1 hk1 hS => ?_)
        obtain ⟨I5, T5, A5, O5, pl5, q5, s5, cq5, cs5⟩ := u
        dsimp only at hw hB
        rw [ht] at hB
        obtain ⟨hP, hD1, hac5⟩ := hB
        have hD : va_D Bq (y_W ad ar I5 T5 A5 O5 pl5) := hD1.weaken (fun _ q _ h => hFc q.1 h)
        generalize H1 = H at hP hS hac5 ⊢
        have hae5 := hac5
        try unfold y_ac at hae5
        try dsimp only at hae5
        refine W.widen (k := 0 + (2)) (n := 0 + (17)) (by omega) (by omega) ?_
        obtain ⟨hmi, e2, e4, e5, fr5, e6, e7, hge5, hcc5, hr9⟩ := hw
        rw [e2, e4, e5] at hP hD
        rw [e6, e7] at hmi
        have hP : va_P (dC, dI) y_cl (y_W ad ar I5 T A5 O3 pl) H := hP
        have hD : va_D Bq (y_W ad ar I5 T A5 O3 pl) := hD
        have hbn := hmi.2.1
        dsimp only at hbn
        obtain rfl := hr9
        have hfl : ∀ a, f0 a ≠ none → y_L pl a = f0 a := fun a ha => (hdx.1 a ha).1
        refine y_know (fun hy91 hy92 hy93 hy94 => ?_)
        have hac9 : y_rc s.heap.size (y_hs s.heap) aa cs5 1 H := ⟨by omega, by omega⟩
        refine W.widen (k := 3 * (72 - aa) + 2) (n := 100 * (72 - aa) + 80) (by omega) (by omega) ?_
        exact W.zret (v := 0) hx hb hr (rfl) (fun t ht hW => ⟨⟨0, (I5, T, A5, O3, pl, (ln, s5, 1, cs5)), rfl, ⟨hmi, rfl, hO3, ((m_fr.rf.tr fr3 (by decide)).tr fr5 (by decide)), by dsimp only; omega, Or.inl ⟨rfl, Nat.le_refl _, hfl⟩⟩, (by dsimp only; rw [ht]; exact ⟨hP, hD, hac9⟩)⟩, hS.F ht⟩) hS.2.2 d_Reader_process_27
      · rw [eat] at hmi
        refine W.eq (g2 := F0 m 16 ls [.ref p3]) rfl ?_
        have hbn := hmi.2.1
        dsimp only at hbn
        rcases y_11 hjj with rfl | rfl | rfl | rfl | rfl | rfl | rfl | rfl | rfl | rfl | rfl
        · have hfp3 : y_L pl3 p3 = some (.inr (7, [.ref (z (3 + 0)), .null, .null, .null, .null, .ref t3, .null, .ref (z 21), .int chB, .int vaB])) := hfp3
          have hpeB : y_L pl3 p3 ≠ none := by rw [hfp3]; exact nofun
          have hpf : y_L pl3 p3 = some (.inr (7, y_Pf z C3 Gs3 p3 (J3 p3) none none (some t3) (z 21) chB vaB)) := by rw [hfp3]; unfold y_Pf; rw [hg2, hg3, hg4]; rfl
          refine lv_astore (lv' := [(4, .ref p3), (0, .ref (ad 1)), (1, .null), (2, .int (Int32.ofNat dp)), (3, .int gv)]) hx hb d_Reader_process_16 hl (by decide) rfl (fun ls hl => ?_)
          refine lv_aload hx hb d_Reader_process_18 (lv_at hl 0 rfl) ?_
          refine lv_ifnonnull (tgt := 28) hx hb d_Reader_process_20 (by decide) ?_
          refine va_gets hx hb (hZ.2.2.1.narrow hAN) hS hown (hts _ k_484) (fun _ h9 => h9) d_Reader_process_28 ?_
          refine lv_aload hx hb d_Reader_process_31 (lv_at hl 0 rfl) ?_
          refine d_gN (C := "ChannelMachine$Process") (F := F_Process) (N := 10) hx hb hts i_Process hown hK hP hfp3 0 rfl (by decide) (hU.1.2.1 _ kn_392) (fun _ h9 => h9) (v := .ref (z (3 + 0))) rfl d_Reader_process_33 ?_
          have hFc := y_free hD hS hA
          refine va_calli (va_runU (As := []) (rest := [.ref (z 20)]) ⟨hx, hb, hml, hown, hts⟩ (c_E_ordinal0 l dC dI ar N0 z ad I3 T A3 O3 pl3 0 H.size (y_hs H) (by decide)) (va_cwU (owner := "java/lang/Enum") 0 hts (x_goodU k_486 k_487 k_489 k_490 k_15 k_491) rfl rfl rfl rfl (by decide +kernel) ⟨Nat.le_trans (m := 40) (Nat.le_of_ble_eq_true rfl) (Nat.le_add_left 40 _), Nat.le_trans (m := 1400) (Nat.le_of_ble_eq_true rfl) (Nat.le_add_left 1400 _)⟩) ⟨y_blind, va_recvE (E := "ChannelMachine$Kind") (ad := fun i => z (3 + i)) (hZ.2.1.narrow hAN) (show 0 < 11 from by decide) hS, fun U9 hU9 hW9 => y_pre hU9 hW9 hP hD hU hZ hS hAN hN0⟩ rfl rfl hl.1 rfl (lv_room (Nat.le_of_ble_eq_true rfl)) d_Reader_process_36 ⟨(by show 0 + (2) + (0) ≤ 3 * (72 - aa) + 2; omega), (by show 0 + (17) + (0) ≤ 100 * (72 - aa) + 80; omega)⟩) hS (fun q _ h => hFc q h) hFc (fun r_6 u t H1 locs ht hvm hw hB hz1 hk1 hS => ?_)
          obtain ⟨I7, T7, A7, O7, pl7, q7, s7, cq7, cs7⟩ := u
          dsimp only at hw hB
          rw [ht] at hB
          obtain ⟨hP, hD1, hac7⟩ := hB
          have hD : va_D Bq (y_W ad ar I7 T7 A7 O7 pl7) := hD1.weaken (fun _ q _ h => hFc q.1 h)
          generalize H1 = H at hP hS hac7 ⊢
          have hae7 := hac7
          try unfold y_ac at hae7
          try dsimp only at hae7
          refine W.widen (k := 0 + (2)) (n := 0 + (17)) (by omega) (by omega) ?_
          obtain ⟨h9, hw⟩ := hw
          cases h9
          subst hw
          refine va_ti (t := z 20) (N := 11) (f := y_sw) (v := .int 1) hx hb (hZ.2.2.2.1.narrow hAN) hS (by unfold vp_in; decide) rfl d_Reader_process_39 ?_
          refine lv_tableIn (tgt := 92) hx hb d_Reader_process_40 (by decide) (by decide) (off := 52) rfl (by decide) ?_
          refine lv_aload_n hx hb d_Reader_process_92 rfl (lv_at hl 1 rfl) ?_
          refine lv_bipush (v := 58) hx hb d_Reader_process_93 (by decide) ?_
          have hFc := y_free hD hS hA
          refine va_calli (va_runV (As := [.int 58]) (rest := []) ⟨hx, hb, hml, hown, hts⟩ (c_Rd_expect l dC dI ar N0 z ad I3 T A3 O3 pl3 ln s3 ln (aa + 1) (58) H.size (y_hs H) hmi (by decide)) (cwV 1 hts (x_goodV k_492 k_494 kp_7 k_2 k_495) rfl rfl rfl (by decide +kernel) ⟨Nat.le_trans (m := 40) (Nat.le_of_ble_eq_true rfl) (Nat.le_add_left 40 _), Nat.le_trans (m := 1400) (Nat.le_of_ble_eq_true rfl) (Nat.le_add_left 1400 _)⟩) ⟨y_blind, va_recv hK hP (ci := 3) (q0 := 1) rfl (y_W_ob (by decide) (by decide)), fun U9 hU9 hW9 => y_pre hU9 hW9 hP hD hU hZ hS hAN hN0⟩ rfl rfl hl.1 rfl (lv_room (Nat.le_of_ble_eq_true rfl)) d_Reader_process_95 ⟨(by show 0 + (2) + (0) ≤ 3 * (72 - aa) + 2; omega), (by show 0 + (17) + (0) ≤ 100 * (72 - aa) + 80; omega)⟩) hS (fun q _ h => hFc q h) hFc (fun r_8 u t H1 locs ht hvm hw hB hz1 hk1 hS => ?_)
          obtain ⟨I9, T9, A9, O9, pl9, q9, s9, cq9, cs9⟩ := u
          dsimp only at hw hB
          rw [ht] at hB
          obtain ⟨hP, hD1, hac9⟩ := hB
          have hD : va_D Bq (y_W ad ar I9 T9 A9 O9 pl9) := hD1.weaken (fun _ q _ h => hFc q.1 h)
          generalize H1 = H at hP hS hac9 ⊢
          have hae9 := hac9
          try unfold y_ac at hae9
          try dsimp only at hae9
          refine W.widen (k := 0 + (2)) (n := 0 + (17)) (by omega) (by omega) ?_
          obtain ⟨hmi, e2, e4, e5, fr9, e6, e7, hge9, hcc9, hr9⟩ := hw
          rw [e2, e4, e5] at hP hD
          rw [e6, e7] at hmi
          have hP : va_P (dC, dI) y_cl (y_W ad ar I9 T A9 O3 pl3) H := hP
          have hD : va_D Bq (y_W ad ar I9 T A9 O3 pl3) := hD
          have hbn := hmi.2.1
          dsimp only at hbn
          rcases hr9 with rfl | ⟨rfl, hex10⟩
          · refine lv_if_eq (tgt := 119) hx hb d_Reader_process_98 (by decide) (fun _ => ?_) (fun c11 => absurd (by decide) c11)
            refine lv_iconst (v := 0) hx hb d_Reader_process_119 (by decide) ?_
            have hfl : ∀ a, f0 a ≠ none → y_L pl3 a = f0 a := fun a ha => (hdxB.1 a ha).1
            refine y_know (fun hy91 hy92 hy93 hy94 => ?_)
            have hac9 : y_rc s.heap.size (y_hs s.heap) aa cs9 1 H := ⟨by omega, by omega⟩
            refine W.widen (k := 3 * (72 - aa) + 2) (n := 100 * (72 - aa) + 80) (by omega) (by omega) ?_
            exact W.zret (v := 0) hx hb hr (rfl) (fun t ht hW => ⟨⟨0, (I9, T, A9, O3, pl3, (ln, s9, 1, cs9)), rfl, ⟨hmi, rfl, hO3, ((m_fr.rf.tr fr3 (by decide)).tr fr9 (by decide)), by dsimp only; omega, Or.inl ⟨rfl, Nat.le_refl _, hfl⟩⟩, (by dsimp only; rw [ht]; exact ⟨hP, hD, hac9⟩)⟩, hS.F ht⟩) hS.2.2 d_Reader_process_120
          · refine lv_if_eq (tgt := 119) hx hb d_Reader_process_98 (by decide) (fun c12 => absurd c12 (by decide)) (fun _ => ?_)
            refine lv_aload_n hx hb d_Reader_process_101 rfl (lv_at hl 1 rfl) ?_
            refine lv_aload hx hb d_Reader_process_102 (lv_at hl 0 rfl) ?_
            refine lv_aload_n hx hb d_Reader_process_104 rfl (lv_at hl 1 rfl) ?_
            refine lv_iload_n hx hb d_Reader_process_105 rfl (lv_at hl 4 rfl) ?_
            have hFc := y_free hD hS hA
            refine va_calli (va_runV (As := [.int gv]) (rest := [.ref p3, .ref (ad 1)]) ⟨hx, hb, hml, hown, hts⟩ (c_Rd_endOfLast l dC dI ar N0 z ad I9 T A9 O3 pl3 ln s9 ln cs9 (gv) H.size (y_hs H) hmi rfl) (cwV 1 hts (x_goodV k_496 k_498 kp_8 k_2 k_499) rfl rfl rfl (by decide +kernel) ⟨Nat.le_trans (m := 40) (Nat.le_of_ble_eq_true rfl) (Nat.le_add_left 40 _), Nat.le_trans (m := 1400) (Nat.le_of_ble_eq_true rfl) (Nat.le_add_left 1400 _)⟩) ⟨y_blind, va_recv hK hP (ci := 3) (q0 := 1) rfl (y_W_ob (by decide) (by decide)), fun U9 hU9 hW9 => y_pre hU9 hW9 hP hD hU hZ hS hAN hN0⟩ rfl rfl hl.1 rfl (lv_room (Nat.le_of_ble_eq_true rfl)) d_Reader_process_106 ⟨(by show 0 + (2) + (0) ≤ 3 * (72 - aa) + 2; omega), (by show 0 + (17) + (0) ≤ 100 * (72 - aa) + 80; omega)⟩) hS (fun q _ h => hFc q h) hFc (fun r_13 u t H1 locs ht hvm hw hB hz1 hk1 hS => ?_)
            obtain ⟨I14, T14, A14, O14, pl14, q14, s14, cq14, cs14⟩ := u
            dsimp only at hw hB
            rw [ht] at hB
            obtain ⟨hP, hD1, hac14⟩ := hB
            have hD : va_D Bq (y_W ad ar I14 T14 A14 O14 pl14) := hD1.weaken (fun _ q _ h => hFc q.1 h)
            generalize H1 = H at hP hS hac14 ⊢
            have hae14 := hac14
            try unfold y_ac at hae14
            try dsimp only at hae14
            refine W.widen (k := 0 + (2)) (n := 0 + (17)) (by omega) (by omega) ?_
            obtain ⟨hmi, e2, e4, e5, fr14, e6, e7, e8, en14, hen1, hen2, rfl⟩ := hw
            rw [e2, e4, e5] at hP hD
            rw [e6, e7, e8] at hmi
            have hP : va_P (dC, dI) y_cl (y_W ad ar I14 T A14 O3 pl3) H := hP
            have hD : va_D Bq (y_W ad ar I14 T A14 O3 pl3) := hD
            have hbn := hmi.2.1
            dsimp only at hbn
            refine y_know (fun hya1 hya2 hya3 hya4 => ?_)
            have hFc := y_free hD hS hA
            refine va_calli (va_runV (As := [.ref p3, .int (Int32.ofNat en14)]) (rest := []) ⟨hx, hb, hml, hown, hts⟩ (c_Rd_lastExpression l dC dI ar N0 z ad I14 T A14 O3 pl3 ln s14 ln cs9 p3 en14 (.ref (z (3 + 0))) (.null) (.null) (.null) (.null) (.ref t3) (.null) (.ref (z 21)) (.int chB) (.int vaB) H.size (y_hs H) hmi hfp3 ⟨by omega, by omega⟩) (cwV 2 hts (x_goodV k_522 k_524 kp_13 k_2 k_525) rfl rfl rfl (by decide +kernel) ⟨Nat.le_trans (m := 40) (Nat.le_of_ble_eq_true rfl) (Nat.le_add_left 40 _), Nat.le_trans (m := 1400) (Nat.le_of_ble_eq_true rfl) (Nat.le_add_left 1400 _)⟩) ⟨y_blind, va_recv hK hP (ci := 3) (q0 := 1) rfl (y_W_ob (by decide) (by decide)), fun U9 hU9 hW9 => y_pre hU9 hW9 hP hD hU hZ hS hAN hN0⟩ rfl rfl hl.1 rfl (lv_room (Nat.le_of_ble_eq_true rfl)) d_Reader_process_109 ⟨(by show 0 + (2) + (1) ≤ 3 * (72 - aa) + 2; omega), (by show 0 + (17) + (72) ≤ 100 * (72 - aa) + 80; omega)⟩) hS (fun q _ h => hFc q h) hFc (fun r_15 u t H1 locs ht hvm hw hB hz1 hk1 hS => ?_)
            obtain ⟨I16, T16, A16, O16, pl16, q16, s16, cq16, cs16⟩ := u
            dsimp only at hw hB
            rw [ht] at hB
            obtain ⟨hP, hD1, hac16⟩ := hB
            have hD : va_D Bq (y_W ad ar I16 T16 A16 O16 pl16) := hD1.weaken (fun _ q _ h => hFc q.1 h)
            generalize H1 = H at hP hS hac16 ⊢
            have hae16 := hac16
            try unfold y_ac at hae16
            try dsimp only at hae16
            obtain ⟨hmi, e2, e4, fr16, e6, e7, hge16, hr9, q16_, nq, hq9, hzq, hnq, hokq, hqq, hfp3, hoq⟩ := hw
            rw [e2, e4] at hP hD
            rw [e6, e7] at hmi
            have hP : va_P (dC, dI) y_cl (y_W ad ar I16 T A16 O3 pl16) H := hP
            have hD : va_D Bq (y_W ad ar I16 T A16 O3 pl16) := hD
            have hbn := hmi.2.1
            dsimp only at hbn
            rcases hr9 with rfl | rfl
            · refine lv_if_eq (tgt := 119) hx hb d_Reader_process_112 (by decide) (fun _ => ?_) (fun c17 => absurd (by decide) c17)
              refine lv_iconst (v := 0) hx hb d_Reader_process_119 (by decide) ?_
              have hfl : ∀ a, f0 a ≠ none → y_L pl16 a = f0 a := (hdxB.keep1 hg1 (fun b hb h2 => hoq b (fun e => hb (by rw [e]; exact hzq)) h2))
              refine y_know (fun hy91 hy92 hy93 hy94 => ?_)
              have hac9 : y_rc s.heap.size (y_hs s.heap) aa cs16 1 H := ⟨by omega, by omega⟩
              refine W.widen (k := 3 * (72 - aa) + 2) (n := 100 * (72 - aa) + 80) (by omega) (by omega) ?_
              exact W.zret (v := 0) hx hb hr (rfl) (fun t ht hW => ⟨⟨0, (I16, T, A16, O3, pl16, (ln, s16, 1, cs16)), rfl, ⟨hmi, rfl, hO3, ((((m_fr.rf.tr fr3 (by decide)).tr fr9 (by decide)).tr fr14 (by decide)).tr fr16 (by decide)), by dsimp only; omega, Or.inl ⟨rfl, Nat.le_refl _, hfl⟩⟩, (by dsimp only; rw [ht]; exact ⟨hP, hD, hac9⟩)⟩, hS.F ht⟩) hS.2.2 d_Reader_process_120
            · obtain ⟨hd16, hph16⟩ := y_DX.code (f' := y_L pl16) (s' := 0) (q := q16_) hdxB hg1 hpf hzq hnq hokq hqq (by rw [hfp3]; unfold y_Pf; rw [hg2, hg3, hg4]; rfl) hoq (fun _ => ⟨fun h9 => hchB (by rw [hg2] at h9; exact h9), fun h9 => by rw [hg2] at h9; omega⟩)
              have hph := hph16
              refine lv_if_eq (tgt := 119) hx hb d_Reader_process_112 (by decide) (fun c18 => absurd c18 (by decide)) (fun _ => ?_)
              refine lv_iconst (v := 1) hx hb d_Reader_process_115 (by decide) ?_
              refine lv_goto (tgt := 120) hx hb d_Reader_process_116 (by decide) ?_
              refine y_know (fun hy91 hy92 hy93 hy94 => ?_)
              have hac9 : y_rc s.heap.size (y_hs s.heap) aa cs16 0 H := ⟨by omega, by omega⟩
              refine W.widen (k := 3 * (72 - aa) + 2) (n := 100 * (72 - aa) + 80) (by omega) (by omega) ?_
              exact W.zret (v := 1) hx hb hr (rfl) (fun t ht hW => ⟨⟨1, (I16, T, A16, O3, pl16, (ln, s16, 0, cs16)), rfl, ⟨hmi, rfl, hO3, ((((m_fr.rf.tr fr3 (by decide)).tr fr9 (by decide)).tr fr14 (by decide)).tr fr16 (by decide)), by dsimp only; omega, Or.inr ⟨rfl, rfl, p3, y_SU.mk hzp3 hfx hcx hg1 hg6 hd16 hph y_un_s, hpr⟩⟩, (by dsimp only; rw [ht]; exact ⟨hP, hD, hac9⟩)⟩, hS.F ht⟩) hS.2.2 d_Reader_process_120
        · have hfp3 : y_L pl3 p3 = some (.inr (7, [.ref (z (3 + 1)), .null, .null, .null, .null, .ref t3, .null, .ref (z 21), .int chB, .int vaB])) := hfp3
          have hpeB : y_L pl3 p3 ≠ none := by rw [hfp3]; exact nofun
          have hpf : y_L pl3 p3 = some (.inr (7, y_Pf z C3 Gs3 p3 (J3 p3) none none (some t3) (z 21) chB vaB)) := by rw [hfp3]; unfold y_Pf; rw [hg2, hg3, hg4]; rfl
          refine lv_astore (lv' := [(4, .ref p3), (0, .ref (ad 1)), (1, .null), (2, .int (Int32.ofNat dp)), (3, .int gv)]) hx hb d_Reader_process_16 hl (by decide) rfl (fun ls hl => ?_)
          refine lv_aload hx hb d_Reader_process_18 (lv_at hl 0 rfl) ?_
          refine lv_ifnonnull (tgt := 28) hx hb d_Reader_process_20 (by decide) ?_
          refine va_gets hx hb (hZ.2.2.1.narrow hAN) hS hown (hts _ k_484) (fun _ h9 => h9) d_Reader_process_28 ?_
          refine lv_aload hx hb d_Reader_process_31 (lv_at hl 0 rfl) ?_
          refine d_gN (C := "ChannelMachine$Process") (F := F_Process) (N := 10) hx hb hts i_Process hown hK hP hfp3 0 rfl (by decide) (hU.1.2.1 _ kn_392) (fun _ h9 => h9) (v := .ref (z (3 + 1))) rfl d_Reader_process_33 ?_
          have hFc := y_free hD hS hA
          refine va_calli (va_runU (As := []) (rest := [.ref (z 20)]) ⟨hx, hb, hml, hown, hts⟩ (c_E_ordinal0 l dC dI ar N0 z ad I3 T A3 O3 pl3 1 H.size (y_hs H) (by decide)) (va_cwU (owner := "java/lang/Enum") 0 hts (x_goodU k_486 k_487 k_489 k_490 k_15 k_491) rfl rfl rfl rfl (by decide +kernel) ⟨Nat.le_trans (m := 40) (Nat.le_of_ble_eq_true rfl) (Nat.le_add_left 40 _), Nat.le_trans (m := 1400) (Nat.le_of_ble_eq_true rfl) (Nat.le_add_left 1400 _)⟩) ⟨y_blind, va_recvE (E := "ChannelMachine$Kind") (ad := fun i => z (3 + i)) (hZ.2.1.narrow hAN) (show 1 < 11 from by decide) hS, fun U9 hU9 hW9 => y_pre hU9 hW9 hP hD hU hZ hS hAN hN0⟩ rfl rfl hl.1 rfl (lv_room (Nat.le_of_ble_eq_true rfl)) d_Reader_process_36 ⟨(by show 0 + (2) + (0) ≤ 3 * (72 - aa) + 2; omega), (by show 0 + (17) + (0) ≤ 100 * (72 - aa) + 80; omega)⟩) hS (fun q _ h => hFc q h) hFc (fun r_19 u t H1 locs ht hvm hw hB hz1 hk1 hS => ?_)
          obtain ⟨I20, T20, A20, O20, pl20, q20, s20, cq20, cs20⟩ := u
          dsimp only at hw hB
          rw [ht] at hB
          obtain ⟨hP, hD1, hac20⟩ := hB
          have hD : va_D Bq (y_W ad ar I20 T20 A20 O20 pl20) := hD1.weaken (fun _ q _ h => hFc q.1 h)
          generalize H1 = H at hP hS hac20 ⊢
          have hae20 := hac20
          try unfold y_ac at hae20
          try dsimp only at hae20
          refine W.widen (k := 0 + (2)) (n := 0 + (17)) (by omega) (by omega) ?_
          obtain ⟨h9, hw⟩ := hw
          cases h9
          subst hw
          refine va_ti (t := z 20) (N := 11) (f := y_sw) (v := .int 2) hx hb (hZ.2.2.2.1.narrow hAN) hS (by unfold vp_in; decide) rfl d_Reader_process_39 ?_
          refine lv_tableIn (tgt := 121) hx hb d_Reader_process_40 (by decide) (by decide) (off := 81) rfl (by decide) ?_
          refine lv_aload_n hx hb d_Reader_process_121 rfl (lv_at hl 1 rfl) ?_
          refine lv_bipush (v := 33) hx hb d_Reader_process_122 (by decide) ?_
          have hFc := y_free hD hS hA
          refine va_calli (va_runV (As := [.int 33]) (rest := []) ⟨hx, hb, hml, hown, hts⟩ (c_Rd_expect l dC dI ar N0 z ad I3 T A3 O3 pl3 ln s3 ln (aa + 1) (33) H.size (y_hs H) hmi (by decide)) (cwV 1 hts (x_goodV k_492 k_494 kp_7 k_2 k_495) rfl rfl rfl (by decide +kernel) ⟨Nat.le_trans (m := 40) (Nat.le_of_ble_eq_true rfl) (Nat.le_add_left 40 _), Nat.le_trans (m := 1400) (Nat.le_of_ble_eq_true rfl) (Nat.le_add_left 1400 _)⟩) ⟨y_blind, va_recv hK hP (ci := 3) (q0 := 1) rfl (y_W_ob (by decide) (by decide)), fun U9 hU9 hW9 => y_pre hU9 hW9 hP hD hU hZ hS hAN hN0⟩ rfl rfl hl.1 rfl (lv_room (Nat.le_of_ble_eq_true rfl)) d_Reader_process_124 ⟨(by show 0 + (2) + (0) ≤ 3 * (72 - aa) + 2; omega), (by show 0 + (17) + (0) ≤ 100 * (72 - aa) + 80; omega)⟩) hS (fun q _ h => hFc q h) hFc (fun r_21 u t H1 locs ht hvm hw hB hz1 hk1 hS => ?_)
          obtain ⟨I22, T22, A22, O22, pl22, q22, s22, cq22, cs22⟩ := u
          dsimp only at hw hB
          rw [ht] at hB
          obtain ⟨hP, hD1, hac22⟩ := hB
          have hD : va_D Bq (y_W ad ar I22 T22 A22 O22 pl22) := hD1.weaken (fun _ q _ h => hFc q.1 h)
          generalize H1 = H at hP hS hac22 ⊢
          have hae22 := hac22
          try unfold y_ac at hae22
          try dsimp only at hae22
          refine W.widen (k := 0 + (2)) (n := 0 + (17)) (by omega) (by omega) ?_
          obtain ⟨hmi, e2, e4, e5, fr22, e6, e7, hge22, hcc22, hr9⟩ := hw
          rw [e2, e4, e5] at hP hD
          rw [e6, e7] at hmi
          have hP : va_P (dC, dI) y_cl (y_W ad ar I22 T A22 O3 pl3) H := hP
          have hD : va_D Bq (y_W ad ar I22 T A22 O3 pl3) := hD
          have hbn := hmi.2.1
          dsimp only at hbn
          rcases hr9 with rfl | ⟨rfl, hex23⟩
          · refine lv_if_eq (tgt := 148) hx hb d_Reader_process_127 (by decide) (fun _ => ?_) (fun c24 => absurd (by decide) c24)
            refine lv_iconst (v := 0) hx hb d_Reader_process_148 (by decide) ?_
            have hfl : ∀ a, f0 a ≠ none → y_L pl3 a = f0 a := fun a ha => (hdxB.1 a ha).1
            refine y_know (fun hy91 hy92 hy93 hy94 => ?_)
            have hac9 : y_rc s.heap.size (y_hs s.heap) aa cs22 1 H := ⟨by omega, by omega⟩
            refine W.widen (k := 3 * (72 - aa) + 2) (n := 100 * (72 - aa) + 80) (by omega) (by omega) ?_
            exact W.zret (v := 0) hx hb hr (rfl) (fun t ht hW => ⟨⟨0, (I22, T, A22, O3, pl3, (ln, s22, 1, cs22)), rfl, ⟨hmi, rfl, hO3, ((m_fr.rf.tr fr3 (by decide)).tr fr22 (by decide)), by dsimp only; omega, Or.inl ⟨rfl, Nat.le_refl _, hfl⟩⟩, (by dsimp only; rw [ht]; exact ⟨hP, hD, hac9⟩)⟩, hS.F ht⟩) hS.2.2 d_Reader_process_149
          · refine lv_if_eq (tgt := 148) hx hb d_Reader_process_127 (by decide) (fun c25 => absurd c25 (by decide)) (fun _ => ?_)
            refine lv_aload_n hx hb d_Reader_process_130 rfl (lv_at hl 1 rfl) ?_
            refine lv_aload hx hb d_Reader_process_131 (lv_at hl 0 rfl) ?_
            refine lv_aload_n hx hb d_Reader_process_133 rfl (lv_at hl 1 rfl) ?_
            refine lv_iload_n hx hb d_Reader_process_134 rfl (lv_at hl 4 rfl) ?_
            have hFc := y_free hD hS hA
            refine va_calli (va_runV (As := [.int gv]) (rest := [.ref p3, .ref (ad 1)]) ⟨hx, hb, hml, hown, hts⟩ (c_Rd_endOfLast l dC dI ar N0 z ad I22 T A22 O3 pl3 ln s22 ln cs22 (gv) H.size (y_hs H) hmi rfl) (cwV 1 hts (x_goodV k_496 k_498 kp_8 k_2 k_499) rfl rfl rfl (by decide +kernel) ⟨Nat.le_trans (m := 40) (Nat.le_of_ble_eq_true rfl) (Nat.le_add_left 40 _), Nat.le_trans (m := 1400) (Nat.le_of_ble_eq_true rfl) (Nat.le_add_left 1400 _)⟩) ⟨y_blind, va_recv hK hP (ci := 3) (q0 := 1) rfl (y_W_ob (by decide) (by decide)), fun U9 hU9 hW9 => y_pre hU9 hW9 hP hD hU hZ hS hAN hN0⟩ rfl rfl hl.1 rfl (lv_room (Nat.le_of_ble_eq_true rfl)) d_Reader_process_135 ⟨(by show 0 + (2) + (0) ≤ 3 * (72 - aa) + 2; omega), (by show 0 + (17) + (0) ≤ 100 * (72 - aa) + 80; omega)⟩) hS (fun q _ h => hFc q h) hFc (fun r_26 u t H1 locs ht hvm hw hB hz1 hk1 hS => ?_)
            obtain ⟨I27, T27, A27, O27, pl27, q27, s27, cq27, cs27⟩ := u
            dsimp only at hw hB
            rw [ht] at hB
            obtain ⟨hP, hD1, hac27⟩ := hB
            have hD : va_D Bq (y_W ad ar I27 T27 A27 O27 pl27) := hD1.weaken (fun _ q _ h => hFc q.1 h)
            generalize H1 = H at hP hS hac27 ⊢
            have hae27 := hac27
            try unfold y_ac at hae27
            try dsimp only at hae27
            refine W.widen (k := 0 + (2)) (n := 0 + (17)) (by omega) (by omega) ?_
            obtain ⟨hmi, e2, e4, e5, fr27, e6, e7, e8, en27, hen1, hen2, rfl⟩ := hw
            rw [e2, e4, e5] at hP hD
            rw [e6, e7, e8] at hmi
            have hP : va_P (dC, dI) y_cl (y_W ad ar I27 T A27 O3 pl3) H := hP
            have hD : va_D Bq (y_W ad ar I27 T A27 O3 pl3) := hD
            have hbn := hmi.2.1
            dsimp only at hbn
            refine y_know (fun hya1 hya2 hya3 hya4 => ?_)
            have hFc := y_free hD hS hA
            refine va_calli (va_runV (As := [.ref p3, .int (Int32.ofNat en27)]) (rest := []) ⟨hx, hb, hml, hown, hts⟩ (c_Rd_lastExpression l dC dI ar N0 z ad I27 T A27 O3 pl3 ln s27 ln cs22 p3 en27 (.ref (z (3 + 1))) (.null) (.null) (.null) (.null) (.ref t3) (.null) (.ref (z 21)) (.int chB) (.int vaB) H.size (y_hs H) hmi hfp3 ⟨by omega, by omega⟩) (cwV 2 hts (x_goodV k_522 k_524 kp_13 k_2 k_525) rfl rfl rfl (by decide +kernel) ⟨Nat.le_trans (m := 40) (Nat.le_of_ble_eq_true rfl) (Nat.le_add_left 40 _), Nat.le_trans (m := 1400) (Nat.le_of_ble_eq_true rfl) (Nat.le_add_left 1400 _)⟩) ⟨y_blind, va_recv hK hP (ci := 3) (q0 := 1) rfl (y_W_ob (by decide) (by decide)), fun U9 hU9 hW9 => y_pre hU9 hW9 hP hD hU hZ hS hAN hN0⟩ rfl rfl hl.1 rfl (lv_room (Nat.le_of_ble_eq_true rfl)) d_Reader_process_138 ⟨(by show 0 + (2) + (1) ≤ 3 * (72 - aa) + 2; omega), (by show 0 + (17) + (72) ≤ 100 * (72 - aa) + 80; omega)⟩) hS (fun q _ h => hFc q h) hFc (fun r_28 u t H1 locs ht hvm hw hB hz1 hk1 hS => ?_)
            obtain ⟨I29, T29, A29, O29, pl29, q29, s29, cq29, cs29⟩ := u
            dsimp only at hw hB
            rw [ht] at hB
            obtain ⟨hP, hD1, hac29⟩ := hB
            have hD : va_D Bq (y_W ad ar I29 T29 A29 O29 pl29) := hD1.weaken (fun _ q _ h => hFc q.1 h)
            generalize H1 = H at hP hS hac29 ⊢
            have hae29 := hac29
            try unfold y_ac at hae29
            try dsimp only at hae29
            obtain ⟨hmi, e2, e4, fr29, e6, e7, hge29, hr9, q29_, nq, hq9, hzq, hnq, hokq, hqq, hfp3, hoq⟩ := hw
            rw [e2, e4] at hP hD
            rw [e6, e7] at hmi
            have hP : va_P (dC, dI) y_cl (y_W ad ar I29 T A29 O3 pl29) H := hP
            have hD : va_D Bq (y_W ad ar I29 T A29 O3 pl29) := hD
            have hbn := hmi.2.1
            dsimp only at hbn
            rcases hr9 with rfl | rfl
            · refine lv_if_eq (tgt := 148) hx hb d_Reader_process_141 (by decide) (fun _ => ?_) (fun c30 => absurd (by decide) c30)
              refine lv_iconst (v := 0) hx hb d_Reader_process_148 (by decide) ?_
              have hfl : ∀ a, f0 a ≠ none → y_L pl29 a = f0 a := (hdxB.keep1 hg1 (fun b hb h2 => hoq b (fun e => hb (by rw [e]; exact hzq)) h2))
              refine y_know (fun hy91 hy92 hy93 hy94 => ?_)
              have hac9 : y_rc s.heap.size (y_hs s.heap) aa cs29 1 H := ⟨by omega, by omega⟩
              refine W.widen (k := 3 * (72 - aa) + 2) (n := 100 * (72 - aa) + 80) (by omega) (by omega) ?_
              exact W.zret (v := 0) hx hb hr (rfl) (fun t ht hW => ⟨⟨0, (I29, T, A29, O3, pl29, (ln, s29, 1, cs29)), rfl, ⟨hmi, rfl, hO3, ((((m_fr.rf.tr fr3 (by decide)).tr fr22 (by decide)).tr fr27 (by decide)).tr fr29 (by decide)), by dsimp only; omega, Or.inl ⟨rfl, Nat.le_refl _, hfl⟩⟩, (by dsimp only; rw [ht]; exact ⟨hP, hD, hac9⟩)⟩, hS.F ht⟩) hS.2.2 d_Reader_process_149
            · obtain ⟨hd29, hph29⟩ := y_DX.code (f' := y_L pl29) (s' := 0) (q := q29_) hdxB hg1 hpf hzq hnq hokq hqq (by rw [hfp3]; unfold y_Pf; rw [hg2, hg3, hg4]; rfl) hoq (fun _ => ⟨fun h9 => hchB (by rw [hg2] at h9; exact h9), fun h9 => by rw [hg2] at h9; omega⟩)
              have hph := hph29
              refine lv_if_eq (tgt := 148) hx hb d_Reader_process_141 (by decide) (fun c31 => absurd c31 (by decide)) (fun _ => ?_)
              refine lv_iconst (v := 1) hx hb d_Reader_process_144 (by decide) ?_
              refine lv_goto (tgt := 149) hx hb d_Reader_process_145 (by decide) ?_
              refine y_know (fun hy91 hy92 hy93 hy94 => ?_)
              have hac9 : y_rc s.heap.size (y_hs s.heap) aa cs29 0 H := ⟨by omega, by omega⟩
              refine W.widen (k := 3 * (72 - aa) + 2) (n := 100 * (72 - aa) + 80) (by omega) (by omega) ?_
              exact W.zret (v := 1) hx hb hr (rfl) (fun t ht hW => ⟨⟨1, (I29, T, A29, O3, pl29, (ln, s29, 0, cs29)), rfl, ⟨hmi, rfl, hO3, ((((m_fr.rf.tr fr3 (by decide)).tr fr22 (by decide)).tr fr27 (by decide)).tr fr29 (by decide)), by dsimp only; omega, Or.inr ⟨rfl, rfl, p3, y_SU.mk hzp3 hfx hcx hg1 hg6 hd29 hph y_un_s, hpr⟩⟩, (by dsimp only; rw [ht]; exact ⟨hP, hD, hac9⟩)⟩, hS.F ht⟩) hS.2.2 d_Reader_process_149
        · have hfp3 : y_L pl3 p3 = some (.inr (7, [.ref (z (3 + 2)), .null, .null, .null, .null, .ref t3, .null, .ref (z 21), .int chB, .int vaB])) := hfp3
          have hpeB : y_L pl3 p3 ≠ none := by rw [hfp3]; exact nofun
          have hpf : y_L pl3 p3 = some (.inr (7, y_Pf z C3 Gs3 p3 (J3 p3) none none (some t3) (z 21) chB vaB)) := by rw [hfp3]; unfold y_Pf; rw [hg2, hg3, hg4]; rfl
          refine lv_astore (lv' := [(4, .ref p3), (0, .ref (ad 1)), (1, .null), (2, .int (Int32.ofNat dp)), (3, .int gv)]) hx hb d_Reader_process_16 hl (by decide) rfl (fun ls hl => ?_)
          refine lv_aload hx hb d_Reader_process_18 (lv_at hl 0 rfl) ?_
          refine lv_ifnonnull (tgt := 28) hx hb d_Reader_process_20 (by decide) ?_
          refine va_gets hx hb (hZ.2.2.1.narrow hAN) hS hown (hts _ k_484) (fun _ h9 => h9) d_Reader_process_28 ?_
          refine lv_aload hx hb d_Reader_process_31 (lv_at hl 0 rfl) ?_
          refine d_gN (C := "ChannelMachine$Process") (F := F_Process) (N := 10) hx hb hts i_Process hown hK hP hfp3 0 rfl (by decide) (hU.1.2.1 _ kn_392) (fun _ h9 => h9) (v := .ref (z (3 + 2))) rfl d_Reader_process_33 ?_
          have hFc := y_free hD hS hA
          refine va_calli (va_runU (As := []) (rest := [.ref (z 20)]) ⟨hx, hb, hml, hown, hts⟩ (c_E_ordinal0 l dC dI ar N0 z ad I3 T A3 O3 pl3 2 H.size (y_hs H) (by decide)) (va_cwU (owner := "java/lang/Enum") 0 hts (x_goodU k_486 k_487 k_489 k_490 k_15 k_491) rfl rfl rfl rfl (by decide +kernel) ⟨Nat.le_trans (m := 40) (Nat.le_of_ble_eq_true rfl) (Nat.le_add_left 40 _), Nat.le_trans (m := 1400) (Nat.le_of_ble_eq_true rfl) (Nat.le_add_left 1400 _)⟩) ⟨y_blind, va_recvE (E := "ChannelMachine$Kind") (ad := fun i => z (3 + i)) (hZ.2.1.narrow hAN) (show 2 < 11 from by decide) hS, fun U9 hU9 hW9 => y_pre hU9 hW9 hP hD hU hZ hS hAN hN0⟩ rfl rfl hl.1 rfl (lv_room (Nat.le_of_ble_eq_true rfl)) d_Reader_process_36 ⟨(by show 0 + (2) + (0) ≤ 3 * (72 - aa) + 2; omega), (by show 0 + (17) + (0) ≤ 100 * (72 - aa) + 80; omega)⟩) hS (fun q _ h => hFc q h) hFc (fun r_32 u t H1 locs ht hvm hw hB hz1 hk1 hS => ?_)
          obtain ⟨I33, T33, A33, O33, pl33, q33, s33, cq33, cs33⟩ := u
          dsimp only at hw hB
          rw [ht] at hB
          obtain ⟨hP, hD1, hac33⟩ := hB
          have hD : va_D Bq (y_W ad ar I33 T33 A33 O33 pl33) := hD1.weaken (fun _ q _ h => hFc q.1 h)
          generalize H1 = H at hP hS hac33 ⊢
          have hae33 := hac33
          try unfold y_ac at hae33
          try dsimp only at hae33
          refine W.widen (k := 0 + (2)) (n := 0 + (17)) (by omega) (by omega) ?_
          obtain ⟨h9, hw⟩ := hw
          cases h9
          subst hw
          refine va_ti (t := z 20) (N := 11) (f := y_sw) (v := .int 4) hx hb (hZ.2.2.2.1.narrow hAN) hS (by unfold vp_in; decide) rfl d_Reader_process_39 ?_
          refine lv_tableIn (tgt := 162) hx hb d_Reader_process_40 (by decide) (by decide) (off := 122) rfl (by decide) ?_
          refine lv_aload hx hb d_Reader_process_162 (lv_at hl 0 rfl) ?_
          refine lv_aload_n hx hb d_Reader_process_164 rfl (lv_at hl 1 rfl) ?_
          have hFc := y_free hD hS hA
          refine va_calli (va_runV (As := []) (rest := [.ref p3]) ⟨hx, hb, hml, hown, hts⟩ (c_Rd_inputVariable l dC dI ar N0 z ad I3 T A3 O3 pl3 ln s3 ln (aa + 1) H.size (y_hs H) hmi) (cwV 0 hts (x_goodV k_546 k_548 kp_15 k_2 k_549) rfl rfl rfl (by decide +kernel) ⟨Nat.le_trans (m := 40) (Nat.le_of_ble_eq_true rfl) (Nat.le_add_left 40 _), Nat.le_trans (m := 1400) (Nat.le_of_ble_eq_true rfl) (Nat.le_add_left 1400 _)⟩) ⟨y_blind, va_recv hK hP (ci := 3) (q0 := 1) rfl (y_W_ob (by decide) (by decide)), fun U9 hU9 hW9 => y_pre hU9 hW9 hP hD hU hZ hS hAN hN0⟩ rfl rfl hl.1 rfl (lv_room (Nat.le_of_ble_eq_true rfl)) d_Reader_process_165 ⟨(by show 0 + (2) + (0) ≤ 3 * (72 - aa) + 2; omega), (by show 0 + (17) + (0) ≤ 100 * (72 - aa) + 80; omega)⟩) hS (fun q _ h => hFc q h) hFc (fun r_34 u t H1 locs ht hvm hw hB hz1 hk1 hS => ?_)
          obtain ⟨I35, T35, A35, O35, pl35, q35, s35, cq35, cs35⟩ := u
          dsimp only at hw hB
          rw [ht] at hB
          obtain ⟨hP, hD1, hac35⟩ := hB
          have hD : va_D Bq (y_W ad ar I35 T35 A35 O35 pl35) := hD1.weaken (fun _ q _ h => hFc q.1 h)
          generalize H1 = H at hP hS hac35 ⊢
          have hae35 := hac35
          try unfold y_ac at hae35
          try dsimp only at hae35
          refine W.widen (k := 0 + (2)) (n := 0 + (17)) (by omega) (by omega) ?_
          obtain ⟨hmi, e2, e4, e5, fr35, e6, e7, hge35, hcc35⟩ := hw
          rw [e2, e4, e5] at hP hD
          rw [e6, e7] at hmi
          have hP : va_P (dC, dI) y_cl (y_W ad ar I35 T A35 O3 pl3) H := hP
          have hD : va_D Bq (y_W ad ar I35 T A35 O3 pl3) := hD
          have hbn := hmi.2.1
          dsimp only at hbn
          refine d_pN (C := "ChannelMachine$Process") (F := F_Process) (N := 10) hx hb hts i_Process hown t_Process t_Process_ok n_Process hK hP hD hS hfp3 9 rfl (by decide) (hU.1.2.1 _ kn_421) (fun _ h9 => h9) rfl (ty := .int) (v := .int r_34) (by decide +kernel) rfl rfl (Nat.le_of_ble_eq_true rfl) d_Reader_process_168 (fun pl36 H locs hL hP hD hS => ?_)
          have hfp3 : y_L pl36 p3 = some (.inr (7, [.ref (z (3 + 2)), .null, .null, .null, .null, .ref t3, .null, .ref (z 21), .int chB, .int r_34])) := by rw [hL]; exact y_Lu_s
          have hoth : ∀ b, b ≠ p3 → y_L pl36 b = y_L pl3 b := fun b n0 => by rw [hL, y_Lu_n n0]
          clear hL
          refine lv_aload hx hb d_Reader_process_171 (lv_at hl 0 rfl) ?_
          refine d_gN (C := "ChannelMachine$Process") (F := F_Process) (N := 10) hx hb hts i_Process hown hK hP hfp3 9 rfl (by decide) (hU.1.2.1 _ kn_421) (fun _ h9 => h9) (v := .int r_34) rfl d_Reader_process_173 ?_
          refine lv_iconst (v := (-1)) hx hb d_Reader_process_176 (by decide) ?_
          refine lv_icmp_eq (tgt := 184) hx hb d_Reader_process_177 (by decide) (fun c37 => ?_) (fun c37 => ?_)
          · refine lv_iconst (v := 0) hx hb d_Reader_process_184 (by decide) ?_
            have hfl : ∀ a, f0 a ≠ none → y_L pl36 a = f0 a := fun a ha => by
              obtain ⟨h1, h2⟩ := hdxB.1 a ha
              rw [hoth a (fun e => by rw [e, hg1] at h2; omega), h1]
            refine y_know (fun hy91 hy92 hy93 hy94 => ?_)
            have hac9 : y_rc s.heap.size (y_hs s.heap) aa cs35 1 H := ⟨by omega, by omega⟩
            refine W.widen (k := 3 * (72 - aa) + 2) (n := 100 * (72 - aa) + 80) (by omega) (by omega) ?_
            exact W.zret (v := 0) hx hb hr (rfl) (fun t ht hW => ⟨⟨0, (I35, T, A35, O3, pl36, (ln, s35, 1, cs35)), rfl, ⟨hmi, rfl, hO3, ((m_fr.rf.tr fr3 (by decide)).tr fr35 (by decide)), by dsimp only; omega, Or.inl ⟨rfl, Nat.le_refl _, hfl⟩⟩, (by dsimp only; rw [ht]; exact ⟨hP, hD, hac9⟩)⟩, hS.F ht⟩) hS.2.2 d_Reader_process_185
          · refine lv_iconst (v := 1) hx hb d_Reader_process_180 (by decide) ?_
            refine lv_goto (tgt := 185) hx hb d_Reader_process_181 (by decide) ?_
            have hd9 := hdxB.put (s' := 0) (co' := z 21) (ch' := chB) (va' := r_34) hg1 hpf (fun _ h9 => by rw [hg2] at h9; omega) (fun _ => ⟨fun h9 => hchB (by rw [hg2] at h9; exact h9), fun h9 => by rw [hg2] at h9; omega⟩)
            have hph9 := y_PH.put (s' := 0) (e := (.inr (7, y_Pf z C3 Gs3 p3 (J3 p3) none none (some t3) (z 21) chB r_34))) hdxB hg1
            have hL9 : y_L pl36 = y_Lu (y_L pl3) p3 (.inr (7, y_Pf z C3 Gs3 p3 (J3 p3) none none (some t3) (z 21) chB r_34)) := y_Lu_eq (by rw [hfp3]; unfold y_Pf; rw [hg2, hg3, hg4]; rfl) (fun b hb => hoth b hb)
            rw [← hL9] at hd9 hph9
            refine y_know (fun hy91 hy92 hy93 hy94 => ?_)
            have hac9 : y_rc s.heap.size (y_hs s.heap) aa cs35 0 H := ⟨by omega, by omega⟩
            refine W.widen (k := 3 * (72 - aa) + 2) (n := 100 * (72 - aa) + 80) (by omega) (by omega) ?_
            exact W.zret (v := 1) hx hb hr (rfl) (fun t ht hW => ⟨⟨1, (I35, T, A35, O3, pl36, (ln, s35, 0, cs35)), rfl, ⟨hmi, rfl, hO3, ((m_fr.rf.tr fr3 (by decide)).tr fr35 (by decide)), by dsimp only; omega, Or.inr ⟨rfl, rfl, p3, y_SU.mk hzp3 hfx hcx hg1 hg6 hd9 hph9 y_un_s, hpr⟩⟩, (by dsimp only; rw [ht]; exact ⟨hP, hD, hac9⟩)⟩, hS.F ht⟩) hS.2.2 d_Reader_process_185
        · have hfp3 : y_L pl3 p3 = some (.inr (7, [.ref (z (3 + 3)), .null, .null, .null, .null, .ref t3, .null, .ref (z 21), .int chB, .int vaB])) := hfp3
          have hpeB : y_L pl3 p3 ≠ none := by rw [hfp3]; exact nofun
          have hpf : y_L pl3 p3 = some (.inr (7, y_Pf z C3 Gs3 p3 (J3 p3) none none (some t3) (z 21) chB vaB)) := by rw [hfp3]; unfold y_Pf; rw [hg2, hg3, hg4]; rfl
          refine lv_astore (lv' := [(4, .ref p3), (0, .ref (ad 1)), (1, .null), (2, .int (Int32.ofNat dp)), (3, .int gv)]) hx hb d_Reader_process_16 hl (by decide) rfl (fun ls hl => ?_)
          refine lv_aload hx hb d_Reader_process_18 (lv_at hl 0 rfl) ?_
          refine lv_ifnonnull (tgt := 28) hx hb d_Reader_process_20 (by decide) ?_
          refine va_gets hx hb (hZ.2.2.1.narrow hAN) hS hown (hts _ k_484) (fun _ h9 => h9) d_Reader_process_28 ?_
          refine lv_aload hx hb d_Reader_process_31 (lv_at hl 0 rfl) ?_
          refine d_gN (C := "ChannelMachine$Process") (F := F_Process) (N := 10) hx hb hts i_Process hown hK hP hfp3 0 rfl (by decide) (hU.1.2.1 _ kn_392) (fun _ h9 => h9) (v := .ref (z (3 + 3))) rfl d_Reader_process_33 ?_
          have hFc := y_free hD hS hA
          refine va_calli (va_runU (As := []) (rest := [.ref (z 20)]) ⟨hx, hb, hml, hown, hts⟩ (c_E_ordinal0 l dC dI ar N0 z ad I3 T A3 O3 pl3 3 H.size (y_hs H) (by decide)) (va_cwU (owner := "java/lang/Enum") 0 hts (x_goodU k_486 k_487 k_489 k_490 k_15 k_491) rfl rfl rfl rfl (by decide +kernel) ⟨Nat.le_trans (m := 40) (Nat.le_of_ble_eq_true rfl) (Nat.le_add_left 40 _), Nat.le_trans (m := 1400) (Nat.le_of_ble_eq_true rfl) (Nat.le_add_left 1400 _)⟩) ⟨y_blind, va_recvE (E := "ChannelMachine$Kind") (ad := fun i => z (3 + i)) (hZ.2.1.narrow hAN) (show 3 < 11 from by decide) hS, fun U9 hU9 hW9 => y_pre hU9 hW9 hP hD hU hZ hS hAN hN0⟩ rfl rfl hl.1 rfl (lv_room (Nat.le_of_ble_eq_true rfl)) d_Reader_process_36 ⟨(by show 0 + (2) + (0) ≤ 3 * (72 - aa) + 2; omega), (by show 0 + (17) + (0) ≤ 100 * (72 - aa) + 80; omega)⟩) hS (fun q _ h => hFc q h) hFc (fun r_38 u t H1 locs ht hvm hw hB hz1 hk1 hS => ?_)
          obtain ⟨I39, T39, A39, O39, pl39, q39, s39, cq39, cs39⟩ := u
          dsimp only at hw hB
          rw [ht] at hB
          obtain ⟨hP, hD1, hac39⟩ := hB
          have hD : va_D Bq (y_W ad ar I39 T39 A39 O39 pl39) := hD1.weaken (fun _ q _ h => hFc q.1 h)
          generalize H1 = H at hP hS hac39 ⊢
          have hae39 := hac39
          try unfold y_ac at hae39
          try dsimp only at hae39
          refine W.widen (k := 0 + (2)) (n := 0 + (17)) (by omega) (by omega) ?_
          obtain ⟨h9, hw⟩ := hw
          cases h9
          subst hw
          refine va_ti (t := z 20) (N := 11) (f := y_sw) (v := .int 0) hx hb (hZ.2.2.2.1.narrow hAN) hS (by unfold vp_in; decide) rfl d_Reader_process_39 ?_
          refine lv_tableOut (tgt := 342) hx hb d_Reader_process_40 (by decide) (by decide) ?_
          refine lv_iconst (v := 1) hx hb d_Reader_process_342 (by decide) ?_
          obtain ⟨hd9, hph9⟩ := hdxB.close hg1 (Or.inr (by rw [hg2]; decide))
          refine y_know (fun hy91 hy92 hy93 hy94 => ?_)
          have hac9 : y_rc s.heap.size (y_hs s.heap) aa (aa + 1) 0 H := ⟨by omega, by omega⟩
          refine W.widen (k := 3 * (72 - aa) + 2) (n := 100 * (72 - aa) + 80) (by omega) (by omega) ?_
          exact W.zret (v := 1) hx hb hr (rfl) (fun t ht hW => ⟨⟨1, (I3, T, A3, O3, pl3, (ln, s3, 0, aa + 1)), rfl, ⟨hmi, rfl, hO3, (m_fr.rf.tr fr3 (by decide)), by dsimp only; omega, Or.inr ⟨rfl, rfl, p3, y_SU.mk hzp3 hfx hcx hg1 hg6 hd9 hph9 y_un_s, hpr⟩⟩, (by dsimp only; rw [ht]; exact ⟨hP, hD, hac9⟩)⟩, hS.F ht⟩) hS.2.2 d_Reader_process_343
        · have hfp3 : y_L pl3 p3 = some (.inr (7, [.ref (z (3 + 4)), .null, .null, .null, .null, .ref t3, .null, .ref (z 21), .int chB, .int vaB])) := hfp3
          have hpeB : y_L pl3 p3 ≠ none := by rw [hfp3]; exact nofun
          have hpf : y_L pl3 p3 = some (.inr (7, y_Pf z C3 Gs3 p3 (J3 p3) none none (some t3) (z 21) chB vaB)) := by rw [hfp3]; unfold y_Pf; rw [hg2, hg3, hg4]; rfl
          refine lv_astore (lv' := [(4, .ref p3), (0, .ref (ad 1)), (1, .null), (2, .int (Int32.ofNat dp)), (3, .int gv)]) hx hb d_Reader_process_16 hl (by decide) rfl (fun ls hl => ?_)
          refine lv_aload hx hb d_Reader_process_18 (lv_at hl 0 rfl) ?_
          refine lv_ifnonnull (tgt := 28) hx hb d_Reader_process_20 (by decide) ?_
          refine va_gets hx hb (hZ.2.2.1.narrow hAN) hS hown (hts _ k_484) (fun _ h9 => h9) d_Reader_process_28 ?_
          refine lv_aload hx hb d_Reader_process_31 (lv_at hl 0 rfl) ?_
          refine d_gN (C := "ChannelMachine$Process") (F := F_Process) (N := 10) hx hb hts i_Process hown hK hP hfp3 0 rfl (by decide) (hU.1.2.1 _ kn_392) (fun _ h9 => h9) (v := .ref (z (3 + 4))) rfl d_Reader_process_33 ?_
          have hFc := y_free hD hS hA
          refine va_calli (va_runU (As := []) (rest := [.ref (z 20)]) ⟨hx, hb, hml, hown, hts⟩ (c_E_ordinal0 l dC dI ar N0 z ad I3 T A3 O3 pl3 4 H.size (y_hs H) (by decide)) (va_cwU (owner := "java/lang/Enum") 0 hts (x_goodU k_486 k_487 k_489 k_490 k_15 k_491) rfl rfl rfl rfl (by decide +kernel) ⟨Nat.le_trans (m := 40) (Nat.le_of_ble_eq_true rfl) (Nat.le_add_left 40 _), Nat.le_trans (m := 1400) (Nat.le_of_ble_eq_true rfl) (Nat.le_add_left 1400 _)⟩) ⟨y_blind, va_recvE (E := "ChannelMachine$Kind") (ad := fun i => z (3 + i)) (hZ.2.1.narrow hAN) (show 4 < 11 from by decide) hS, fun U9 hU9 hW9 => y_pre hU9 hW9 hP hD hU hZ hS hAN hN0⟩ rfl rfl hl.1 rfl (lv_room (Nat.le_of_ble_eq_true rfl)) d_Reader_process_36 ⟨(by show 0 + (2) + (0) ≤ 3 * (72 - aa) + 2; omega), (by show 0 + (17) + (0) ≤ 100 * (72 - aa) + 80; omega)⟩) hS (fun q _ h => hFc q h) hFc (fun r_40 u t H1 locs ht hvm hw hB hz1 hk1 hS => ?_)
          obtain ⟨I41, T41, A41, O41, pl41, q41, s41, cq41, cs41⟩ := u
          dsimp only at hw hB
          rw [ht] at hB
          obtain ⟨hP, hD1, hac41⟩ := hB
          have hD : va_D Bq (y_W ad ar I41 T41 A41 O41 pl41) := hD1.weaken (fun _ q _ h => hFc q.1 h)
          generalize H1 = H at hP hS hac41 ⊢
          have hae41 := hac41
          try unfold y_ac at hae41
          try dsimp only at hae41
          refine W.widen (k := 0 + (2)) (n := 0 + (17)) (by omega) (by omega) ?_
          obtain ⟨h9, hw⟩ := hw
          cases h9
          subst hw
          refine va_ti (t := z 20) (N := 11) (f := y_sw) (v := .int 10) hx hb (hZ.2.2.2.1.narrow hAN) hS (by unfold vp_in; decide) rfl d_Reader_process_39 ?_
          refine lv_tableOut (tgt := 342) hx hb d_Reader_process_40 (by decide) (by decide) ?_
          refine lv_iconst (v := 1) hx hb d_Reader_process_342 (by decide) ?_
          obtain ⟨hd9, hph9⟩ := hdxB.close hg1 (Or.inr (by rw [hg2]; decide))
          refine y_know (fun hy91 hy92 hy93 hy94 => ?_)
          have hac9 : y_rc s.heap.size (y_hs s.heap) aa (aa + 1) 0 H := ⟨by omega, by omega⟩
          refine W.widen (k := 3 * (72 - aa) + 2) (n := 100 * (72 - aa) + 80) (by omega) (by omega) ?_
          exact W.zret (v := 1) hx hb hr (rfl) (fun t ht hW => ⟨⟨1, (I3, T, A3, O3, pl3, (ln, s3, 0, aa + 1)), rfl, ⟨hmi, rfl, hO3, (m_fr.rf.tr fr3 (by decide)), by dsimp only; omega, Or.inr ⟨rfl, rfl, p3, y_SU.mk hzp3 hfx hcx hg1 hg6 hd9 hph9 y_un_s, hpr⟩⟩, (by dsimp only; rw [ht]; exact ⟨hP, hD, hac9⟩)⟩, hS.F ht⟩) hS.2.2 d_Reader_process_343
        · have hfp3 : y_L pl3 p3 = some (.inr (7, [.ref (z (3 + 5)), .null, .null, .null, .null, .ref t3, .null, .ref (z 21), .int chB, .int vaB])) := hfp3
          have hpeB : y_L pl3 p3 ≠ none := by rw [hfp3]; exact nofun
          have hpf : y_L pl3 p3 = some (.inr (7, y_Pf z C3 Gs3 p3 (J3 p3) none none (some t3) (z 21) chB vaB)) := by rw [hfp3]; unfold y_Pf; rw [hg2, hg3, hg4]; rfl
          refine lv_astore (lv' := [(4, .ref p3), (0, .ref (ad 1)), (1, .null), (2, .int (Int32.ofNat dp)), (3, .int gv)]) hx hb d_Reader_process_16 hl (by decide) rfl (fun ls hl => ?_)
          refine lv_aload hx hb d_Reader_process_18 (lv_at hl 0 rfl) ?_
          refine lv_ifnonnull (tgt := 28) hx hb d_Reader_process_20 (by decide) ?_
          refine va_gets hx hb (hZ.2.2.1.narrow hAN) hS hown (hts _ k_484) (fun _ h9 => h9) d_Reader_process_28 ?_
          refine lv_aload hx hb d_Reader_process_31 (lv_at hl 0 rfl) ?_
          refine d_gN (C := "ChannelMachine$Process") (F := F_Process) (N := 10) hx hb hts i_Process hown hK hP hfp3 0 rfl (by decide) (hU.1.2.1 _ kn_392) (fun _ h9 => h9) (v := .ref (z (3 + 5))) rfl d_Reader_process_33 ?_
          have hFc := y_free hD hS hA
          refine va_calli (va_runU (As := []) (rest := [.ref (z 20)]) ⟨hx, hb, hml, hown, hts⟩ (c_E_ordinal0 l dC dI ar N0 z ad I3 T A3 O3 pl3 5 H.size (y_hs H) (by decide)) (va_cwU (owner := "java/lang/Enum") 0 hts (x_goodU k_486 k_487 k_489 k_490 k_15 k_491) rfl rfl rfl rfl (by decide +kernel) ⟨Nat.le_trans (m := 40) (Nat.le_of_ble_eq_true rfl) (Nat.le_add_left 40 _), Nat.le_trans (m := 1400) (Nat.le_of_ble_eq_true rfl) (Nat.le_add_left 1400 _)⟩) ⟨y_blind, va_recvE (E := "ChannelMachine$Kind") (ad := fun i => z (3 + i)) (hZ.2.1.narrow hAN) (show 5 < 11 from by decide) hS, fun U9 hU9 hW9 => y_pre hU9 hW9 hP hD hU hZ hS hAN hN0⟩ rfl rfl hl.1 rfl (lv_room (Nat.le_of_ble_eq_true rfl)) d_Reader_process_36 ⟨(by show 0 + (2) + (0) ≤ 3 * (72 - aa) + 2; omega), (by show 0 + (17) + (0) ≤ 100 * (72 - aa) + 80; omega)⟩) hS (fun q _ h => hFc q h) hFc (fun r_42 u t H1 locs ht hvm hw hB hz1 hk1 hS => ?_)
          obtain ⟨I43, T43, A43, O43, pl43, q43, s43, cq43, cs43⟩ := u
          dsimp only at hw hB
          rw [ht] at hB
          obtain ⟨hP, hD1, hac43⟩ := hB
          have hD : va_D Bq (y_W ad ar I43 T43 A43 O43 pl43) := hD1.weaken (fun _ q _ h => hFc q.1 h)
          generalize H1 = H at hP hS hac43 ⊢
          have hae43 := hac43
          try unfold y_ac at hae43
          try dsimp only at hae43
          refine W.widen (k := 0 + (2)) (n := 0 + (17)) (by omega) (by omega) ?_
          obtain ⟨h9, hw⟩ := hw
          cases h9
          subst hw
          refine va_ti (t := z 20) (N := 11) (f := y_sw) (v := .int 5) hx hb (hZ.2.2.2.1.narrow hAN) hS (by unfold vp_in; decide) rfl d_Reader_process_39 ?_
          refine lv_tableIn (tgt := 186) hx hb d_Reader_process_40 (by decide) (by decide) (off := 146) rfl (by decide) ?_
          refine lv_aload_n hx hb d_Reader_process_186 rfl (lv_at hl 1 rfl) ?_
          refine lv_aload hx hb d_Reader_process_187 (lv_at hl 0 rfl) ?_
          refine lv_iload_n hx hb d_Reader_process_189 rfl (lv_at hl 3 rfl) ?_
          refine lv_bipush (v := 72) hx hb d_Reader_process_190 (by decide) ?_
          refine W.eq (g2 := F0 m 192 ls [.int (Int32.ofNat 72), .int (Int32.ofNat dp), .ref p3, .ref (ad 1)]) rfl ?_
          refine y_know (fun hya1 hya2 hya3 hya4 => ?_)
          have hFc := y_free hD hS hA
          refine va_calli (va_runV (As := [.ref p3, .int (Int32.ofNat dp), .int (Int32.ofNat 72)]) (rest := []) ⟨hx, hb, hml, hown, hts⟩ (ihT l dC dI ar N0 z ad I3 T A3 O3 pl3 ln s3 (aa + 1) f0 G3 J3 C3 Gs3 S3 p3 dp 72 H.size (y_hs H) hmi hdxB hg1 hdT hrT hg3 ⟨by omega, fun h9 => by rw [hg2] at h9; omega⟩) (cwV 3 hts (x_goodV k_550 k_552 kp_16 k_2 k_553) rfl rfl rfl (by decide +kernel) ⟨(by show 2 * nn + 41 + 1 ≤ 2 * (nn + 1) + 40; omega), (by show 8 + (5 + 11) + (100 * nn + 1440) ≤ 100 * (nn + 1) + 1400; omega)⟩) ⟨y_blind, va_recv hK hP (ci := 3) (q0 := 1) rfl (y_W_ob (by decide) (by decide)), fun U9 hU9 hW9 => y_pre hU9 hW9 hP hD hU hZ hS hAN hN0⟩ rfl rfl hl.1 rfl (lv_room (Nat.le_of_ble_eq_true rfl)) d_Reader_process_192 ⟨(by show 0 + (2) + (3 * (72 - (aa + 1)) + 2) ≤ 3 * (72 - aa) + 2; omega), (by show 0 + (17) + (100 * (72 - (aa + 1)) + 80) ≤ 100 * (72 - aa) + 80; omega)⟩) hS (fun q _ h => hFc q h) hFc (fun r_44 u t H1 locs ht hvm hw hB hz1 hk1 hS => ?_)
          obtain ⟨I45, T45, A45, O45, pl45, q45, s45, cq45, cs45⟩ := u
          dsimp only at hw hB
          rw [ht] at hB
          obtain ⟨hP, hD1, hac45⟩ := hB
          have hD : va_D Bq (y_W ad ar I45 T45 A45 O45 pl45) := hD1.weaken (fun _ q _ h => hFc q.1 h)
          generalize H1 = H at hP hS hac45 ⊢
          have hae45 := hac45
          try unfold y_ac at hae45
          try dsimp only at hae45
          obtain ⟨hmi, e2, hO45, fr45, hge45, hbr⟩ := hw
          rw [e2] at hP hD
          have hP : va_P (dC, dI) y_cl (y_W ad ar I45 T A45 O45 pl45) H := hP
          have hD : va_D Bq (y_W ad ar I45 T A45 O45 pl45) := hD
          have hbn := hmi.2.1
          dsimp only at hbn
          rcases hbr with ⟨rfl, hsl, hfl45⟩ | ⟨rfl, hsl, G45, J45, C45, Gs45, S45, hdx45, hph45, hSp45⟩
          · unfold y_rc at hac45
            try dsimp only at hac45
            refine y_tight (k := 3 * (cs45 - aa) + 2) (n := 100 * (cs45 - aa) + 80) (by omega) (by omega) ?_
            refine lv_if_eq (tgt := 211) hx hb d_Reader_process_195 (by decide) (fun _ => ?_) (fun c46 => absurd (by decide) c46)
            refine lv_iconst (v := 0) hx hb d_Reader_process_211 (by decide) ?_
            have hfl : ∀ a, f0 a ≠ none → y_L pl45 a = f0 a := hfl45
            refine y_know (fun hy91 hy92 hy93 hy94 => ?_)
            have hac9 : y_rc s.heap.size (y_hs s.heap) aa cs45 1 H := ⟨by omega, by omega⟩
            refine W.widen (k := 3 * (72 - aa) + 2) (n := 100 * (72 - aa) + 80) (by omega) (by omega) ?_
            exact W.zret (v := 0) hx hb hr (rfl) (fun t ht hW => ⟨⟨0, (I45, T, A45, O45, pl45, (ln, s45, 1, cs45)), rfl, ⟨hmi, rfl, fun k hk => (hO45 k).trans ((hO3) k hk), ((m_fr.rf.tr fr3 (by decide)).tr fr45 (by decide)), by dsimp only; omega, Or.inl ⟨rfl, Nat.le_refl _, hfl⟩⟩, (by dsimp only; rw [ht]; exact ⟨hP, hD, hac9⟩)⟩, hS.F ht⟩) hS.2.2 d_Reader_process_212
          · subst hsl
            unfold y_rc at hac45
            try dsimp only at hac45
            refine y_tight (k := 3 * (cs45 - aa)) (n := 100 * (cs45 - aa)) (by omega) (by omega) ?_
            have hph := hph45
            refine lv_if_eq (tgt := 211) hx hb d_Reader_process_195 (by decide) (fun c47 => absurd c47 (by decide)) (fun _ => ?_)
            refine lv_aload_n hx hb d_Reader_process_198 rfl (lv_at hl 1 rfl) ?_
            refine lv_bipush (v := 41) hx hb d_Reader_process_199 (by decide) ?_
            have hFc := y_free hD hS hA
            refine va_calli (va_runV (As := [.int 41]) (rest := []) ⟨hx, hb, hml, hown, hts⟩ (c_Rd_expect l dC dI ar N0 z ad I45 T A45 O45 pl45 ln s45 ln cs45 (41) H.size (y_hs H) hmi (by decide)) (cwV 1 hts (x_goodV k_492 k_494 kp_7 k_2 k_495) rfl rfl rfl (by decide +kernel) ⟨Nat.le_trans (m := 40) (Nat.le_of_ble_eq_true rfl) (Nat.le_add_left 40 _), Nat.le_trans (m := 1400) (Nat.le_of_ble_eq_true rfl) (Nat.le_add_left 1400 _)⟩) ⟨y_blind, va_recv hK hP (ci := 3) (q0 := 1) rfl (y_W_ob (by decide) (by decide)), fun U9 hU9 hW9 => y_pre hU9 hW9 hP hD hU hZ hS hAN hN0⟩ rfl rfl hl.1 rfl (lv_room (Nat.le_of_ble_eq_true rfl)) d_Reader_process_201 ⟨(by show 3 * (cs45 - aa) + (0) ≤ 3 * (72 - aa) + 2; omega), (by show 100 * (cs45 - aa) + (0) ≤ 100 * (72 - aa) + 80; omega)⟩) hS (fun q _ h => hFc q h) hFc (fun r_48 u t H1 locs ht hvm hw hB hz1 hk1 hS => ?_)
            obtain ⟨I49, T49, A49, O49, pl49, q49, s49, cq49, cs49⟩ := u
            dsimp only at hw hB
            rw [ht] at hB
            obtain ⟨hP, hD1, hac49⟩ := hB
            have hD : va_D Bq (y_W ad ar I49 T49 A49 O49 pl49) := hD1.weaken (fun _ q _ h => hFc q.1 h)
            generalize H1 = H at hP hS hac49 ⊢
            have hae49 := hac49
            try unfold y_ac at hae49
            try dsimp only at hae49
            refine W.widen (k := 3 * (cs45 - aa)) (n := 100 * (cs45 - aa)) (by omega) (by omega) ?_
            obtain ⟨hmi, e2, e4, e5, fr49, e6, e7, hge49, hcc49, hr9⟩ := hw
            rw [e2, e4, e5] at hP hD
            rw [e6, e7] at hmi
            have hP : va_P (dC, dI) y_cl (y_W ad ar I49 T A49 O45 pl45) H := hP
            have hD : va_D Bq (y_W ad ar I49 T A49 O45 pl45) := hD
            have hbn := hmi.2.1
            dsimp only at hbn
            rcases hr9 with rfl | ⟨rfl, hex50⟩
            · refine lv_if_eq (tgt := 211) hx hb d_Reader_process_204 (by decide) (fun _ => ?_) (fun c51 => absurd (by decide) c51)
              refine lv_iconst (v := 0) hx hb d_Reader_process_211 (by decide) ?_
              have hfl : ∀ a, f0 a ≠ none → y_L pl45 a = f0 a := fun a ha => (hdx45.1 a ha).1
              refine y_know (fun hy91 hy92 hy93 hy94 => ?_)
              have hac9 : y_rc s.heap.size (y_hs s.heap) aa cs49 1 H := ⟨by omega, by omega⟩
              refine W.widen (k := 3 * (72 - aa) + 2) (n := 100 * (72 - aa) + 80) (by omega) (by omega) ?_
              exact W.zret (v := 0) hx hb hr (rfl) (fun t ht hW => ⟨⟨0, (I49, T, A49, O45, pl45, (ln, s49, 1, cs49)), rfl, ⟨hmi, rfl, fun k hk => (hO45 k).trans ((hO3) k hk), (((m_fr.rf.tr fr3 (by decide)).tr fr45 (by decide)).tr fr49 (by decide)), by dsimp only; omega, Or.inl ⟨rfl, Nat.le_refl _, hfl⟩⟩, (by dsimp only; rw [ht]; exact ⟨hP, hD, hac9⟩)⟩, hS.F ht⟩) hS.2.2 d_Reader_process_212
            · refine lv_if_eq (tgt := 211) hx hb d_Reader_process_204 (by decide) (fun c52 => absurd c52 (by decide)) (fun _ => ?_)
              refine lv_iconst (v := 1) hx hb d_Reader_process_207 (by decide) ?_
              refine lv_goto (tgt := 212) hx hb d_Reader_process_208 (by decide) ?_
              obtain ⟨hd9, hph9⟩ := hdx45.close (p := p3) (hph.2.1.2.1.trans hg1) (Or.inr (by rw [hph.2.1.2.2, hg2]; decide))
              refine y_know (fun hy91 hy92 hy93 hy94 => ?_)
              have hac9 : y_rc s.heap.size (y_hs s.heap) aa cs49 0 H := ⟨by omega, by omega⟩
              refine W.widen (k := 3 * (72 - aa) + 2) (n := 100 * (72 - aa) + 80) (by omega) (by omega) ?_
              exact W.zret (v := 1) hx hb hr (rfl) (fun t ht hW => ⟨⟨1, (I49, T, A49, O45, pl45, (ln, s49, 0, cs49)), rfl, ⟨hmi, rfl, fun k hk => (hO45 k).trans ((hO3) k hk), (((m_fr.rf.tr fr3 (by decide)).tr fr45 (by decide)).tr fr49 (by decide)), by dsimp only; omega, Or.inr ⟨rfl, rfl, p3, y_SU.mk hzp3 hfx hcx hg1 hg6 hd9 (hph.tr hph9 hpeB) y_un_s, fun h9 => ((fun k => hO45 k) 0).trans (hpr h9)⟩⟩, (by dsimp only; rw [ht]; exact ⟨hP, hD, hac9⟩)⟩, hS.F ht⟩) hS.2.2 d_Reader_process_212
        · have hfp3 : y_L pl3 p3 = some (.inr (7, [.ref (z (3 + 6)), .null, .null, .null, .null, .ref t3, .null, .ref (z 21), .int chB, .int vaB])) := hfp3
          have hpeB : y_L pl3 p3 ≠ none := by rw [hfp3]; exact nofun
          have hpf : y_L pl3 p3 = some (.inr (7, y_Pf z C3 Gs3 p3 (J3 p3) none none (some t3) (z 21) chB vaB)) := by rw [hfp3]; unfold y_Pf; rw [hg2, hg3, hg4]; rfl
          refine lv_astore (lv' := [(4, .ref p3), (0, .ref (ad 1)), (1, .null), (2, .int (Int32.ofNat dp)), (3, .int gv)]) hx hb d_Reader_process_16 hl (by decide) rfl (fun ls hl => ?_)
          refine lv_aload hx hb d_Reader_process_18 (lv_at hl 0 rfl) ?_
          refine lv_ifnonnull (tgt := 28) hx hb d_Reader_process_20 (by decide) ?_
          refine va_gets hx hb (hZ.2.2.1.narrow hAN) hS hown (hts _ k_484) (fun _ h9 => h9) d_Reader_process_28 ?_
          refine lv_aload hx hb d_Reader_process_31 (lv_at hl 0 rfl) ?_
          refine d_gN (C := "ChannelMachine$Process") (F := F_Process) (N := 10) hx hb hts i_Process hown hK hP hfp3 0 rfl (by decide) (hU.1.2.1 _ kn_392) (fun _ h9 => h9) (v := .ref (z (3 + 6))) rfl d_Reader_process_33 ?_
          have hFc := y_free hD hS hA
          refine va_calli (va_runU (As := []) (rest := [.ref (z 20)]) ⟨hx, hb, hml, hown, hts⟩ (c_E_ordinal0 l dC dI ar N0 z ad I3 T A3 O3 pl3 6 H.size (y_hs H) (by decide)) (va_cwU (owner := "java/lang/Enum") 0 hts (x_goodU k_486 k_487 k_489 k_490 k_15 k_491) rfl rfl rfl rfl (by decide +kernel) ⟨Nat.le_trans (m := 40) (Nat.le_of_ble_eq_true rfl) (Nat.le_add_left 40 _), Nat.le_trans (m := 1400) (Nat.le_of_ble_eq_true rfl) (Nat.le_add_left 1400 _)⟩) ⟨y_blind, va_recvE (E := "ChannelMachine$Kind") (ad := fun i => z (3 + i)) (hZ.2.1.narrow hAN) (show 6 < 11 from by decide) hS, fun U9 hU9 hW9 => y_pre hU9 hW9 hP hD hU hZ hS hAN hN0⟩ rfl rfl hl.1 rfl (lv_room (Nat.le_of_ble_eq_true rfl)) d_Reader_process_36 ⟨(by show 0 + (2) + (0) ≤ 3 * (72 - aa) + 2; omega), (by show 0 + (17) + (0) ≤ 100 * (72 - aa) + 80; omega)⟩) hS (fun q _ h => hFc q h) hFc (fun r_53 u t H1 locs ht hvm hw hB hz1 hk1 hS => ?_)
          obtain ⟨I54, T54, A54, O54, pl54, q54, s54, cq54, cs54⟩ := u
          dsimp only at hw hB
          rw [ht] at hB
          obtain ⟨hP, hD1, hac54⟩ := hB
          have hD : va_D Bq (y_W ad ar I54 T54 A54 O54 pl54) := hD1.weaken (fun _ q _ h => hFc q.1 h)
          generalize H1 = H at hP hS hac54 ⊢
          have hae54 := hac54
          try unfold y_ac at hae54
          try dsimp only at hae54
          refine W.widen (k := 0 + (2)) (n := 0 + (17)) (by omega) (by omega) ?_
          obtain ⟨h9, hw⟩ := hw
          cases h9
          subst hw
          refine va_ti (t := z 20) (N := 11) (f := y_sw) (v := .int 6) hx hb (hZ.2.2.2.1.narrow hAN) hS (by unfold vp_in; decide) rfl d_Reader_process_39 ?_
          refine lv_tableIn (tgt := 213) hx hb d_Reader_process_40 (by decide) (by decide) (off := 173) rfl (by decide) ?_
          refine lv_aload_n hx hb d_Reader_process_213 rfl (lv_at hl 1 rfl) ?_
          refine lv_aload hx hb d_Reader_process_214 (lv_at hl 0 rfl) ?_
          refine lv_iload_n hx hb d_Reader_process_216 rfl (lv_at hl 3 rfl) ?_
          refine lv_iconst (v := 4) hx hb d_Reader_process_217 (by decide) ?_
          refine W.eq (g2 := F0 m 218 ls [.int (Int32.ofNat 4), .int (Int32.ofNat dp), .ref p3, .ref (ad 1)]) rfl ?_
          refine y_know (fun hya1 hya2 hya3 hya4 => ?_)
          have hFc := y_free hD hS hA
          refine va_calli (va_runV (As := [.ref p3, .int (Int32.ofNat dp), .int (Int32.ofNat 4)]) (rest := []) ⟨hx, hb, hml, hown, hts⟩ (ihT l dC dI ar N0 z ad I3 T A3 O3 pl3 ln s3 (aa + 1) f0 G3 J3 C3 Gs3 S3 p3 dp 4 H.size (y_hs H) hmi hdxB hg1 hdT hrT hg3 ⟨by omega, fun h9 => by rw [hg2] at h9; omega⟩) (cwV 3 hts (x_goodV k_550 k_552 kp_16 k_2 k_553) rfl rfl rfl (by decide +kernel) ⟨(by show 2 * nn + 41 + 1 ≤ 2 * (nn + 1) + 40; omega), (by show 8 + (5 + 11) + (100 * nn + 1440) ≤ 100 * (nn + 1) + 1400; omega)⟩) ⟨y_blind, va_recv hK hP (ci := 3) (q0 := 1) rfl (y_W_ob (by decide) (by decide)), fun U9 hU9 hW9 => y_pre hU9 hW9 hP hD hU hZ hS hAN hN0⟩ rfl rfl hl.1 rfl (lv_room (Nat.le_of_ble_eq_true rfl)) d_Reader_process_218 ⟨(by show 0 + (2) + (3 * (72 - (aa + 1)) + 2) ≤ 3 * (72 - aa) + 2; omega), (by show 0 + (17) + (100 * (72 - (aa + 1)) + 80) ≤ 100 * (72 - aa) + 80; omega)⟩) hS (fun q _ h => hFc q h) hFc (fun r_55 u t H1 locs ht hvm hw hB hz1 hk1 hS => ?_)
          obtain ⟨I56, T56, A56, O56, pl56, q56, s56, cq56, cs56⟩ := u
          dsimp only at hw hB
          rw [ht] at hB
          obtain ⟨hP, hD1, hac56⟩ := hB
          have hD : va_D Bq (y_W ad ar I56 T56 A56 O56 pl56) := hD1.weaken (fun _ q _ h => hFc q.1 h)
          generalize H1 = H at hP hS hac56 ⊢
          have hae56 := hac56
          try unfold y_ac at hae56
          try dsimp only at hae56
          obtain ⟨hmi, e2, hO56, fr56, hge56, hbr⟩ := hw
          rw [e2] at hP hD
          have hP : va_P (dC, dI) y_cl (y_W ad ar I56 T A56 O56 pl56) H := hP
          have hD : va_D Bq (y_W ad ar I56 T A56 O56 pl56) := hD
          have hbn := hmi.2.1
          dsimp only at hbn
          rcases hbr with ⟨rfl, hsl, hfl56⟩ | ⟨rfl, hsl, G56, J56, C56, Gs56, S56, hdx56, hph56, hSp56⟩
          · unfold y_rc at hac56
            try dsimp only at hac56
            refine y_tight (k := 3 * (cs56 - aa) + 2) (n := 100 * (cs56 - aa) + 80) (by omega) (by omega) ?_
            refine lv_if_eq (tgt := 237) hx hb d_Reader_process_221 (by decide) (fun _ => ?_) (fun c57 => absurd (by decide) c57)
            refine lv_iconst (v := 0) hx hb d_Reader_process_237 (by decide) ?_
            have hfl : ∀ a, f0 a ≠ none → y_L pl56 a = f0 a := hfl56
            refine y_know (fun hy91 hy92 hy93 hy94 => ?_)
            have hac9 : y_rc s.heap.size (y_hs s.heap) aa cs56 1 H := ⟨by omega, by omega⟩
            refine W.widen (k := 3 * (72 - aa) + 2) (n := 100 * (72 - aa) + 80) (by omega) (by omega) ?_
            exact W.zret (v := 0) hx hb hr (rfl) (fun t ht hW => ⟨⟨0, (I56, T, A56, O56, pl56, (ln, s56, 1, cs56)), rfl, ⟨hmi, rfl, fun k hk => (hO56 k).trans ((hO3) k hk), ((m_fr.rf.tr fr3 (by decide)).tr fr56 (by decide)), by dsimp only; omega, Or.inl ⟨rfl, Nat.le_refl _, hfl⟩⟩, (by dsimp only; rw [ht]; exact ⟨hP, hD, hac9⟩)⟩, hS.F ht⟩) hS.2.2 d_Reader_process_238
          · subst hsl
            unfold y_rc at hac56
            try dsimp only at hac56
            refine y_tight (k := 3 * (cs56 - aa)) (n := 100 * (cs56 - aa)) (by omega) (by omega) ?_
            have hph := hph56
            refine lv_if_eq (tgt := 237) hx hb d_Reader_process_221 (by decide) (fun c58 => absurd c58 (by decide)) (fun _ => ?_)
            refine lv_aload_n hx hb d_Reader_process_224 rfl (lv_at hl 1 rfl) ?_
            refine lv_bipush (v := 125) hx hb d_Reader_process_225 (by decide) ?_
            have hFc := y_free hD hS hA
            refine va_calli (va_runV (As := [.int 125]) (rest := []) ⟨hx, hb, hml, hown, hts⟩ (c_Rd_expect l dC dI ar N0 z ad I56 T A56 O56 pl56 ln s56 ln cs56 (125) H.size (y_hs H) hmi (by decide)) (cwV 1 hts (x_goodV k_492 k_494 kp_7 k_2 k_495) rfl rfl rfl (by decide +kernel) ⟨Nat.le_trans (m := 40) (Nat.le_of_ble_eq_true rfl) (Nat.le_add_left 40 _), Nat.le_trans (m := 1400) (Nat.le_of_ble_eq_true rfl) (Nat.le_add_left 1400 _)⟩) ⟨y_blind, va_recv hK hP (ci := 3) (q0 := 1) rfl (y_W_ob (by decide) (by decide)), fun U9 hU9 hW9 => y_pre hU9 hW9 hP hD hU hZ hS hAN hN0⟩ rfl rfl hl.1 rfl (lv_room (Nat.le_of_ble_eq_true rfl)) d_Reader_process_227 ⟨(by show 3 * (cs56 - aa) + (0) ≤ 3 * (72 - aa) + 2; omega), (by show 100 * (cs56 - aa) + (0) ≤ 100 * (72 - aa) + 80; omega)⟩) hS (fun q _ h => hFc q h) hFc (fun r_59 u t H1 locs ht hvm hw hB hz1 hk1 hS => ?_)
            obtain ⟨I60, T60, A60, O60, pl60, q60, s60, cq60, cs60⟩ := u
            dsimp only at hw hB
            rw [ht] at hB
            obtain ⟨hP, hD1, hac60⟩ := hB
            have hD : va_D Bq (y_W ad ar I60 T60 A60 O60 pl60) := hD1.weaken (fun _ q _ h => hFc q.1 h)
            generalize H1 = H at hP hS hac60 ⊢
            have hae60 := hac60
            try unfold y_ac at hae60
            try dsimp only at hae60
            refine W.widen (k := 3 * (cs56 - aa)) (n := 100 * (cs56 - aa)) (by omega) (by omega) ?_
            obtain ⟨hmi, e2, e4, e5, fr60, e6, e7, hge60, hcc60, hr9⟩ := hw
            rw [e2, e4, e5] at hP hD
            rw [e6, e7] at hmi
            have hP : va_P (dC, dI) y_cl (y_W ad ar I60 T A60 O56 pl56) H := hP
            have hD : va_D Bq (y_W ad ar I60 T A60 O56 pl56) := hD
            have hbn := hmi.2.1
            dsimp only at hbn
            rcases hr9 with rfl | ⟨rfl, hex61⟩
            · refine lv_if_eq (tgt := 237) hx hb d_Reader_process_230 (by decide) (fun _ => ?_) (fun c62 => absurd (by decide) c62)
              refine lv_iconst (v := 0) hx hb d_Reader_process_237 (by decide) ?_
              have hfl : ∀ a, f0 a ≠ none → y_L pl56 a = f0 a := fun a ha => (hdx56.1 a ha).1
              refine y_know (fun hy91 hy92 hy93 hy94 => ?_)
              have hac9 : y_rc s.heap.size (y_hs s.heap) aa cs60 1 H := ⟨by omega, by omega⟩
              refine W.widen (k := 3 * (72 - aa) + 2) (n := 100 * (72 - aa) + 80) (by omega) (by omega) ?_
              exact W.zret (v := 0) hx hb hr (rfl) (fun t ht hW => ⟨⟨0, (I60, T, A60, O56, pl56, (ln, s60, 1, cs60)), rfl, ⟨hmi, rfl, fun k hk => (hO56 k).trans ((hO3) k hk), (((m_fr.rf.tr fr3 (by decide)).tr fr56 (by decide)).tr fr60 (by decide)), by dsimp only; omega, Or.inl ⟨rfl, Nat.le_refl _, hfl⟩⟩, (by dsimp only; rw [ht]; exact ⟨hP, hD, hac9⟩)⟩, hS.F ht⟩) hS.2.2 d_Reader_process_238
            · refine lv_if_eq (tgt := 237) hx hb d_Reader_process_230 (by decide) (fun c63 => absurd c63 (by decide)) (fun _ => ?_)
              refine lv_iconst (v := 1) hx hb d_Reader_process_233 (by decide) ?_
              refine lv_goto (tgt := 238) hx hb d_Reader_process_234 (by decide) ?_
              obtain ⟨hd9, hph9⟩ := hdx56.close (p := p3) (hph.2.1.2.1.trans hg1) (Or.inr (by rw [hph.2.1.2.2, hg2]; decide))
              refine y_know (fun hy91 hy92 hy93 hy94 => ?_)
              have hac9 : y_rc s.heap.size (y_hs s.heap) aa cs60 0 H := ⟨by omega, by omega⟩
              refine W.widen (k := 3 * (72 - aa) + 2) (n := 100 * (72 - aa) + 80) (by omega) (by omega) ?_
              exact W.zret (v := 1) hx hb hr (rfl) (fun t ht hW => ⟨⟨1, (I60, T, A60, O56, pl56, (ln, s60, 0, cs60)), rfl, ⟨hmi, rfl, fun k hk => (hO56 k).trans ((hO3) k hk), (((m_fr.rf.tr fr3 (by decide)).tr fr56 (by decide)).tr fr60 (by decide)), by dsimp only; omega, Or.inr ⟨rfl, rfl, p3, y_SU.mk hzp3 hfx hcx hg1 hg6 hd9 (hph.tr hph9 hpeB) y_un_s, fun h9 => ((fun k => hO56 k) 0).trans (hpr h9)⟩⟩, (by dsimp only; rw [ht]; exact ⟨hP, hD, hac9⟩)⟩, hS.F ht⟩) hS.2.2 d_Reader_process_238
        · have hfp3 : y_L pl3 p3 = some (.inr (7, [.ref (z (3 + 7)), .null, .null, .null, .null, .ref t3, .null, .ref (z 21), .int chB, .int vaB])) := hfp3
          have hpeB : y_L pl3 p3 ≠ none := by rw [hfp3]; exact nofun
          have hpf : y_L pl3 p3 = some (.inr (7, y_Pf z C3 Gs3 p3 (J3 p3) none none (some t3) (z 21) chB vaB)) := by rw [hfp3]; unfold y_Pf; rw [hg2, hg3, hg4]; rfl
          refine lv_astore (lv' := [(4, .ref p3), (0, .ref (ad 1)), (1, .null), (2, .int (Int32.ofNat dp)), (3, .int gv)]) hx hb d_Reader_process_16 hl (by decide) rfl (fun ls hl => ?_)
          refine lv_aload hx hb d_Reader_process_18 (lv_at hl 0 rfl) ?_
          refine lv_ifnonnull (tgt := 28) hx hb d_Reader_process_20 (by decide) ?_
          refine va_gets hx hb (hZ.2.2.1.narrow hAN) hS hown (hts _ k_484) (fun _ h9 => h9) d_Reader_process_28 ?_
          refine lv_aload hx hb d_Reader_process_31 (lv_at hl 0 rfl) ?_
          refine d_gN (C := "ChannelMachine$Process") (F := F_Process) (N := 10) hx hb hts i_Process hown hK hP hfp3 0 rfl (by decide) (hU.1.2.1 _ kn_392) (fun _ h9 => h9) (v := .ref (z (3 + 7))) rfl d_Reader_process_33 ?_
          have hFc := y_free hD hS hA
          refine va_calli (va_runU (As := []) (rest := [.ref (z 20)]) ⟨hx, hb, hml, hown, hts⟩ (c_E_ordinal0 l dC dI ar N0 z ad I3 T A3 O3 pl3 7 H.size (y_hs H) (by decide)) (va_cwU (owner := "java/lang/Enum") 0 hts (x_goodU k_486 k_487 k_489 k_490 k_15 k_491) rfl rfl rfl rfl (by decide +kernel) ⟨Nat.le_trans (m := 40) (Nat.le_of_ble_eq_true rfl) (Nat.le_add_left 40 _), Nat.le_trans (m := 1400) (Nat.le_of_ble_eq_true rfl) (Nat.le_add_left 1400 _)⟩) ⟨y_blind, va_recvE (E := "ChannelMachine$Kind") (ad := fun i => z (3 + i)) (hZ.2.1.narrow hAN) (show 7 < 11 from by decide) hS, fun U9 hU9 hW9 => y_pre hU9 hW9 hP hD hU hZ hS hAN hN0⟩ rfl rfl hl.1 rfl (lv_room (Nat.le_of_ble_eq_true rfl)) d_Reader_process_36 ⟨(by show 0 + (2) + (0) ≤ 3 * (72 - aa) + 2; omega), (by show 0 + (17) + (0) ≤ 100 * (72 - aa) + 80; omega)⟩) hS (fun q _ h => hFc q h) hFc (fun r_64 u t H1 locs ht hvm hw hB hz1 hk1 hS => ?_)
          obtain ⟨I65, T65, A65, O65, pl65, q65, s65, cq65, cs65⟩ := u
          dsimp only at hw hB
          rw [ht] at hB
          obtain ⟨hP, hD1, hac65⟩ := hB
          have hD : va_D Bq (y_W ad ar I65 T65 A65 O65 pl65) := hD1.weaken (fun _ q _ h => hFc q.1 h)
          generalize H1 = H at hP hS hac65 ⊢
          have hae65 := hac65
          try unfold y_ac at hae65
          try dsimp only at hae65
          refine W.widen (k := 0 + (2)) (n := 0 + (17)) (by omega) (by omega) ?_
          obtain ⟨h9, hw⟩ := hw
          cases h9
          subst hw
          refine va_ti (t := z 20) (N := 11) (f := y_sw) (v := .int 8) hx hb (hZ.2.2.2.1.narrow hAN) hS (by unfold vp_in; decide) rfl d_Reader_process_39 ?_
          refine lv_tableIn (tgt := 264) hx hb d_Reader_process_40 (by decide) (by decide) (off := 224) rfl (by decide) ?_
          refine lv_aload_n hx hb d_Reader_process_264 rfl (lv_at hl 1 rfl) ?_
          refine lv_aload hx hb d_Reader_process_265 (lv_at hl 0 rfl) ?_
          refine y_know (fun hya1 hya2 hya3 hya4 => ?_)
          have hFc := y_free hD hS hA
          refine va_calli (va_runV (As := [.ref p3]) (rest := []) ⟨hx, hb, hml, hown, hts⟩ (c_Rd_condition l dC dI ar N0 z ad I3 T A3 O3 pl3 ln s3 ln (aa + 1) p3 (.ref (z (3 + 7))) (.null) (.null) (.null) (.null) (.ref t3) (.null) (.ref (z 21)) (.int chB) (.int vaB) H.size (y_hs H) hmi hfp3) (cwV 1 hts (x_goodV k_603 k_605 kp_19 k_2 k_606) rfl rfl rfl (by decide +kernel) ⟨Nat.le_trans (m := 40) (Nat.le_of_ble_eq_true rfl) (Nat.le_add_left 40 _), Nat.le_trans (m := 1400) (Nat.le_of_ble_eq_true rfl) (Nat.le_add_left 1400 _)⟩) ⟨y_blind, va_recv hK hP (ci := 3) (q0 := 1) rfl (y_W_ob (by decide) (by decide)), fun U9 hU9 hW9 => y_pre hU9 hW9 hP hD hU hZ hS hAN hN0⟩ rfl rfl hl.1 rfl (lv_room (Nat.le_of_ble_eq_true rfl)) d_Reader_process_267 ⟨(by show 0 + (2) + (1) ≤ 3 * (72 - aa) + 2; omega), (by show 0 + (17) + (72) ≤ 100 * (72 - aa) + 80; omega)⟩) hS (fun q _ h => hFc q h) hFc (fun r_66 u t H1 locs ht hvm hw hB hz1 hk1 hS => ?_)
          obtain ⟨I67, T67, A67, O67, pl67, q67, s67, cq67, cs67⟩ := u
          dsimp only at hw hB
          rw [ht] at hB
          obtain ⟨hP, hD1, hac67⟩ := hB
          have hD : va_D Bq (y_W ad ar I67 T67 A67 O67 pl67) := hD1.weaken (fun _ q _ h => hFc q.1 h)
          generalize H1 = H at hP hS hac67 ⊢
          have hae67 := hac67
          try unfold y_ac at hae67
          try dsimp only at hae67
          obtain ⟨hmi, e2, e4, fr67, e6, e7, hge67, hbr⟩ := hw
          rw [e2, e4] at hP hD
          rw [e6, e7] at hmi
          have hP : va_P (dC, dI) y_cl (y_W ad ar I67 T A67 O3 pl67) H := hP
          have hD : va_D Bq (y_W ad ar I67 T A67 O3 pl67) := hD
          have hbn := hmi.2.1
          dsimp only at hbn
          rcases hbr with ⟨rfl, hog⟩ | ⟨rfl, q67_, nq, hq9, hzq, hnq, hokq, hqq, hfp3, hoq⟩
          · refine lv_if_eq (tgt := 290) hx hb d_Reader_process_270 (by decide) (fun _ => ?_) (fun c68 => absurd (by decide) c68)
            refine lv_iconst (v := 0) hx hb d_Reader_process_290 (by decide) ?_
            have hfl : ∀ a, f0 a ≠ none → y_L pl67 a = f0 a := (hdxB.keep1 hg1 hog)
            refine y_know (fun hy91 hy92 hy93 hy94 => ?_)
            have hac9 : y_rc s.heap.size (y_hs s.heap) aa cs67 1 H := ⟨by omega, by omega⟩
            refine W.widen (k := 3 * (72 - aa) + 2) (n := 100 * (72 - aa) + 80) (by omega) (by omega) ?_
            exact W.zret (v := 0) hx hb hr (rfl) (fun t ht hW => ⟨⟨0, (I67, T, A67, O3, pl67, (ln, s67, 1, cs67)), rfl, ⟨hmi, rfl, hO3, ((m_fr.rf.tr fr3 (by decide)).tr fr67 (by decide)), by dsimp only; omega, Or.inl ⟨rfl, Nat.le_refl _, hfl⟩⟩, (by dsimp only; rw [ht]; exact ⟨hP, hD, hac9⟩)⟩, hS.F ht⟩) hS.2.2 d_Reader_process_291
          · obtain ⟨hd67, hph67⟩ := y_DX.code (f' := y_L pl67) (s' := 2) (q := q67_) hdxB hg1 hpf hzq hnq hokq hqq (by rw [hfp3]; unfold y_Pf; rw [hg2, hg3, hg4]; rfl) hoq (fun h9 => by omega)
            have hph := hph67
            refine lv_if_eq (tgt := 290) hx hb d_Reader_process_270 (by decide) (fun c69 => absurd c69 (by decide)) (fun _ => ?_)
            refine lv_aload_n hx hb d_Reader_process_273 rfl (lv_at hl 1 rfl) ?_
            refine lv_aload hx hb d_Reader_process_274 (lv_at hl 0 rfl) ?_
            refine lv_iload_n hx hb d_Reader_process_276 rfl (lv_at hl 3 rfl) ?_
            refine lv_iconst (v := 1) hx hb d_Reader_process_277 (by decide) ?_
            refine lv_iadd hx hb d_Reader_process_278 ?_
            refine W.eq (g2 := F0 m 279 ls [.int (Int32.ofNat (dp + 1)), .ref p3, .ref (ad 1)]) (by rw [← x_addN (a := dp) (b := 1)] <;> rfl) ?_
            refine lv_iload_n hx hb d_Reader_process_279 rfl (lv_at hl 4 rfl) ?_
            refine y_know (fun hya1 hya2 hya3 hya4 => ?_)
            have hFc := y_free hD hS hA
            refine va_calli (va_runV (As := [.ref p3, .int (Int32.ofNat (dp + 1)), .int gv]) (rest := []) ⟨hx, hb, hml, hown, hts⟩ (ihP l dC dI ar N0 z ad I67 T A67 O3 pl67 ln s67 cs67 f0 (y_un G3 q67_ 10) J3 C3 Gs3 (y_un S3 p3 2) (some p3) ((dp + 1)) (gv) H.size (y_hs H) hmi hd67 (fun P9 hP9 => by cases hP9; exact ⟨hph.2.1.2.1.trans hg1, fun h9 => by rw [hph.2.1.2.2, hg2] at h9; omega⟩) hdN hrN) (cwV 3 hts (x_goodV k_557 k_332 kp_1 k_2 k_333) rfl rfl rfl (by decide +kernel) ⟨(by show 2 * nn + 40 + 1 ≤ 2 * (nn + 1) + 40; omega), (by show 8 + (5 + 11) + (100 * nn + 1400) ≤ 100 * (nn + 1) + 1400; omega)⟩) ⟨y_blind, va_recv hK hP (ci := 3) (q0 := 1) rfl (y_W_ob (by decide) (by decide)), fun U9 hU9 hW9 => y_pre hU9 hW9 hP hD hU hZ hS hAN hN0⟩ rfl rfl hl.1 rfl (lv_room (Nat.le_of_ble_eq_true rfl)) d_Reader_process_280 ⟨(by show 0 + (2) + (1) + (3 * (72 - cs67) + 2) ≤ 3 * (72 - aa) + 2; omega), (by show 0 + (17) + (72) + (100 * (72 - cs67) + 80) ≤ 100 * (72 - aa) + 80; omega)⟩) hS (fun q _ h => hFc q h) hFc (fun r_70 u t H1 locs ht hvm hw hB hz1 hk1 hS => ?_)
            obtain ⟨I71, T71, A71, O71, pl71, q71, s71, cq71, cs71⟩ := u
            dsimp only at hw hB
            rw [ht] at hB
            obtain ⟨hP, hD1, hac71⟩ := hB
            have hD : va_D Bq (y_W ad ar I71 T71 A71 O71 pl71) := hD1.weaken (fun _ q _ h => hFc q.1 h)
            generalize H1 = H at hP hS hac71 ⊢
            have hae71 := hac71
            try unfold y_ac at hae71
            try dsimp only at hae71
            obtain ⟨hmi, e2, hO71, fr71, hge71, hbr⟩ := hw
            rw [e2] at hP hD
            have hP : va_P (dC, dI) y_cl (y_W ad ar I71 T A71 O71 pl71) H := hP
            have hD : va_D Bq (y_W ad ar I71 T A71 O71 pl71) := hD
            have hbn := hmi.2.1
            dsimp only at hbn
            rcases hbr with ⟨rfl, hsl, hfl71⟩ | ⟨rfl, hsl, c71_, hsu71, hpr71⟩
            · unfold y_rc at hac71
              try dsimp only at hac71
              refine y_tight (k := 3 * (cs71 - aa) + 2) (n := 100 * (cs71 - aa) + 80) (by omega) (by omega) ?_
              refine lv_if_eq (tgt := 290) hx hb d_Reader_process_283 (by decide) (fun _ => ?_) (fun c72 => absurd (by decide) c72)
              refine lv_iconst (v := 0) hx hb d_Reader_process_290 (by decide) ?_
              have hfl : ∀ a, f0 a ≠ none → y_L pl71 a = f0 a := hfl71
              refine y_know (fun hy91 hy92 hy93 hy94 => ?_)
              have hac9 : y_rc s.heap.size (y_hs s.heap) aa cs71 1 H := ⟨by omega, by omega⟩
              refine W.widen (k := 3 * (72 - aa) + 2) (n := 100 * (72 - aa) + 80) (by omega) (by omega) ?_
              exact W.zret (v := 0) hx hb hr (rfl) (fun t ht hW => ⟨⟨0, (I71, T, A71, O71, pl71, (ln, s71, 1, cs71)), rfl, ⟨hmi, rfl, fun k hk => (hO71 k (Or.inr nofun)).trans ((hO3) k hk), (((m_fr.rf.tr fr3 (by decide)).tr fr67 (by decide)).tr fr71 (by decide)), by dsimp only; omega, Or.inl ⟨rfl, Nat.le_refl _, hfl⟩⟩, (by dsimp only; rw [ht]; exact ⟨hP, hD, hac9⟩)⟩, hS.F ht⟩) hS.2.2 d_Reader_process_291
            · subst hsl
              unfold y_rc at hac71
              try dsimp only at hac71
              refine y_tight (k := 3 * (cs71 - aa)) (n := 100 * (cs71 - aa)) (by omega) (by omega) ?_
              obtain ⟨G71, J71, C71, Gs71, S71, hdx71, hph71, hSp71, hGp71, hCp71, hcg71⟩ := hsu71.ph hph.2.1.1
              have hph := hph.tr hph71 hpeB
              refine lv_if_eq (tgt := 290) hx hb d_Reader_process_283 (by decide) (fun c73 => absurd c73 (by decide)) (fun _ => ?_)
              refine lv_iconst (v := 1) hx hb d_Reader_process_286 (by decide) ?_
              refine lv_goto (tgt := 291) hx hb d_Reader_process_287 (by decide) ?_
              obtain ⟨hd9, hph9⟩ := hdx71.close (p := p3) (hph.2.1.2.1.trans hg1) (Or.inl ⟨(hSp71.trans y_un_s), by rw [hph.2.1.2.2, hg2]; decide, by rw [hCp71, List.length_append]; simp⟩)
              refine y_know (fun hy91 hy92 hy93 hy94 => ?_)
              have hac9 : y_rc s.heap.size (y_hs s.heap) aa cs71 0 H := ⟨by omega, by omega⟩
              refine W.widen (k := 3 * (72 - aa) + 2) (n := 100 * (72 - aa) + 80) (by omega) (by omega) ?_
              exact W.zret (v := 1) hx hb hr (rfl) (fun t ht hW => ⟨⟨1, (I71, T, A71, O71, pl71, (ln, s71, 0, cs71)), rfl, ⟨hmi, rfl, fun k hk => (hO71 k (Or.inr nofun)).trans ((hO3) k hk), (((m_fr.rf.tr fr3 (by decide)).tr fr67 (by decide)).tr fr71 (by decide)), by dsimp only; omega, Or.inr ⟨rfl, rfl, p3, y_SU.mk hzp3 hfx hcx hg1 hg6 hd9 (hph.tr hph9 hpeB) y_un_s, fun h9 => ((fun k => hO71 k (Or.inr nofun)) 0).trans (hpr h9)⟩⟩, (by dsimp only; rw [ht]; exact ⟨hP, hD, hac9⟩)⟩, hS.F ht⟩) hS.2.2 d_Reader_process_291
        · have hfp3 : y_L pl3 p3 = some (.inr (7, [.ref (z (3 + 8)), .null, .null, .null, .null, .ref t3, .null, .ref (z 21), .int chB, .int vaB])) := hfp3
          have hpeB : y_L pl3 p3 ≠ none := by rw [hfp3]; exact nofun
          have hpf : y_L pl3 p3 = some (.inr (7, y_Pf z C3 Gs3 p3 (J3 p3) none none (some t3) (z 21) chB vaB)) := by rw [hfp3]; unfold y_Pf; rw [hg2, hg3, hg4]; rfl
          refine lv_astore (lv' := [(4, .ref p3), (0, .ref (ad 1)), (1, .null), (2, .int (Int32.ofNat dp)), (3, .int gv)]) hx hb d_Reader_process_16 hl (by decide) rfl (fun ls hl => ?_)
          refine lv_aload hx hb d_Reader_process_18 (lv_at hl 0 rfl) ?_
          refine lv_ifnonnull (tgt := 28) hx hb d_Reader_process_20 (by decide) ?_
          refine va_gets hx hb (hZ.2.2.1.narrow hAN) hS hown (hts _ k_484) (fun _ h9 => h9) d_Reader_process_28 ?_
          refine lv_aload hx hb d_Reader_process_31 (lv_at hl 0 rfl) ?_
          refine d_gN (C := "ChannelMachine$Process") (F := F_Process) (N := 10) hx hb hts i_Process hown hK hP hfp3 0 rfl (by decide) (hU.1.2.1 _ kn_392) (fun _ h9 => h9) (v := .ref (z (3 + 8))) rfl d_Reader_process_33 ?_
          have hFc := y_free hD hS hA
          refine va_calli (va_runU (As := []) (rest := [.ref (z 20)]) ⟨hx, hb, hml, hown, hts⟩ (c_E_ordinal0 l dC dI ar N0 z ad I3 T A3 O3 pl3 8 H.size (y_hs H) (by decide)) (va_cwU (owner := "java/lang/Enum") 0 hts (x_goodU k_486 k_487 k_489 k_490 k_15 k_491) rfl rfl rfl rfl (by decide +kernel) ⟨Nat.le_trans (m := 40) (Nat.le_of_ble_eq_true rfl) (Nat.le_add_left 40 _), Nat.le_trans (m := 1400) (Nat.le_of_ble_eq_true rfl) (Nat.le_add_left 1400 _)⟩) ⟨y_blind, va_recvE (E := "ChannelMachine$Kind") (ad := fun i => z (3 + i)) (hZ.2.1.narrow hAN) (show 8 < 11 from by decide) hS, fun U9 hU9 hW9 => y_pre hU9 hW9 hP hD hU hZ hS hAN hN0⟩ rfl rfl hl.1 rfl (lv_room (Nat.le_of_ble_eq_true rfl)) d_Reader_process_36 ⟨(by show 0 + (2) + (0) ≤ 3 * (72 - aa) + 2; omega), (by show 0 + (17) + (0) ≤ 100 * (72 - aa) + 80; omega)⟩) hS (fun q _ h => hFc q h) hFc (fun r_74 u t H1 locs ht hvm hw hB hz1 hk1 hS => ?_)
          obtain ⟨I75, T75, A75, O75, pl75, q75, s75, cq75, cs75⟩ := u
          dsimp only at hw hB
          rw [ht] at hB
          obtain ⟨hP, hD1, hac75⟩ := hB
          have hD : va_D Bq (y_W ad ar I75 T75 A75 O75 pl75) := hD1.weaken (fun _ q _ h => hFc q.1 h)
          generalize H1 = H at hP hS hac75 ⊢
          have hae75 := hac75
          try unfold y_ac at hae75
          try dsimp only at hae75
          refine W.widen (k := 0 + (2)) (n := 0 + (17)) (by omega) (by omega) ?_
          obtain ⟨h9, hw⟩ := hw
          cases h9
          subst hw
          refine va_ti (t := z 20) (N := 11) (f := y_sw) (v := .int 9) hx hb (hZ.2.2.2.1.narrow hAN) hS (by unfold vp_in; decide) rfl d_Reader_process_39 ?_
          refine lv_tableIn (tgt := 292) hx hb d_Reader_process_40 (by decide) (by decide) (off := 252) rfl (by decide) ?_
          refine lv_aload_n hx hb d_Reader_process_292 rfl (lv_at hl 1 rfl) ?_
          refine lv_aload hx hb d_Reader_process_293 (lv_at hl 0 rfl) ?_
          refine y_know (fun hya1 hya2 hya3 hya4 => ?_)
          have hFc := y_free hD hS hA
          refine va_calli (va_runV (As := [.ref p3]) (rest := []) ⟨hx, hb, hml, hown, hts⟩ (c_Rd_condition l dC dI ar N0 z ad I3 T A3 O3 pl3 ln s3 ln (aa + 1) p3 (.ref (z (3 + 8))) (.null) (.null) (.null) (.null) (.ref t3) (.null) (.ref (z 21)) (.int chB) (.int vaB) H.size (y_hs H) hmi hfp3) (cwV 1 hts (x_goodV k_603 k_605 kp_19 k_2 k_606) rfl rfl rfl (by decide +kernel) ⟨Nat.le_trans (m := 40) (Nat.le_of_ble_eq_true rfl) (Nat.le_add_left 40 _), Nat.le_trans (m := 1400) (Nat.le_of_ble_eq_true rfl) (Nat.le_add_left 1400 _)⟩) ⟨y_blind, va_recv hK hP (ci := 3) (q0 := 1) rfl (y_W_ob (by decide) (by decide)), fun U9 hU9 hW9 => y_pre hU9 hW9 hP hD hU hZ hS hAN hN0⟩ rfl rfl hl.1 rfl (lv_room (Nat.le_of_ble_eq_true rfl)) d_Reader_process_295 ⟨(by show 0 + (2) + (1) ≤ 3 * (72 - aa) + 2; omega), (by show 0 + (17) + (72) ≤ 100 * (72 - aa) + 80; omega)⟩) hS (fun q _ h => hFc q h) hFc (fun r_76 u t H1 locs ht hvm hw hB hz1 hk1 hS => ?_)
          obtain ⟨I77, T77, A77, O77, pl77, q77, s77, cq77, cs77⟩ := u
          dsimp only at hw hB
          rw [ht] at hB
          obtain ⟨hP, hD1, hac77⟩ := hB
          have hD : va_D Bq (y_W ad ar I77 T77 A77 O77 pl77) := hD1.weaken (fun _ q _ h => hFc q.1 h)
          generalize H1 = H at hP hS hac77 ⊢
          have hae77 := hac77
          try unfold y_ac at hae77
          try dsimp only at hae77
          obtain ⟨hmi, e2, e4, fr77, e6, e7, hge77, hbr⟩ := hw
          rw [e2, e4] at hP hD
          rw [e6, e7] at hmi
          have hP : va_P (dC, dI) y_cl (y_W ad ar I77 T A77 O3 pl77) H := hP
          have hD : va_D Bq (y_W ad ar I77 T A77 O3 pl77) := hD
          have hbn := hmi.2.1
          dsimp only at hbn
          rcases hbr with ⟨rfl, hog⟩ | ⟨rfl, q77_, nq, hq9, hzq, hnq, hokq, hqq, hfp3, hoq⟩
          · refine lv_if_eq (tgt := 340) hx hb d_Reader_process_298 (by decide) (fun _ => ?_) (fun c78 => absurd (by decide) c78)
            refine lv_iconst (v := 0) hx hb d_Reader_process_340 (by decide) ?_
            have hfl : ∀ a, f0 a ≠ none → y_L pl77 a = f0 a := (hdxB.keep1 hg1 hog)
            refine y_know (fun hy91 hy92 hy93 hy94 => ?_)
            have hac9 : y_rc s.heap.size (y_hs s.heap) aa cs77 1 H := ⟨by omega, by omega⟩
            refine W.widen (k := 3 * (72 - aa) + 2) (n := 100 * (72 - aa) + 80) (by omega) (by omega) ?_
            exact W.zret (v := 0) hx hb hr (rfl) (fun t ht hW => ⟨⟨0, (I77, T, A77, O3, pl77, (ln, s77, 1, cs77)), rfl, ⟨hmi, rfl, hO3, ((m_fr.rf.tr fr3 (by decide)).tr fr77 (by decide)), by dsimp only; omega, Or.inl ⟨rfl, Nat.le_refl _, hfl⟩⟩, (by dsimp only; rw [ht]; exact ⟨hP, hD, hac9⟩)⟩, hS.F ht⟩) hS.2.2 d_Reader_process_341
          · obtain ⟨hd77, hph77⟩ := y_DX.code (f' := y_L pl77) (s' := 2) (q := q77_) hdxB hg1 hpf hzq hnq hokq hqq (by rw [hfp3]; unfold y_Pf; rw [hg2, hg3, hg4]; rfl) hoq (fun h9 => by omega)
            have hph := hph77
            refine lv_if_eq (tgt := 340) hx hb d_Reader_process_298 (by decide) (fun c79 => absurd c79 (by decide)) (fun _ => ?_)
            refine lv_aload_n hx hb d_Reader_process_301 rfl (lv_at hl 1 rfl) ?_
            refine lv_aload hx hb d_Reader_process_302 (lv_at hl 0 rfl) ?_
            refine lv_iload_n hx hb d_Reader_process_304 rfl (lv_at hl 3 rfl) ?_
            refine lv_iconst (v := 1) hx hb d_Reader_process_305 (by decide) ?_
            refine lv_iadd hx hb d_Reader_process_306 ?_
            refine W.eq (g2 := F0 m 307 ls [.int (Int32.ofNat (dp + 1)), .ref p3, .ref (ad 1)]) (by rw [← x_addN (a := dp) (b := 1)] <;> rfl) ?_
            refine lv_iconst (v := 0) hx hb d_Reader_process_307 (by decide) ?_
            refine y_know (fun hya1 hya2 hya3 hya4 => ?_)
            have hFc := y_free hD hS hA
            refine va_calli (va_runV (As := [.ref p3, .int (Int32.ofNat (dp + 1)), .int 0]) (rest := []) ⟨hx, hb, hml, hown, hts⟩ (ihP l dC dI ar N0 z ad I77 T A77 O3 pl77 ln s77 cs77 f0 (y_un G3 q77_ 10) J3 C3 Gs3 (y_un S3 p3 2) (some p3) ((dp + 1)) (0) H.size (y_hs H) hmi hd77 (fun P9 hP9 => by cases hP9; exact ⟨hph.2.1.2.1.trans hg1, fun h9 => by rw [hph.2.1.2.2, hg2] at h9; omega⟩) hdN hrN) (cwV 3 hts (x_goodV k_557 k_332 kp_1 k_2 k_333) rfl rfl rfl (by decide +kernel) ⟨(by show 2 * nn + 40 + 1 ≤ 2 * (nn + 1) + 40; omega), (by show 8 + (5 + 11) + (100 * nn + 1400) ≤ 100 * (nn + 1) + 1400; omega)⟩) ⟨y_blind, va_recv hK hP (ci := 3) (q0 := 1) rfl (y_W_ob (by decide) (by decide)), fun U9 hU9 hW9 => y_pre hU9 hW9 hP hD hU hZ hS hAN hN0⟩ rfl rfl hl.1 rfl (lv_room (Nat.le_of_ble_eq_true rfl)) d_Reader_process_308 ⟨(by show 0 + (2) + (1) + (3 * (72 - cs77) + 2) ≤ 3 * (72 - aa) + 2; omega), (by show 0 + (17) + (72) + (100 * (72 - cs77) + 80) ≤ 100 * (72 - aa) + 80; omega)⟩) hS (fun q _ h => hFc q h) hFc (fun r_80 u t H1 locs ht hvm hw hB hz1 hk1 hS => ?_)
            obtain ⟨I81, T81, A81, O81, pl81, q81, s81, cq81, cs81⟩ := u
            dsimp only at hw hB
            rw [ht] at hB
            obtain ⟨hP, hD1, hac81⟩ := hB
            have hD : va_D Bq (y_W ad ar I81 T81 A81 O81 pl81) := hD1.weaken (fun _ q _ h => hFc q.1 h)
            generalize H1 = H at hP hS hac81 ⊢
            have hae81 := hac81
            try unfold y_ac at hae81
            try dsimp only at hae81
            obtain ⟨hmi, e2, hO81, fr81, hge81, hbr⟩ := hw
            rw [e2] at hP hD
            have hP : va_P (dC, dI) y_cl (y_W ad ar I81 T A81 O81 pl81) H := hP
            have hD : va_D Bq (y_W ad ar I81 T A81 O81 pl81) := hD
            have hbn := hmi.2.1
            dsimp only at hbn
            rcases hbr with ⟨rfl, hsl, hfl81⟩ | ⟨rfl, hsl, c81_, hsu81, hpr81⟩
            · unfold y_rc at hac81
              try dsimp only at hac81
              refine y_tight (k := 3 * (cs81 - aa) + 2) (n := 100 * (cs81 - aa) + 80) (by omega) (by omega) ?_
              refine lv_if_eq (tgt := 340) hx hb d_Reader_process_311 (by decide) (fun _ => ?_) (fun c82 => absurd (by decide) c82)
              refine lv_iconst (v := 0) hx hb d_Reader_process_340 (by decide) ?_
              have hfl : ∀ a, f0 a ≠ none → y_L pl81 a = f0 a := hfl81
              refine y_know (fun hy91 hy92 hy93 hy94 => ?_)
              have hac9 : y_rc s.heap.size (y_hs s.heap) aa cs81 1 H := ⟨by omega, by omega⟩
              refine W.widen (k := 3 * (72 - aa) + 2) (n := 100 * (72 - aa) + 80) (by omega) (by omega) ?_
              exact W.zret (v := 0) hx hb hr (rfl) (fun t ht hW => ⟨⟨0, (I81, T, A81, O81, pl81, (ln, s81, 1, cs81)), rfl, ⟨hmi, rfl, fun k hk => (hO81 k (Or.inr nofun)).trans ((hO3) k hk), (((m_fr.rf.tr fr3 (by decide)).tr fr77 (by decide)).tr fr81 (by decide)), by dsimp only; omega, Or.inl ⟨rfl, Nat.le_refl _, hfl⟩⟩, (by dsimp only; rw [ht]; exact ⟨hP, hD, hac9⟩)⟩, hS.F ht⟩) hS.2.2 d_Reader_process_341
            · subst hsl
              unfold y_rc at hac81
              try dsimp only at hac81
              refine y_tight (k := 3 * (cs81 - aa)) (n := 100 * (cs81 - aa)) (by omega) (by omega) ?_
              obtain ⟨G81, J81, C81, Gs81, S81, hdx81, hph81, hSp81, hGp81, hCp81, hcg81⟩ := hsu81.ph hph.2.1.1
              have hph := hph.tr hph81 hpeB
              refine lv_if_eq (tgt := 340) hx hb d_Reader_process_311 (by decide) (fun c83 => absurd c83 (by decide)) (fun _ => ?_)
              refine lv_aload_n hx hb d_Reader_process_314 rfl (lv_at hl 1 rfl) ?_
              refine lv_bipush (v := 44) hx hb d_Reader_process_315 (by decide) ?_
              have hFc := y_free hD hS hA
              refine va_calli (va_runV (As := [.int 44]) (rest := []) ⟨hx, hb, hml, hown, hts⟩ (c_Rd_expect l dC dI ar N0 z ad I81 T A81 O81 pl81 ln s81 ln cs81 (44) H.size (y_hs H) hmi (by decide)) (cwV 1 hts (x_goodV k_492 k_494 kp_7 k_2 k_495) rfl rfl rfl (by decide +kernel) ⟨Nat.le_trans (m := 40) (Nat.le_of_ble_eq_true rfl) (Nat.le_add_left 40 _), Nat.le_trans (m := 1400) (Nat.le_of_ble_eq_true rfl) (Nat.le_add_left 1400 _)⟩) ⟨y_blind, va_recv hK hP (ci := 3) (q0 := 1) rfl (y_W_ob (by decide) (by decide)), fun U9 hU9 hW9 => y_pre hU9 hW9 hP hD hU hZ hS hAN hN0⟩ rfl rfl hl.1 rfl (lv_room (Nat.le_of_ble_eq_true rfl)) d_Reader_process_317 ⟨(by show 3 * (cs81 - aa) + (0) ≤ 3 * (72 - aa) + 2; omega), (by show 100 * (cs81 - aa) + (0) ≤ 100 * (72 - aa) + 80; omega)⟩) hS (fun q _ h => hFc q h) hFc (fun r_84 u t H1 locs ht hvm hw hB hz1 hk1 hS => ?_)
              obtain ⟨I85, T85, A85, O85, pl85, q85, s85, cq85, cs85⟩ := u
              dsimp only at hw hB
              rw [ht] at hB
              obtain ⟨hP, hD1, hac85⟩ := hB
              have hD : va_D Bq (y_W ad ar I85 T85 A85 O85 pl85) := hD1.weaken (fun _ q _ h => hFc q.1 h)
              generalize H1 = H at hP hS hac85 ⊢
              have hae85 := hac85
              try unfold y_ac at hae85
              try dsimp only at hae85
              refine W.widen (k := 3 * (cs81 - aa)) (n := 100 * (cs81 - aa)) (by omega) (by omega) ?_
              obtain ⟨hmi, e2, e4, e5, fr85, e6, e7, hge85, hcc85, hr9⟩ := hw
              rw [e2, e4, e5] at hP hD
              rw [e6, e7] at hmi
              have hP : va_P (dC, dI) y_cl (y_W ad ar I85 T A85 O81 pl81) H := hP
              have hD : va_D Bq (y_W ad ar I85 T A85 O81 pl81) := hD
              have hbn := hmi.2.1
              dsimp only at hbn
              rcases hr9 with rfl | ⟨rfl, hex86⟩
              · refine lv_if_eq (tgt := 340) hx hb d_Reader_process_320 (by decide) (fun _ => ?_) (fun c87 => absurd (by decide) c87)
                refine lv_iconst (v := 0) hx hb d_Reader_process_340 (by decide) ?_
                have hfl : ∀ a, f0 a ≠ none → y_L pl81 a = f0 a := fun a ha => (hdx81.1 a ha).1
                refine y_know (fun hy91 hy92 hy93 hy94 => ?_)
                have hac9 : y_rc s.heap.size (y_hs s.heap) aa cs85 1 H := ⟨by omega, by omega⟩
                refine W.widen (k := 3 * (72 - aa) + 2) (n := 100 * (72 - aa) + 80) (by omega) (by omega) ?_
                exact W.zret (v := 0) hx hb hr (rfl) (fun t ht hW => ⟨⟨0, (I85, T, A85, O81, pl81, (ln, s85, 1, cs85)), rfl, ⟨hmi, rfl, fun k hk => (hO81 k (Or.inr nofun)).trans ((hO3) k hk), ((((m_fr.rf.tr fr3 (by decide)).tr fr77 (by decide)).tr fr81 (by decide)).tr fr85 (by decide)), by dsimp only; omega, Or.inl ⟨rfl, Nat.le_refl _, hfl⟩⟩, (by dsimp only; rw [ht]; exact ⟨hP, hD, hac9⟩)⟩, hS.F ht⟩) hS.2.2 d_Reader_process_341
              · refine lv_if_eq (tgt := 340) hx hb d_Reader_process_320 (by decide) (fun c88 => absurd c88 (by decide)) (fun _ => ?_)
                refine lv_aload_n hx hb d_Reader_process_323 rfl (lv_at hl 1 rfl) ?_
                refine lv_aload hx hb d_Reader_process_324 (lv_at hl 0 rfl) ?_
                refine lv_iload_n hx hb d_Reader_process_326 rfl (lv_at hl 3 rfl) ?_
                refine lv_iconst (v := 1) hx hb d_Reader_process_327 (by decide) ?_
                refine lv_iadd hx hb d_Reader_process_328 ?_
                refine W.eq (g2 := F0 m 329 ls [.int (Int32.ofNat (dp + 1)), .ref p3, .ref (ad 1)]) (by rw [← x_addN (a := dp) (b := 1)] <;> rfl) ?_
                refine lv_iload_n hx hb d_Reader_process_329 rfl (lv_at hl 4 rfl) ?_
                refine y_know (fun hya1 hya2 hya3 hya4 => ?_)
                have hFc := y_free hD hS hA
                refine va_calli (va_runV (As := [.ref p3, .int (Int32.ofNat (dp + 1)), .int gv]) (rest := []) ⟨hx, hb, hml, hown, hts⟩ (ihP l dC dI ar N0 z ad I85 T A85 O81 pl81 ln s85 cs85 f0 G81 J81 C81 Gs81 S81 (some p3) ((dp + 1)) (gv) H.size (y_hs H) hmi hdx81 (fun P9 hP9 => by cases hP9; exact ⟨hph.2.1.2.1.trans hg1, fun h9 => by rw [hph.2.1.2.2, hg2] at h9; omega⟩) hdN hrN) (cwV 3 hts (x_goodV k_557 k_332 kp_1 k_2 k_333) rfl rfl rfl (by decide +kernel) ⟨(by show 2 * nn + 40 + 1 ≤ 2 * (nn + 1) + 40; omega), (by show 8 + (5 + 11) + (100 * nn + 1400) ≤ 100 * (nn + 1) + 1400; omega)⟩) ⟨y_blind, va_recv hK hP (ci := 3) (q0 := 1) rfl (y_W_ob (by decide) (by decide)), fun U9 hU9 hW9 => y_pre hU9 hW9 hP hD hU hZ hS hAN hN0⟩ rfl rfl hl.1 rfl (lv_room (Nat.le_of_ble_eq_true rfl)) d_Reader_process_330 ⟨(by show 3 * (cs81 - aa) + (3 * (72 - cs85) + 2) ≤ 3 * (72 - aa) + 2; omega), (by show 100 * (cs81 - aa) + (100 * (72 - cs85) + 80) ≤ 100 * (72 - aa) + 80; omega)⟩) hS (fun q _ h => hFc q h) hFc (fun r_89 u t H1 locs ht hvm hw hB hz1 hk1 hS => ?_)
                obtain ⟨I90, T90, A90, O90, pl90, q90, s90, cq90, cs90⟩ := u
                dsimp only at hw hB
                rw [ht] at hB
                obtain ⟨hP, hD1, hac90⟩ := hB
                have hD : va_D Bq (y_W ad ar I90 T90 A90 O90 pl90) := hD1.weaken (fun _ q _ h => hFc q.1 h)
                generalize H1 = H at hP hS hac90 ⊢
                have hae90 := hac90
                try unfold y_ac at hae90
                try dsimp only at hae90
                obtain ⟨hmi, e2, hO90, fr90, hge90, hbr⟩ := hw
                rw [e2] at hP hD
                have hP : va_P (dC, dI) y_cl (y_W ad ar I90 T A90 O90 pl90) H := hP
                have hD : va_D Bq (y_W ad ar I90 T A90 O90 pl90) := hD
                have hbn := hmi.2.1
                dsimp only at hbn
                rcases hbr with ⟨rfl, hsl, hfl90⟩ | ⟨rfl, hsl, c90_, hsu90, hpr90⟩
                · unfold y_rc at hac90
                  try dsimp only at hac90
                  refine y_tight (k := 3 * (cs90 - aa) + 2) (n := 100 * (cs90 - aa) + 80) (by omega) (by omega) ?_
                  refine lv_if_eq (tgt := 340) hx hb d_Reader_process_333 (by decide) (fun _ => ?_) (fun c91 => absurd (by decide) c91)
                  refine lv_iconst (v := 0) hx hb d_Reader_process_340 (by decide) ?_
                  have hfl : ∀ a, f0 a ≠ none → y_L pl90 a = f0 a := hfl90
                  refine y_know (fun hy91 hy92 hy93 hy94 => ?_)
                  have hac9 : y_rc s.heap.size (y_hs s.heap) aa cs90 1 H := ⟨by omega, by omega⟩
                  refine W.widen (k := 3 * (72 - aa) + 2) (n := 100 * (72 - aa) + 80) (by omega) (by omega) ?_
                  exact W.zret (v := 0) hx hb hr (rfl) (fun t ht hW => ⟨⟨0, (I90, T, A90, O90, pl90, (ln, s90, 1, cs90)), rfl, ⟨hmi, rfl, fun k hk => (hO90 k (Or.inr nofun)).trans ((fun k hk => (hO81 k (Or.inr nofun)).trans ((hO3) k hk)) k hk), (((((m_fr.rf.tr fr3 (by decide)).tr fr77 (by decide)).tr fr81 (by decide)).tr fr85 (by decide)).tr fr90 (by decide)), by dsimp only; omega, Or.inl ⟨rfl, Nat.le_refl _, hfl⟩⟩, (by dsimp only; rw [ht]; exact ⟨hP, hD, hac9⟩)⟩, hS.F ht⟩) hS.2.2 d_Reader_process_341
                · subst hsl
                  unfold y_rc at hac90
                  try dsimp only at hac90
                  refine y_tight (k := 3 * (cs90 - aa)) (n := 100 * (cs90 - aa)) (by omega) (by omega) ?_
                  obtain ⟨G90, J90, C90, Gs90, S90, hdx90, hph90, hSp90, hGp90, hCp90, hcg90⟩ := hsu90.ph hph.2.1.1
                  have hph := hph.tr hph90 hpeB
                  refine lv_if_eq (tgt := 340) hx hb d_Reader_process_333 (by decide) (fun c92 => absurd c92 (by decide)) (fun _ => ?_)
                  refine lv_iconst (v := 1) hx hb d_Reader_process_336 (by decide) ?_
                  refine lv_goto (tgt := 341) hx hb d_Reader_process_337 (by decide) ?_
                  obtain ⟨hd9, hph9⟩ := hdx90.close (p := p3) (hph.2.1.2.1.trans hg1) (Or.inl ⟨(hSp90.trans (hSp81.trans y_un_s)), by rw [hph.2.1.2.2, hg2]; decide, by rw [hCp90, List.length_append]; simp⟩)
                  refine y_know (fun hy91 hy92 hy93 hy94 => ?_)
                  have hac9 : y_rc s.heap.size (y_hs s.heap) aa cs90 0 H := ⟨by omega, by omega⟩
                  refine W.widen (k := 3 * (72 - aa) + 2) (n := 100 * (72 - aa) + 80) (by omega) (by omega) ?_
                  exact W.zret (v := 1) hx hb hr (rfl) (fun t ht hW => ⟨⟨1, (I90, T, A90, O90, pl90, (ln, s90, 0, cs90)), rfl, ⟨hmi, rfl, fun k hk => (hO90 k (Or.inr nofun)).trans ((fun k hk => (hO81 k (Or.inr nofun)).trans ((hO3) k hk)) k hk), (((((m_fr.rf.tr fr3 (by decide)).tr fr77 (by decide)).tr fr81 (by decide)).tr fr85 (by decide)).tr fr90 (by decide)), by dsimp only; omega, Or.inr ⟨rfl, rfl, p3, y_SU.mk hzp3 hfx hcx hg1 hg6 hd9 (hph.tr hph9 hpeB) y_un_s, fun h9 => ((fun k => (hO90 k (Or.inr nofun)).trans ((fun k => hO81 k (Or.inr nofun)) k)) 0).trans (hpr h9)⟩⟩, (by dsimp only; rw [ht]; exact ⟨hP, hD, hac9⟩)⟩, hS.F ht⟩) hS.2.2 d_Reader_process_341
        · have hfp3 : y_L pl3 p3 = some (.inr (7, [.ref (z (3 + 9)), .null, .null, .null, .null, .ref t3, .null, .ref (z 21), .int chB, .int vaB])) := hfp3
          have hpeB : y_L pl3 p3 ≠ none := by rw [hfp3]; exact nofun
          have hpf : y_L pl3 p3 = some (.inr (7, y_Pf z C3 Gs3 p3 (J3 p3) none none (some t3) (z 21) chB vaB)) := by rw [hfp3]; unfold y_Pf; rw [hg2, hg3, hg4]; rfl
          refine lv_astore (lv' := [(4, .ref p3), (0, .ref (ad 1)), (1, .null), (2, .int (Int32.ofNat dp)), (3, .int gv)]) hx hb d_Reader_process_16 hl (by decide) rfl (fun ls hl => ?_)
          refine lv_aload hx hb d_Reader_process_18 (lv_at hl 0 rfl) ?_
          refine lv_ifnonnull (tgt := 28) hx hb d_Reader_process_20 (by decide) ?_
          refine va_gets hx hb (hZ.2.2.1.narrow hAN) hS hown (hts _ k_484) (fun _ h9 => h9) d_Reader_process_28 ?_
          refine lv_aload hx hb d_Reader_process_31 (lv_at hl 0 rfl) ?_
          refine d_gN (C := "ChannelMachine$Process") (F := F_Process) (N := 10) hx hb hts i_Process hown hK hP hfp3 0 rfl (by decide) (hU.1.2.1 _ kn_392) (fun _ h9 => h9) (v := .ref (z (3 + 9))) rfl d_Reader_process_33 ?_
          have hFc := y_free hD hS hA
          refine va_calli (va_runU (As := []) (rest := [.ref (z 20)]) ⟨hx, hb, hml, hown, hts⟩ (c_E_ordinal0 l dC dI ar N0 z ad I3 T A3 O3 pl3 9 H.size (y_hs H) (by decide)) (va_cwU (owner := "java/lang/Enum") 0 hts (x_goodU k_486 k_487 k_489 k_490 k_15 k_491) rfl rfl rfl rfl (by decide +kernel) ⟨Nat.le_trans (m := 40) (Nat.le_of_ble_eq_true rfl) (Nat.le_add_left 40 _), Nat.le_trans (m := 1400) (Nat.le_of_ble_eq_true rfl) (Nat.le_add_left 1400 _)⟩) ⟨y_blind, va_recvE (E := "ChannelMachine$Kind") (ad := fun i => z (3 + i)) (hZ.2.1.narrow hAN) (show 9 < 11 from by decide) hS, fun U9 hU9 hW9 => y_pre hU9 hW9 hP hD hU hZ hS hAN hN0⟩ rfl rfl hl.1 rfl (lv_room (Nat.le_of_ble_eq_true rfl)) d_Reader_process_36 ⟨(by show 0 + (2) + (0) ≤ 3 * (72 - aa) + 2; omega), (by show 0 + (17) + (0) ≤ 100 * (72 - aa) + 80; omega)⟩) hS (fun q _ h => hFc q h) hFc (fun r_93 u t H1 locs ht hvm hw hB hz1 hk1 hS => ?_)
          obtain ⟨I94, T94, A94, O94, pl94, q94, s94, cq94, cs94⟩ := u
          dsimp only at hw hB
          rw [ht] at hB
          obtain ⟨hP, hD1, hac94⟩ := hB
          have hD : va_D Bq (y_W ad ar I94 T94 A94 O94 pl94) := hD1.weaken (fun _ q _ h => hFc q.1 h)
          generalize H1 = H at hP hS hac94 ⊢
          have hae94 := hac94
          try unfold y_ac at hae94
          try dsimp only at hae94
          refine W.widen (k := 0 + (2)) (n := 0 + (17)) (by omega) (by omega) ?_
          obtain ⟨h9, hw⟩ := hw
          cases h9
          subst hw
          refine va_ti (t := z 20) (N := 11) (f := y_sw) (v := .int 3) hx hb (hZ.2.2.2.1.narrow hAN) hS (by unfold vp_in; decide) rfl d_Reader_process_39 ?_
          refine lv_tableIn (tgt := 150) hx hb d_Reader_process_40 (by decide) (by decide) (off := 110) rfl (by decide) ?_
          refine lv_aload_n hx hb d_Reader_process_150 rfl (lv_at hl 1 rfl) ?_
          refine lv_aload hx hb d_Reader_process_151 (lv_at hl 0 rfl) ?_
          refine lv_aload_n hx hb d_Reader_process_153 rfl (lv_at hl 1 rfl) ?_
          refine lv_iload_n hx hb d_Reader_process_154 rfl (lv_at hl 4 rfl) ?_
          have hFc := y_free hD hS hA
          refine va_calli (va_runV (As := [.int gv]) (rest := [.ref p3, .ref (ad 1)]) ⟨hx, hb, hml, hown, hts⟩ (c_Rd_endOfLast l dC dI ar N0 z ad I3 T A3 O3 pl3 ln s3 ln (aa + 1) (gv) H.size (y_hs H) hmi rfl) (cwV 1 hts (x_goodV k_496 k_498 kp_8 k_2 k_499) rfl rfl rfl (by decide +kernel) ⟨Nat.le_trans (m := 40) (Nat.le_of_ble_eq_true rfl) (Nat.le_add_left 40 _), Nat.le_trans (m := 1400) (Nat.le_of_ble_eq_true rfl) (Nat.le_add_left 1400 _)⟩) ⟨y_blind, va_recv hK hP (ci := 3) (q0 := 1) rfl (y_W_ob (by decide) (by decide)), fun U9 hU9 hW9 => y_pre hU9 hW9 hP hD hU hZ hS hAN hN0⟩ rfl rfl hl.1 rfl (lv_room (Nat.le_of_ble_eq_true rfl)) d_Reader_process_155 ⟨(by show 0 + (2) + (0) ≤ 3 * (72 - aa) + 2; omega), (by show 0 + (17) + (0) ≤ 100 * (72 - aa) + 80; omega)⟩) hS (fun q _ h => hFc q h) hFc (fun r_95 u t H1 locs ht hvm hw hB hz1 hk1 hS => ?_)
          obtain ⟨I96, T96, A96, O96, pl96, q96, s96, cq96, cs96⟩ := u
          dsimp only at hw hB
          rw [ht] at hB
          obtain ⟨hP, hD1, hac96⟩ := hB
          have hD : va_D Bq (y_W ad ar I96 T96 A96 O96 pl96) := hD1.weaken (fun _ q _ h => hFc q.1 h)
          generalize H1 = H at hP hS hac96 ⊢
          have hae96 := hac96
          try unfold y_ac at hae96
          try dsimp only at hae96
          refine W.widen (k := 0 + (2)) (n := 0 + (17)) (by omega) (by omega) ?_
          obtain ⟨hmi, e2, e4, e5, fr96, e6, e7, e8, en96, hen1, hen2, rfl⟩ := hw
          rw [e2, e4, e5] at hP hD
          rw [e6, e7, e8] at hmi
          have hP : va_P (dC, dI) y_cl (y_W ad ar I96 T A96 O3 pl3) H := hP
          have hD : va_D Bq (y_W ad ar I96 T A96 O3 pl3) := hD
          have hbn := hmi.2.1
          dsimp only at hbn
          refine y_know (fun hya1 hya2 hya3 hya4 => ?_)
          have hFc := y_free hD hS hA
          refine va_calli (va_runV (As := [.ref p3, .int (Int32.ofNat en96)]) (rest := []) ⟨hx, hb, hml, hown, hts⟩ (c_Rd_lastExpression l dC dI ar N0 z ad I96 T A96 O3 pl3 ln s96 ln (aa + 1) p3 en96 (.ref (z (3 + 9))) (.null) (.null) (.null) (.null) (.ref t3) (.null) (.ref (z 21)) (.int chB) (.int vaB) H.size (y_hs H) hmi hfp3 ⟨by omega, by omega⟩) (cwV 2 hts (x_goodV k_522 k_524 kp_13 k_2 k_525) rfl rfl rfl (by decide +kernel) ⟨Nat.le_trans (m := 40) (Nat.le_of_ble_eq_true rfl) (Nat.le_add_left 40 _), Nat.le_trans (m := 1400) (Nat.le_of_ble_eq_true rfl) (Nat.le_add_left 1400 _)⟩) ⟨y_blind, va_recv hK hP (ci := 3) (q0 := 1) rfl (y_W_ob (by decide) (by decide)), fun U9 hU9 hW9 => y_pre hU9 hW9 hP hD hU hZ hS hAN hN0⟩ rfl rfl hl.1 rfl (lv_room (Nat.le_of_ble_eq_true rfl)) d_Reader_process_158 ⟨(by show 0 + (2) + (1) ≤ 3 * (72 - aa) + 2; omega), (by show 0 + (17) + (72) ≤ 100 * (72 - aa) + 80; omega)⟩) hS (fun q _ h => hFc q h) hFc (fun r_97 u t H1 locs ht hvm hw hB hz1 hk1 hS => ?_)
          obtain ⟨I98, T98, A98, O98, pl98, q98, s98, cq98, cs98⟩ := u
          dsimp only at hw hB
          rw [ht] at hB
          obtain ⟨hP, hD1, hac98⟩ := hB
          have hD : va_D Bq (y_W ad ar I98 T98 A98 O98 pl98) := hD1.weaken (fun _ q _ h => hFc q.1 h)
          generalize H1 = H at hP hS hac98 ⊢
          have hae98 := hac98
          try unfold y_ac at hae98
          try dsimp only at hae98
          obtain ⟨hmi, e2, e4, fr98, e6, e7, hge98, hr9, q98_, nq, hq9, hzq, hnq, hokq, hqq, hfp3, hoq⟩ := hw
          rw [e2, e4] at hP hD
          rw [e6, e7] at hmi
          have hP : va_P (dC, dI) y_cl (y_W ad ar I98 T A98 O3 pl98) H := hP
          have hD : va_D Bq (y_W ad ar I98 T A98 O3 pl98) := hD
          have hbn := hmi.2.1
          dsimp only at hbn
          rcases hr9 with rfl | rfl
          · have hfl : ∀ a, f0 a ≠ none → y_L pl98 a = f0 a := (hdxB.keep1 hg1 (fun b hb h2 => hoq b (fun e => hb (by rw [e]; exact hzq)) h2))
            refine y_know (fun hy91 hy92 hy93 hy94 => ?_)
            have hac9 : y_rc s.heap.size (y_hs s.heap) aa cs98 1 H := ⟨by omega, by omega⟩
            refine W.widen (k := 3 * (72 - aa) + 2) (n := 100 * (72 - aa) + 80) (by omega) (by omega) ?_
            exact W.zret (v := 0) hx hb hr (rfl) (fun t ht hW => ⟨⟨0, (I98, T, A98, O3, pl98, (ln, s98, 1, cs98)), rfl, ⟨hmi, rfl, hO3, (((m_fr.rf.tr fr3 (by decide)).tr fr96 (by decide)).tr fr98 (by decide)), by dsimp only; omega, Or.inl ⟨rfl, Nat.le_refl _, hfl⟩⟩, (by dsimp only; rw [ht]; exact ⟨hP, hD, hac9⟩)⟩, hS.F ht⟩) hS.2.2 d_Reader_process_161
          · obtain ⟨hd98, hph98⟩ := y_DX.code (f' := y_L pl98) (s' := 0) (q := q98_) hdxB hg1 hpf hzq hnq hokq hqq (by rw [hfp3]; unfold y_Pf; rw [hg2, hg3, hg4]; rfl) hoq (fun _ => ⟨fun h9 => hchB (by rw [hg2] at h9; exact h9), fun h9 => by rw [hg2] at h9; omega⟩)
            have hph := hph98
            refine y_know (fun hy91 hy92 hy93 hy94 => ?_)
            have hac9 : y_rc s.heap.size (y_hs s.heap) aa cs98 0 H := ⟨by omega, by omega⟩
            refine W.widen (k := 3 * (72 - aa) + 2) (n := 100 * (72 - aa) + 80) (by omega) (by omega) ?_
            exact W.zret (v := 1) hx hb hr (rfl) (fun t ht hW => ⟨⟨1, (I98, T, A98, O3, pl98, (ln, s98, 0, cs98)), rfl, ⟨hmi, rfl, hO3, (((m_fr.rf.tr fr3 (by decide)).tr fr96 (by decide)).tr fr98 (by decide)), by dsimp only; omega, Or.inr ⟨rfl, rfl, p3, y_SU.mk hzp3 hfx hcx hg1 hg6 hd98 hph y_un_s, hpr⟩⟩, (by dsimp only; rw [ht]; exact ⟨hP, hD, hac9⟩)⟩, hS.F ht⟩) hS.2.2 d_Reader_process_161
        · have hfp3 : y_L pl3 p3 = some (.inr (7, [.ref (z (3 + 10)), .null, .null, .null, .null, .ref t3, .null, .ref (z 21), .int chB, .int vaB])) := hfp3
          have hpeB : y_L pl3 p3 ≠ none := by rw [hfp3]; exact nofun
          have hpf : y_L pl3 p3 = some (.inr (7, y_Pf z C3 Gs3 p3 (J3 p3) none none (some t3) (z 21) chB vaB)) := by rw [hfp3]; unfold y_Pf; rw [hg2, hg3, hg4]; rfl
          refine lv_astore (lv' := [(4, .ref p3), (0, .ref (ad 1)), (1, .null), (2, .int (Int32.ofNat dp)), (3, .int gv)]) hx hb d_Reader_process_16 hl (by decide) rfl (fun ls hl => ?_)
          refine lv_aload hx hb d_Reader_process_18 (lv_at hl 0 rfl) ?_
          refine lv_ifnonnull (tgt := 28) hx hb d_Reader_process_20 (by decide) ?_
          refine va_gets hx hb (hZ.2.2.1.narrow hAN) hS hown (hts _ k_484) (fun _ h9 => h9) d_Reader_process_28 ?_
          refine lv_aload hx hb d_Reader_process_31 (lv_at hl 0 rfl) ?_
          refine d_gN (C := "ChannelMachine$Process") (F := F_Process) (N := 10) hx hb hts i_Process hown hK hP hfp3 0 rfl (by decide) (hU.1.2.1 _ kn_392) (fun _ h9 => h9) (v := .ref (z (3 + 10))) rfl d_Reader_process_33 ?_
          have hFc := y_free hD hS hA
          refine va_calli (va_runU (As := []) (rest := [.ref (z 20)]) ⟨hx, hb, hml, hown, hts⟩ (c_E_ordinal0 l dC dI ar N0 z ad I3 T A3 O3 pl3 10 H.size (y_hs H) (by decide)) (va_cwU (owner := "java/lang/Enum") 0 hts (x_goodU k_486 k_487 k_489 k_490 k_15 k_491) rfl rfl rfl rfl (by decide +kernel) ⟨Nat.le_trans (m := 40) (Nat.le_of_ble_eq_true rfl) (Nat.le_add_left 40 _), Nat.le_trans (m := 1400) (Nat.le_of_ble_eq_true rfl) (Nat.le_add_left 1400 _)⟩) ⟨y_blind, va_recvE (E := "ChannelMachine$Kind") (ad := fun i => z (3 + i)) (hZ.2.1.narrow hAN) (show 10 < 11 from by decide) hS, fun U9 hU9 hW9 => y_pre hU9 hW9 hP hD hU hZ hS hAN hN0⟩ rfl rfl hl.1 rfl (lv_room (Nat.le_of_ble_eq_true rfl)) d_Reader_process_36 ⟨(by show 0 + (2) + (0) ≤ 3 * (72 - aa) + 2; omega), (by show 0 + (17) + (0) ≤ 100 * (72 - aa) + 80; omega)⟩) hS (fun q _ h => hFc q h) hFc (fun r_99 u t H1 locs ht hvm hw hB hz1 hk1 hS => ?_)
          obtain ⟨I100, T100, A100, O100, pl100, q100, s100, cq100, cs100⟩ := u
          dsimp only at hw hB
          rw [ht] at hB
          obtain ⟨hP, hD1, hac100⟩ := hB
          have hD : va_D Bq (y_W ad ar I100 T100 A100 O100 pl100) := hD1.weaken (fun _ q _ h => hFc q.1 h)
          generalize H1 = H at hP hS hac100 ⊢
          have hae100 := hac100
          try unfold y_ac at hae100
          try dsimp only at hae100
          refine W.widen (k := 0 + (2)) (n := 0 + (17)) (by omega) (by omega) ?_
          obtain ⟨h9, hw⟩ := hw
          cases h9
          subst hw
          refine va_ti (t := z 20) (N := 11) (f := y_sw) (v := .int 7) hx hb (hZ.2.2.2.1.narrow hAN) hS (by unfold vp_in; decide) rfl d_Reader_process_39 ?_
          refine lv_tableIn (tgt := 239) hx hb d_Reader_process_40 (by decide) (by decide) (off := 199) rfl (by decide) ?_
          refine lv_aload_n hx hb d_Reader_process_239 rfl (lv_at hl 1 rfl) ?_
          refine lv_aload hx hb d_Reader_process_240 (lv_at hl 0 rfl) ?_
          refine lv_iload_n hx hb d_Reader_process_242 rfl (lv_at hl 3 rfl) ?_
          refine y_know (fun hya1 hya2 hya3 hya4 => ?_)
          have hFc := y_free hD hS hA
          refine va_calli (va_runV (As := [.ref p3, .int (Int32.ofNat dp)]) (rest := []) ⟨hx, hb, hml, hown, hts⟩ (ihG l dC dI ar N0 z ad I3 T A3 O3 pl3 ln s3 (aa + 1) f0 G3 J3 C3 Gs3 S3 p3 dp H.size (y_hs H) hmi hdxB hg1 hdT hrT hg4 hg2) (cwV 2 hts (x_goodV k_558 k_560 kp_17 k_2 k_561) rfl rfl rfl (by decide +kernel) ⟨(by show 2 * nn + 41 + 1 ≤ 2 * (nn + 1) + 40; omega), (by show 8 + (7 + 11) + (100 * nn + 1440) ≤ 100 * (nn + 1) + 1400; omega)⟩) ⟨y_blind, va_recv hK hP (ci := 3) (q0 := 1) rfl (y_W_ob (by decide) (by decide)), fun U9 hU9 hW9 => y_pre hU9 hW9 hP hD hU hZ hS hAN hN0⟩ rfl rfl hl.1 rfl (lv_room (Nat.le_of_ble_eq_true rfl)) d_Reader_process_243 ⟨(by show 0 + (2) + (3 * (72 - (aa + 1)) + 2) ≤ 3 * (72 - aa) + 2; omega), (by show 0 + (17) + (100 * (72 - (aa + 1)) + 80) ≤ 100 * (72 - aa) + 80; omega)⟩) hS (fun q _ h => hFc q h) hFc (fun r_101 u t H1 locs ht hvm hw hB hz1 hk1 hS => ?_)
          obtain ⟨I102, T102, A102, O102, pl102, q102, s102, cq102, cs102⟩ := u
          dsimp only at hw hB
          rw [ht] at hB
          obtain ⟨hP, hD1, hac102⟩ := hB
          have hD : va_D Bq (y_W ad ar I102 T102 A102 O102 pl102) := hD1.weaken (fun _ q _ h => hFc q.1 h)
          generalize H1 = H at hP hS hac102 ⊢
          have hae102 := hac102
          try unfold y_ac at hae102
          try dsimp only at hae102
          obtain ⟨hmi, e2, hO102, fr102, hge102, hbr⟩ := hw
          rw [e2] at hP hD
          have hP : va_P (dC, dI) y_cl (y_W ad ar I102 T A102 O102 pl102) H := hP
          have hD : va_D Bq (y_W ad ar I102 T A102 O102 pl102) := hD
          have hbn := hmi.2.1
          dsimp only at hbn
          rcases hbr with ⟨rfl, hsl, hfl102⟩ | ⟨rfl, hsl, G102, J102, C102, Gs102, S102, hdx102, hph102, hSp102⟩
          · unfold y_rc at hac102
            try dsimp only at hac102
            refine y_tight (k := 3 * (cs102 - aa) + 2) (n := 100 * (cs102 - aa) + 80) (by omega) (by omega) ?_
            refine lv_if_eq (tgt := 262) hx hb d_Reader_process_246 (by decide) (fun _ => ?_) (fun c103 => absurd (by decide) c103)
            refine lv_iconst (v := 0) hx hb d_Reader_process_262 (by decide) ?_
            have hfl : ∀ a, f0 a ≠ none → y_L pl102 a = f0 a := hfl102
            refine y_know (fun hy91 hy92 hy93 hy94 => ?_)
            have hac9 : y_rc s.heap.size (y_hs s.heap) aa cs102 1 H := ⟨by omega, by omega⟩
            refine W.widen (k := 3 * (72 - aa) + 2) (n := 100 * (72 - aa) + 80) (by omega) (by omega) ?_
            exact W.zret (v := 0) hx hb hr (rfl) (fun t ht hW => ⟨⟨0, (I102, T, A102, O102, pl102, (ln, s102, 1, cs102)), rfl, ⟨hmi, rfl, fun k hk => (hO102 k).trans ((hO3) k hk), ((m_fr.rf.tr fr3 (by decide)).tr fr102 (by decide)), by dsimp only; omega, Or.inl ⟨rfl, Nat.le_refl _, hfl⟩⟩, (by dsimp only; rw [ht]; exact ⟨hP, hD, hac9⟩)⟩, hS.F ht⟩) hS.2.2 d_Reader_process_263
          · subst hsl
            unfold y_rc at hac102
            try dsimp only at hac102
            refine y_tight (k := 3 * (cs102 - aa)) (n := 100 * (cs102 - aa)) (by omega) (by omega) ?_
            have hph := hph102
            refine lv_if_eq (tgt := 262) hx hb d_Reader_process_246 (by decide) (fun c104 => absurd c104 (by decide)) (fun _ => ?_)
            refine lv_aload_n hx hb d_Reader_process_249 rfl (lv_at hl 1 rfl) ?_
            refine lv_bipush (v := 93) hx hb d_Reader_process_250 (by decide) ?_
            have hFc := y_free hD hS hA
            refine va_calli (va_runV (As := [.int 93]) (rest := []) ⟨hx, hb, hml, hown, hts⟩ (c_Rd_expect l dC dI ar N0 z ad I102 T A102 O102 pl102 ln s102 ln cs102 (93) H.size (y_hs H) hmi (by decide)) (cwV 1 hts (x_goodV k_492 k_494 kp_7 k_2 k_495) rfl rfl rfl (by decide +kernel) ⟨Nat.le_trans (m := 40) (Nat.le_of_ble_eq_true rfl) (Nat.le_add_left 40 _), Nat.le_trans (m := 1400) (Nat.le_of_ble_eq_true rfl) (Nat.le_add_left 1400 _)⟩) ⟨y_blind, va_recv hK hP (ci := 3) (q0 := 1) rfl (y_W_ob (by decide) (by decide)), fun U9 hU9 hW9 => y_pre hU9 hW9 hP hD hU hZ hS hAN hN0⟩ rfl rfl hl.1 rfl (lv_room (Nat.le_of_ble_eq_true rfl)) d_Reader_process_252 ⟨(by show 3 * (cs102 - aa) + (0) ≤ 3 * (72 - aa) + 2; omega), (by show 100 * (cs102 - aa) + (0) ≤ 100 * (72 - aa) + 80; omega)⟩) hS (fun q _ h => hFc q h) hFc (fun r_105 u t H1 locs ht hvm hw hB hz1 hk1 hS => ?_)
            obtain ⟨I106, T106, A106, O106, pl106, q106, s106, cq106, cs106⟩ := u
            dsimp only at hw hB
            rw [ht] at hB
            obtain ⟨hP, hD1, hac106⟩ := hB
            have hD : va_D Bq (y_W ad ar I106 T106 A106 O106 pl106) := hD1.weaken (fun _ q _ h => hFc q.1 h)
            generalize H1 = H at hP hS hac106 ⊢
            have hae106 := hac106
            try unfold y_ac at hae106
            try dsimp only at hae106
            refine W.widen (k := 3 * (cs102 - aa)) (n := 100 * (cs102 - aa)) (by omega) (by omega) ?_
            obtain ⟨hmi, e2, e4, e5, fr106, e6, e7, hge106, hcc106, hr9⟩ := hw
            rw [e2, e4, e5] at hP hD
            rw [e6, e7] at hmi
            have hP : va_P (dC, dI) y_cl (y_W ad ar I106 T A106 O102 pl102) H := hP
            have hD : va_D Bq (y_W ad ar I106 T A106 O102 pl102) := hD
            have hbn := hmi.2.1
            dsimp only at hbn
            rcases hr9 with rfl | ⟨rfl, hex107⟩
            · refine lv_if_eq (tgt := 262) hx hb d_Reader_process_255 (by decide) (fun _ => ?_) (fun c108 => absurd (by decide) c108)
              refine lv_iconst (v := 0) hx hb d_Reader_process_262 (by decide) ?_
              have hfl : ∀ a, f0 a ≠ none → y_L pl102 a = f0 a := fun a ha => (hdx102.1 a ha).1
              refine y_know (fun hy91 hy92 hy93 hy94 => ?_)
              have hac9 : y_rc s.heap.size (y_hs s.heap) aa cs106 1 H := ⟨by omega, by omega⟩
              refine W.widen (k := 3 * (72 - aa) + 2) (n := 100 * (72 - aa) + 80) (by omega) (by omega) ?_
              exact W.zret (v := 0) hx hb hr (rfl) (fun t ht hW => ⟨⟨0, (I106, T, A106, O102, pl102, (ln, s106, 1, cs106)), rfl, ⟨hmi, rfl, fun k hk => (hO102 k).trans ((hO3) k hk), (((m_fr.rf.tr fr3 (by decide)).tr fr102 (by decide)).tr fr106 (by decide)), by dsimp only; omega, Or.inl ⟨rfl, Nat.le_refl _, hfl⟩⟩, (by dsimp only; rw [ht]; exact ⟨hP, hD, hac9⟩)⟩, hS.F ht⟩) hS.2.2 d_Reader_process_263
            · refine lv_if_eq (tgt := 262) hx hb d_Reader_process_255 (by decide) (fun c109 => absurd c109 (by decide)) (fun _ => ?_)
              refine lv_iconst (v := 1) hx hb d_Reader_process_258 (by decide) ?_
              refine lv_goto (tgt := 263) hx hb d_Reader_process_259 (by decide) ?_
              obtain ⟨hd9, hph9⟩ := hdx102.close (p := p3) (hph.2.1.2.1.trans hg1) (Or.inr (by rw [hph.2.1.2.2, hg2]; decide))
              refine y_know (fun hy91 hy92 hy93 hy94 => ?_)
              have hac9 : y_rc s.heap.size (y_hs s.heap) aa cs106 0 H := ⟨by omega, by omega⟩
              refine W.widen (k := 3 * (72 - aa) + 2) (n := 100 * (72 - aa) + 80) (by omega) (by omega) ?_
              exact W.zret (v := 1) hx hb hr (rfl) (fun t ht hW => ⟨⟨1, (I106, T, A106, O102, pl102, (ln, s106, 0, cs106)), rfl, ⟨hmi, rfl, fun k hk => (hO102 k).trans ((hO3) k hk), (((m_fr.rf.tr fr3 (by decide)).tr fr102 (by decide)).tr fr106 (by decide)), by dsimp only; omega, Or.inr ⟨rfl, rfl, p3, y_SU.mk hzp3 hfx hcx hg1 hg6 hd9 (hph.tr hph9 hpeB) y_un_s, fun h9 => ((fun k => hO102 k) 0).trans (hpr h9)⟩⟩, (by dsimp only; rw [ht]; exact ⟨hP, hD, hac9⟩)⟩, hS.F ht⟩) hS.2.2 d_Reader_process_263
    · have c_1 : ¬ dp ≤ 7 := fun h9 => c_1 ((x_leN (a := dp) (b := 7) (by omega) (by omega)).mpr h9)
      refine lv_null hx hb d_Reader_process_6 ?_
      refine lv_goto (tgt := 16) hx hb d_Reader_process_7 (by decide) ?_
      refine lv_astoreN (lv' := [(4, .null), (0, .ref (ad 1)), (1, .null), (2, .int (Int32.ofNat dp)), (3, .int gv)]) hx hb d_Reader_process_16 hl (by decide) rfl (fun ls hl => ?_)
      refine lv_aloadN hx hb d_Reader_process_18 (lv_at hl 0 rfl) ?_
      refine lv_ifnonnullN hx hb d_Reader_process_20 ?_
      refine lv_aload_n hx hb d_Reader_process_23 rfl (lv_at hl 1 rfl) ?_
      have hFc := y_free hD hS hA
      refine va_calli (va_runV (As := []) (rest := []) ⟨hx, hb, hml, hown, hts⟩ (c_Rd_refuse l dC dI ar N0 z ad I T A O pl ln cl ln aa s.heap.size (y_hs s.heap) hmi) (cwV 0 hts (x_goodV k_477 k_479 kp_6 k_2 k_480) rfl rfl rfl (by decide +kernel) ⟨Nat.le_trans (m := 40) (Nat.le_of_ble_eq_true rfl) (Nat.le_add_left 40 _), Nat.le_trans (m := 1400) (Nat.le_of_ble_eq_true rfl) (Nat.le_add_left 1400 _)⟩) ⟨y_blind, va_recv hK hP (ci := 3) (q0 := 1) rfl (y_W_ob (by decide) (by decide)), fun U9 hU9 hW9 => y_pre hU9 hW9 hP hD hU hZ hS hAN hN0⟩ rfl rfl hl.1 rfl (lv_room (Nat.le_of_ble_eq_true rfl)) d_Reader_process_24 ⟨(by show 0 + (0) ≤ 3 * (72 - aa) + 2; omega), (by show 0 + (0) ≤ 100 * (72 - aa) + 80; omega)⟩) hS (fun q _ h => hFc q h) hFc (fun r_110 u t H1 locs ht hvm hw hB hz1 hk1 hS => ?_)
      obtain ⟨I111, T111, A111, O111, pl111, q111, s111, cq111, cs111⟩ := u
      dsimp only at hw hB
      rw [ht] at hB
      obtain ⟨hP, hD1, hac111⟩ := hB
      have hD : va_D Bq (y_W ad ar I111 T111 A111 O111 pl111) := hD1.weaken (fun _ q _ h => hFc q.1 h)
      generalize H1 = H at hP hS hac111 ⊢
      have hae111 := hac111
      try unfold y_ac at hae111
      try dsimp only at hae111
      refine W.widen (k := 0) (n := 0) (by omega) (by omega) ?_
      obtain ⟨hmi, e2, e4, e5, fr111, e6, e7, hge111, hcc111, hr9⟩ := hw
      rw [e2, e4, e5] at hP hD
      rw [e6, e7] at hmi
      have hP : va_P (dC, dI) y_cl (y_W ad ar I111 T A111 O pl) H := hP
      have hD : va_D Bq (y_W ad ar I111 T A111 O pl) := hD
      have hbn := hmi.2.1
      dsimp only at hbn
      obtain rfl := hr9
      have hfl : ∀ a, f0 a ≠ none → y_L pl a = f0 a := fun a ha => (hdx.1 a ha).1
      refine y_know (fun hy91 hy92 hy93 hy94 => ?_)
      have hac9 : y_rc s.heap.size (y_hs s.heap) aa cs111 1 H := ⟨by omega, by omega⟩
      refine W.widen (k := 3 * (72 - aa) + 2) (n := 100 * (72 - aa) + 80) (by omega) (by omega) ?_
      exact W.zret (v := 0) hx hb hr (rfl) (fun t ht hW => ⟨⟨0, (I111, T, A111, O, pl, (ln, s111, 1, cs111)), rfl, ⟨hmi, rfl, fun k hk => rfl, (m_fr.rf.tr fr111 (by decide)), by dsimp only; omega, Or.inl ⟨rfl, Nat.le_refl _, hfl⟩⟩, (by dsimp only; rw [ht]; exact ⟨hP, hD, hac9⟩)⟩, hS.F ht⟩) hS.2.2 d_Reader_process_27
  · refine Met.ofW (cc := prog_8_method_13_code) (maxL := 5) (ret := (some .boolean)) (by decide) rfl ?_
    intro p e s m args below meth c s₁ B hml hv
    obtain ⟨rfl, hsz, hN0, hP, hU, hZ, hD0, hw0⟩ := hv
    have hK := hU.2.1
    have hx := B.exec
    have hb := B.bytes
    have hr := B.returns
    have hts : ∀ w ∈ x_T, w.before ([.ref (ad 1), va_rf (some P), .int (Int32.ofNat dp), .int gv] : List Value).toArray s = true := fun w h => atoms_spec (ws := (Jvm.Cond.code ({ cls := "ChannelMachine$Reader", name := "process", desc := "(LChannelMachine$Process;IZ)Z" } : Jvm.MethodName) prog_8_method_13_code (5 : Nat) (Option.some Jvm.ClassFile.FieldType.boolean)) :: x_T) B.pre w (List.mem_cons_of_mem _ h)
    have hown : s.vm.findClass "ChannelMachine$Reader" = some m.cls := findClass_of_methodNamed B.named
    have hlocks := B.notSynchronized
    subst hsz
    subst hw0
    have hD := hD0.self (sz := s.heap.size)
    have hAN := x_AN hD0 hN0
    generalize hAe : va_A (y_W ad ar I T A O pl) s.heap.size = Bq at hD hAN ⊢
    have hA : ∀ q : Nat, s.heap.size ≤ q → Bq q := fun q h => by rw [← hAe]; exact Or.inr h
    have hS : va_S Bq s.heap s.heap [] := va_S.rf
    have hl := lv_entry ([.ref (ad 1), va_rf (some P), .int (Int32.ofNat dp), .int gv]) (n := 5) (Nat.le_of_ble_eq_true rfl)
    rw [lg_entry_eq]
    generalize (lg_sl ([.ref (ad 1), va_rf (some P), .int (Int32.ofNat dp), .int gv]) ++ List.replicate (5 - (lg_sl ([.ref (ad 1), va_rf (some P), .int (Int32.ofNat dp), .int gv])).length) Slot.unset).toArray = ls at hl ⊢
    have hl : lv_has ls 5 [(0, .ref (ad 1)), (1, .ref P), (2, .int (Int32.ofNat dp)), (3, .int gv)] := hl
    have hbn := hmi.2.1
    dsimp only at hbn
    refine lv_iload_n hx hb d_Reader_process_0 rfl (lv_at hl 2 rfl) ?_
    refine lv_bipush (v := 7) hx hb d_Reader_process_1 (by decide) ?_
    refine lv_icmp_le (tgt := 10) hx hb d_Reader_process_3 (by decide) (fun c_112 => ?_) (fun c_112 => ?_)
    · have c_112 : dp ≤ 7 := (x_leN (a := dp) (b := 7) (by omega) (by omega)).mp c_112
      have hdT : 1 ≤ dp ∧ dp ≤ 7 := by omega
      have hrT : 7 - dp < nn := by omega
      have hdN : 1 ≤ dp + 1 ∧ dp + 1 ≤ 8 := by omega
      have hrN : 8 - (dp + 1) < nn := by omega
      refine lv_aload_n hx hb d_Reader_process_10 rfl (lv_at hl 0 rfl) ?_
      refine lv_aload_n hx hb d_Reader_process_11 rfl (lv_at hl 1 rfl) ?_
      refine lv_iload_n hx hb d_Reader_process_12 rfl (lv_at hl 2 rfl) ?_
      refine y_know (fun hya1 hya2 hya3 hya4 => ?_)
      have hFc := y_free hD hS hA
      refine va_callq (va_runV (As := [.ref P, .int (Int32.ofNat dp)]) (rest := []) ⟨hx, hb, hml, hown, hts⟩ (c_Rd_begin l dC dI ar N0 z ad I T A O pl ln cl ln aa f0 G J C Gs S (some P) dp s.heap.size (y_hs s.heap) hmi hdx (by omega) hpar) (cwV 2 hts (x_goodV k_334 k_336 kp_2 k_2 k_337) rfl rfl rfl (by decide +kernel) ⟨Nat.le_trans (m := 40) (Nat.le_of_ble_eq_true rfl) (Nat.le_add_left 40 _), Nat.le_trans (m := 1400) (Nat.le_of_ble_eq_true rfl) (Nat.le_add_left 1400 _)⟩) ⟨y_blind, va_recv hK hP (ci := 3) (q0 := 1) rfl (y_W_ob (by decide) (by decide)), fun U9 hU9 hW9 => y_pre hU9 hW9 hP hD hU hZ hS hAN hN0⟩ rfl rfl hl.1 rfl (lv_room (Nat.le_of_ble_eq_true rfl)) d_Reader_process_13 ⟨(by show 0 + (2) ≤ 3 * (72 - aa) + 2; omega), (by show 0 + (17) ≤ 100 * (72 - aa) + 80; omega)⟩) hS (fun q _ h => hFc q h) hFc (fun r_113 u t H1 locs ht hvm hw hB hz1 hk1 hS => ?_)
      obtain ⟨I114, T114, A114, O114, pl114, q114, s114, cq114, cs114⟩ := u
      dsimp only at hw hB
      rw [ht] at hB
      obtain ⟨hP, hD1, hac114⟩ := hB
      have hD : va_D Bq (y_W ad ar I114 T114 A114 O114 pl114) := hD1.weaken (fun _ q _ h => hFc q.1 h)
      generalize H1 = H at hP hS hac114 ⊢
      have hae114 := hac114
      try unfold y_ac at hae114
      try dsimp only at hae114
      obtain ⟨hmi, e6, e7, e2, hO114, fr114, hbr⟩ := hw
      rw [e2] at hP hD
      rw [e6, e7] at hmi
      have hP : va_P (dC, dI) y_cl (y_W ad ar I114 T A114 O114 pl114) H := hP
      have hD : va_D Bq (y_W ad ar I114 T A114 O114 pl114) := hD
      rcases hbr with ⟨rfl, epl, eat⟩ | ⟨eat, p114, t114, jj9, chB, vaB, G114, J114, C114, Gs114, S114, rfl, hzp114, hdxB, hfx, hcx, ⟨hg1, hg2, hg3, hg4, hg5, hg6⟩, hfp114, hpr, hjj, hchB⟩
      · rw [epl] at hP hD
        rw [eat] at hmi
        refine W.eq (g2 := F0 m 16 ls [.null]) rfl ?_
        have hP : va_P (dC, dI) y_cl (y_W ad ar I114 T A114 O114 pl) H := hP
        have hD : va_D Bq (y_W ad ar I114 T A114 O114 pl) := hD
        have hbn := hmi.2.1
        dsimp only at hbn
        refine lv_astoreN (lv' := [(4, .null), (0, .ref (ad 1)), (1, .ref P), (2, .int (Int32.ofNat dp)), (3, .int gv)]) hx hb d_Reader_process_16 hl (by decide) rfl (fun ls hl => ?_)
        refine lv_aloadN hx hb d_Reader_process_18 (lv_at hl 0 rfl) ?_
        refine lv_ifnonnullN hx hb d_Reader_process_20 ?_
        refine lv_aload_n hx hb d_Reader_process_23 rfl (lv_at hl 1 rfl) ?_
        have hFc := y_free hD hS hA
        refine va_calli (va_runV (As := []) (rest := []) ⟨hx, hb, hml, hown, hts⟩ (c_Rd_refuse l dC dI ar N0 z ad I114 T A114 O114 pl ln s114 ln aa H.size (y_hs H) hmi) (cwV 0 hts (x_goodV k_477 k_479 kp_6 k_2 k_480) rfl rfl rfl (by decide +kernel) ⟨Nat.le_trans (m := 40) (Nat.le_of_ble_eq_true rfl) (Nat.le_add_left 40 _), Nat.le_trans (m := 1400) (Nat.le_of_ble_eq_true rfl) (Nat.le_add_left 1400 _)⟩) ⟨y_blind, va_recv hK hP (ci := 3) (q0 := 1) rfl (y_W_ob (by decide) (by decide)), fun U9 hU9 hW9 => y_pre hU9 hW9 hP hD hU hZ hS hAN hN0⟩ rfl rfl hl.1 rfl (lv_room (Nat.le_of_ble_eq_true rfl)) d_Reader_process_24 ⟨(by show 0 + (2) + (0) ≤ 3 * (72 - aa) + 2; omega), (by show 0 + (17) + (0) ≤ 100 * (72 - aa) + 80; omega)⟩) hS (fun q _ h => hFc q h) hFc (fun r_115 u t H1 locs ht hvm hw hB hz1 hk1 hS => ?_)
        obtain ⟨I116, T116, A116, O116, pl116, q116, s116, cq116, cs116⟩ := u
        dsimp only at hw hB
        rw [ht] at hB
        obtain ⟨hP, hD1, hac116⟩ := hB
        have hD : va_D Bq (y_W ad ar I116 T116 A116 O116 pl116) := hD1.weaken (fun _ q _ h => hFc q.1 h)
        generalize H1 = H at hP hS hac116 ⊢
        have hae116 := hac116
        try unfold y_ac at hae116
        try dsimp only at hae116
        refine W.widen (k := 0 + (2)) (n := 0 + (17)) (by omega) (by omega) ?_
        obtain ⟨hmi, e2, e4, e5, fr116, e6, e7, hge116, hcc116, hr9⟩ := hw
        rw [e2, e4, e5] at hP hD
        rw [e6, e7] at hmi
        have hP : va_P (dC, dI) y_cl (y_W ad ar I116 T A116 O114 pl) H := hP
        have hD : va_D Bq (y_W ad ar I116 T A116 O114 pl) := hD
        have hbn := hmi.2.1
        dsimp only at hbn
        obtain rfl := hr9
        have hfl : ∀ a, f0 a ≠ none → y_L pl a = f0 a := fun a ha => (hdx.1 a ha).1
        refine y_know (fun hy91 hy92 hy93 hy94 => ?_)
        have hac9 : y_rc s.heap.size (y_hs s.heap) aa cs116 1 H := ⟨by omega, by omega⟩
        refine W.widen (k := 3 * (72 - aa) + 2) (n := 100 * (72 - aa) + 80) (by omega) (by omega) ?_
        exact W.zret (v := 0) hx hb hr (rfl) (fun t ht hW => ⟨⟨0, (I116, T, A116, O114, pl, (ln, s116, 1, cs116)), rfl, ⟨hmi, rfl, hO114, ((m_fr.rf.tr fr114 (by decide)).tr fr116 (by decide)), by dsimp only; omega, Or.inl ⟨rfl, Nat.le_refl _, hfl⟩⟩, (by dsimp only; rw [ht]; exact ⟨hP, hD, hac9⟩)⟩, hS.F ht⟩) hS.2.2 d_Reader_process_27
      · rw [eat] at hmi
        refine W.eq (g2 := F0 m 16 ls [.ref p114]) rfl ?_
        have hbn := hmi.2.1
        dsimp only at hbn
        rcases y_11 hjj with rfl | rfl | rfl | rfl | rfl | rfl | rfl | rfl | rfl | rfl | rfl
        · have hfp114 : y_L pl114 p114 = some (.inr (7, [.ref (z (3 + 0)), .ref P, .null, .null, .null, .ref t114, .null, .ref (z 21), .int chB, .int vaB])) := hfp114
          have hpeB : y_L pl114 p114 ≠ none := by rw [hfp114]; exact nofun
          have hpf : y_L pl114 p114 = some (.inr (7, y_Pf z C114 Gs114 p114 (J114 p114) (some P) none (some t114) (z 21) chB vaB)) := by rw [hfp114]; unfold y_Pf; rw [hg2, hg3, hg4]; rfl
          refine lv_astore (lv' := [(4, .ref p114), (0, .ref (ad 1)), (1, .ref P), (2, .int (Int32.ofNat dp)), (3, .int gv)]) hx hb d_Reader_process_16 hl (by decide) rfl (fun ls hl => ?_)
          refine lv_aload hx hb d_Reader_process_18 (lv_at hl 0 rfl) ?_
          refine lv_ifnonnull (tgt := 28) hx hb d_Reader_process_20 (by decide) ?_
          refine va_gets hx hb (hZ.2.2.1.narrow hAN) hS hown (hts _ k_484) (fun _ h9 => h9) d_Reader_process_28 ?_
          refine lv_aload hx hb d_Reader_process_31 (lv_at hl 0 rfl) ?_
          refine d_gN (C := "ChannelMachine$Process") (F := F_Process) (N := 10) hx hb hts i_Process hown hK hP hfp114 0 rfl (by decide) (hU.1.2.1 _ kn_392) (fun _ h9 => h9) (v := .ref (z (3 + 0))) rfl d_Reader_process_33 ?_
          have hFc := y_free hD hS hA
          refine va_calli (va_runU (As := []) (rest := [.ref (z 20)]) ⟨hx, hb, hml, hown, hts⟩ (c_E_ordinal0 l dC dI ar N0 z ad I114 T A114 O114 pl114 0 H.size (y_hs H) (by decide)) (va_cwU (owner := "java/lang/Enum") 0 hts (x_goodU k_486 k_487 k_489 k_490 k_15 k_491) rfl rfl rfl rfl (by decide +kernel) ⟨Nat.le_trans (m := 40) (Nat.le_of_ble_eq_true rfl) (Nat.le_add_left 40 _), Nat.le_trans (m := 1400) (Nat.le_of_ble_eq_true rfl) (Nat.le_add_left 1400 _)⟩) ⟨y_blind, va_recvE (E := "ChannelMachine$Kind") (ad := fun i => z (3 + i)) (hZ.2.1.narrow hAN) (show 0 < 11 from by decide) hS, fun U9 hU9 hW9 => y_pre hU9 hW9 hP hD hU hZ hS hAN hN0⟩ rfl rfl hl.1 rfl (lv_room (Nat.le_of_ble_eq_true rfl)) d_Reader_process_36 ⟨(by show 0 + (2) + (0) ≤ 3 * (72 - aa) + 2; omega), (by show 0 + (17) + (0) ≤ 100 * (72 - aa) + 80; omega)⟩) hS (fun q _ h => hFc q h) hFc (fun r_117 u t H1 locs ht hvm hw hB hz1 hk1 hS => ?_)
          obtain ⟨I118, T118, A118, O118, pl118, q118, s118, cq118, cs118⟩ := u
          dsimp only at hw hB
          rw [ht] at hB
          obtain ⟨hP, hD1, hac118⟩ := hB
          have hD : va_D Bq (y_W ad ar I118 T118 A118 O118 pl118) := hD1.weaken (fun _ q _ h => hFc q.1 h)
          generalize H1 = H at hP hS hac118 ⊢
          have hae118 := hac118
          try unfold y_ac at hae118
          try dsimp only at hae118
          refine W.widen (k := 0 + (2)) (n := 0 + (17)) (by omega) (by omega) ?_
          obtain ⟨h9, hw⟩ := hw
          cases h9
          subst hw
          refine va_ti (t := z 20) (N := 11) (f := y_sw) (v := .int 1) hx hb (hZ.2.2.2.1.narrow hAN) hS (by unfold vp_in; decide) rfl d_Reader_process_39 ?_
          refine lv_tableIn (tgt := 92) hx hb d_Reader_process_40 (by decide) (by decide) (off := 52) rfl (by decide) ?_
          refine lv_aload_n hx hb d_Reader_process_92 rfl (lv_at hl 1 rfl) ?_
          refine lv_bipush (v := 58) hx hb d_Reader_process_93 (by decide) ?_
          have hFc := y_free hD hS hA
          refine va_calli (va_runV (As := [.int 58]) (rest := []) ⟨hx, hb, hml, hown, hts⟩ (c_Rd_expect l dC dI ar N0 z ad I114 T A114 O114 pl114 ln s114 ln (aa + 1) (58) H.size (y_hs H) hmi (by decide)) (cwV 1 hts (x_goodV k_492 k_494 kp_7 k_2 k_495) rfl rfl rfl (by decide +kernel) ⟨Nat.le_trans (m := 40) (Nat.le_of_ble_eq_true rfl) (Nat.le_add_left 40 _), Nat.le_trans (m := 1400) (Nat.le_of_ble_eq_true rfl) (Nat.le_add_left 1400 _)⟩) ⟨y_blind, va_recv hK hP (ci := 3) (q0 := 1) rfl (y_W_ob (by decide) (by decide)), fun U9 hU9 hW9 => y_pre hU9 hW9 hP hD hU hZ hS hAN hN0⟩ rfl rfl hl.1 rfl (lv_room (Nat.le_of_ble_eq_true rfl)) d_Reader_process_95 ⟨(by show 0 + (2) + (0) ≤ 3 * (72 - aa) + 2; omega), (by show 0 + (17) + (0) ≤ 100 * (72 - aa) + 80; omega)⟩) hS (fun q _ h => hFc q h) hFc (fun r_119 u t H1 locs ht hvm hw hB hz1 hk1 hS => ?_)
          obtain ⟨I120, T120, A120, O120, pl120, q120, s120, cq120, cs120⟩ := u
          dsimp only at hw hB
          rw [ht] at hB
          obtain ⟨hP, hD1, hac120⟩ := hB
          have hD : va_D Bq (y_W ad ar I120 T120 A120 O120 pl120) := hD1.weaken (fun _ q _ h => hFc q.1 h)
          generalize H1 = H at hP hS hac120 ⊢
          have hae120 := hac120
          try unfold y_ac at hae120
          try dsimp only at hae120
          refine W.widen (k := 0 + (2)) (n := 0 + (17)) (by omega) (by omega) ?_
          obtain ⟨hmi, e2, e4, e5, fr120, e6, e7, hge120, hcc120, hr9⟩ := hw
          rw [e2, e4, e5] at hP hD
          rw [e6, e7] at hmi
          have hP : va_P (dC, dI) y_cl (y_W ad ar I120 T A120 O114 pl114) H := hP
          have hD : va_D Bq (y_W ad ar I120 T A120 O114 pl114) := hD
          have hbn := hmi.2.1
          dsimp only at hbn
          rcases hr9 with rfl | ⟨rfl, hex121⟩
          · refine lv_if_eq (tgt := 119) hx hb d_Reader_process_98 (by decide) (fun _ => ?_) (fun c122 => absurd (by decide) c122)
            refine lv_iconst (v := 0) hx hb d_Reader_process_119 (by decide) ?_
            have hfl : ∀ a, f0 a ≠ none → y_L pl114 a = f0 a := fun a ha => (hdxB.1 a ha).1
            refine y_know (fun hy91 hy92 hy93 hy94 => ?_)
            have hac9 : y_rc s.heap.size (y_hs s.heap) aa cs120 1 H := ⟨by omega, by omega⟩
            refine W.widen (k := 3 * (72 - aa) + 2) (n := 100 * (72 - aa) + 80) (by omega) (by omega) ?_
            exact W.zret (v := 0) hx hb hr (rfl) (fun t ht hW => ⟨⟨0, (I120, T, A120, O114, pl114, (ln, s120, 1, cs120)), rfl, ⟨hmi, rfl, hO114, ((m_fr.rf.tr fr114 (by decide)).tr fr120 (by decide)), by dsimp only; omega, Or.inl ⟨rfl, Nat.le_refl _, hfl⟩⟩, (by dsimp only; rw [ht]; exact ⟨hP, hD, hac9⟩)⟩, hS.F ht⟩) hS.2.2 d_Reader_process_120
          · refine lv_if_eq (tgt := 119) hx hb d_Reader_process_98 (by decide) (fun c123 => absurd c123 (by decide)) (fun _ => ?_)
            refine lv_aload_n hx hb d_Reader_process_101 rfl (lv_at hl 1 rfl) ?_
            refine lv_aload hx hb d_Reader_process_102 (lv_at hl 0 rfl) ?_
            refine lv_aload_n hx hb d_Reader_process_104 rfl (lv_at hl 1 rfl) ?_
            refine lv_iload_n hx hb d_Reader_process_105 rfl (lv_at hl 4 rfl) ?_
            have hFc := y_free hD hS hA
            refine va_calli (va_runV (As := [.int gv]) (rest := [.ref p114, .ref (ad 1)]) ⟨hx, hb, hml, hown, hts⟩ (c_Rd_endOfLast l dC dI ar N0 z ad I120 T A120 O114 pl114 ln s120 ln cs120 (gv) H.size (y_hs H) hmi rfl) (cwV 1 hts (x_goodV k_496 k_498 kp_8 k_2 k_499) rfl rfl rfl (by decide +kernel) ⟨Nat.le_trans (m := 40) (Nat.le_of_ble_eq_true rfl) (Nat.le_add_left 40 _), Nat.le_trans (m := 1400) (Nat.le_of_ble_eq_true rfl) (Nat.le_add_left 1400 _)⟩) ⟨y_blind, va_recv hK hP (ci := 3) (q0 := 1) rfl (y_W_ob (by decide) (by decide)), fun U9 hU9 hW9 => y_pre hU9 hW9 hP hD hU hZ hS hAN hN0⟩ rfl rfl hl.1 rfl (lv_room (Nat.le_of_ble_eq_true rfl)) d_Reader_process_106 ⟨(by show 0 + (2) + (0) ≤ 3 * (72 - aa) + 2; omega), (by show 0 + (17) + (0) ≤ 100 * (72 - aa) + 80; omega)⟩) hS (fun q _ h => hFc q h) hFc (fun r_124 u t H1 locs ht hvm hw hB hz1 hk1 hS => ?_)
            obtain ⟨I125, T125, A125, O125, pl125, q125, s125, cq125, cs125⟩ := u
            dsimp only at hw hB
            rw [ht] at hB
            obtain ⟨hP, hD1, hac125⟩ := hB
            have hD : va_D Bq (y_W ad ar I125 T125 A125 O125 pl125) := hD1.weaken (fun _ q _ h => hFc q.1 h)
            generalize H1 = H at hP hS hac125 ⊢
            have hae125 := hac125
            try unfold y_ac at hae125
            try dsimp only at hae125
            refine W.widen (k := 0 + (2)) (n := 0 + (17)) (by omega) (by omega) ?_
            obtain ⟨hmi, e2, e4, e5, fr125, e6, e7, e8, en125, hen1, hen2, rfl⟩ := hw
            rw [e2, e4, e5] at hP hD
            rw [e6, e7, e8] at hmi
            have hP : va_P (dC, dI) y_cl (y_W ad ar I125 T A125 O114 pl114) H := hP
            have hD : va_D Bq (y_W ad ar I125 T A125 O114 pl114) := hD
            have hbn := hmi.2.1
            dsimp only at hbn
            refine y_know (fun hya1 hya2 hya3 hya4 => ?_)
            have hFc := y_free hD hS hA
            refine va_calli (va_runV (As := [.ref p114, .int (Int32.ofNat en125)]) (rest := []) ⟨hx, hb, hml, hown, hts⟩ (c_Rd_lastExpression l dC dI ar N0 z ad I125 T A125 O114 pl114 ln s125 ln cs120 p114 en125 (.ref (z (3 + 0))) (.ref P) (.null) (.null) (.null) (.ref t114) (.null) (.ref (z 21)) (.int chB) (.int vaB) H.size (y_hs H) hmi hfp114 ⟨by omega, by omega⟩) (cwV 2 hts (x_goodV k_522 k_524 kp_13 k_2 k_525) rfl rfl rfl (by decide +kernel) ⟨Nat.le_trans (m := 40) (Nat.le_of_ble_eq_true rfl) (Nat.le_add_left 40 _), Nat.le_trans (m := 1400) (Nat.le_of_ble_eq_true rfl) (Nat.le_add_left 1400 _)⟩) ⟨y_blind, va_recv hK hP (ci := 3) (q0 := 1) rfl (y_W_ob (by decide) (by decide)), fun U9 hU9 hW9 => y_pre hU9 hW9 hP hD hU hZ hS hAN hN0⟩ rfl rfl hl.1 rfl (lv_room (Nat.le_of_ble_eq_true rfl)) d_Reader_process_109 ⟨(by show 0 + (2) + (1) ≤ 3 * (72 - aa) + 2; omega), (by show 0 + (17) + (72) ≤ 100 * (72 - aa) + 80; omega)⟩) hS (fun q _ h => hFc q h) hFc (fun r_126 u t H1 locs ht hvm hw hB hz1 hk1 hS => ?_)
            obtain ⟨I127, T127, A127, O127, pl127, q127, s127, cq127, cs127⟩ := u
            dsimp only at hw hB
            rw [ht] at hB
            obtain ⟨hP, hD1, hac127⟩ := hB
            have hD : va_D Bq (y_W ad ar I127 T127 A127 O127 pl127) := hD1.weaken (fun _ q _ h => hFc q.1 h)
            generalize H1 = H at hP hS hac127 ⊢
            have hae127 := hac127
            try unfold y_ac at hae127
            try dsimp only at hae127
            obtain ⟨hmi, e2, e4, fr127, e6, e7, hge127, hr9, q127_, nq, hq9, hzq, hnq, hokq, hqq, hfp114, hoq⟩ := hw
            rw [e2, e4] at hP hD
            rw [e6, e7] at hmi
            have hP : va_P (dC, dI) y_cl (y_W ad ar I127 T A127 O114 pl127) H := hP
            have hD : va_D Bq (y_W ad ar I127 T A127 O114 pl127) := hD
            have hbn := hmi.2.1
            dsimp only at hbn
            rcases hr9 with rfl | rfl
            · refine lv_if_eq (tgt := 119) hx hb d_Reader_process_112 (by decide) (fun _ => ?_) (fun c128 => absurd (by decide) c128)
              refine lv_iconst (v := 0) hx hb d_Reader_process_119 (by decide) ?_
              have hfl : ∀ a, f0 a ≠ none → y_L pl127 a = f0 a := (hdxB.keep1 hg1 (fun b hb h2 => hoq b (fun e => hb (by rw [e]; exact hzq)) h2))
              refine y_know (fun hy91 hy92 hy93 hy94 => ?_)
              have hac9 : y_rc s.heap.size (y_hs s.heap) aa cs127 1 H := ⟨by omega, by omega⟩
              refine W.widen (k := 3 * (72 - aa) + 2) (n := 100 * (72 - aa) + 80) (by omega) (by omega) ?_
              exact W.zret (v := 0) hx hb hr (rfl) (fun t ht hW => ⟨⟨0, (I127, T, A127, O114, pl127, (ln, s127, 1, cs127)), rfl, ⟨hmi, rfl, hO114, ((((m_fr.rf.tr fr114 (by decide)).tr fr120 (by decide)).tr fr125 (by decide)).tr fr127 (by decide)), by dsimp only; omega, Or.inl ⟨rfl, Nat.le_refl _, hfl⟩⟩, (by dsimp only; rw [ht]; exact ⟨hP, hD, hac9⟩)⟩, hS.F ht⟩) hS.2.2 d_Reader_process_120
            · obtain ⟨hd127, hph127⟩ := y_DX.code (f' := y_L pl127) (s' := 0) (q := q127_) hdxB hg1 hpf hzq hnq hokq hqq (by rw [hfp114]; unfold y_Pf; rw [hg2, hg3, hg4]; rfl) hoq (fun _ => ⟨fun h9 => hchB (by rw [hg2] at h9; exact h9), fun h9 => by rw [hg2] at h9; omega⟩)
              have hph := hph127
              refine lv_if_eq (tgt := 119) hx hb d_Reader_process_112 (by decide) (fun c129 => absurd c129 (by decide)) (fun _ => ?_)
              refine lv_iconst (v := 1) hx hb d_Reader_process_115 (by decide) ?_
              refine lv_goto (tgt := 120) hx hb d_Reader_process_116 (by decide) ?_
              refine y_know (fun hy91 hy92 hy93 hy94 => ?_)
              have hac9 : y_rc s.heap.size (y_hs s.heap) aa cs127 0 H := ⟨by omega, by omega⟩
              refine W.widen (k := 3 * (72 - aa) + 2) (n := 100 * (72 - aa) + 80) (by omega) (by omega) ?_
              exact W.zret (v := 1) hx hb hr (rfl) (fun t ht hW => ⟨⟨1, (I127, T, A127, O114, pl127, (ln, s127, 0, cs127)), rfl, ⟨hmi, rfl, hO114, ((((m_fr.rf.tr fr114 (by decide)).tr fr120 (by decide)).tr fr125 (by decide)).tr fr127 (by decide)), by dsimp only; omega, Or.inr ⟨rfl, rfl, p114, y_SU.mk hzp114 hfx hcx hg1 hg6 hd127 hph y_un_s, hpr⟩⟩, (by dsimp only; rw [ht]; exact ⟨hP, hD, hac9⟩)⟩, hS.F ht⟩) hS.2.2 d_Reader_process_120
        · have hfp114 : y_L pl114 p114 = some (.inr (7, [.ref (z (3 + 1)), .ref P, .null, .null, .null, .ref t114, .null, .ref (z 21), .int chB, .int vaB])) := hfp114
          have hpeB : y_L pl114 p114 ≠ none := by rw [hfp114]; exact nofun
          have hpf : y_L pl114 p114 = some (.inr (7, y_Pf z C114 Gs114 p114 (J114 p114) (some P) none (some t114) (z 21) chB vaB)) := by rw [hfp114]; unfold y_Pf; rw [hg2, hg3, hg4]; rfl
          refine lv_astore (lv' := [(4, .ref p114), (0, .ref (ad 1)), (1, .ref P), (2, .int (Int32.ofNat dp)), (3, .int gv)]) hx hb d_Reader_process_16 hl (by decide) rfl (fun ls hl => ?_)
          refine lv_aload hx hb d_Reader_process_18 (lv_at hl 0 rfl) ?_
          refine lv_ifnonnull (tgt := 28) hx hb d_Reader_process_20 (by decide) ?_
          refine va_gets hx hb (hZ.2.2.1.narrow hAN) hS hown (hts _ k_484) (fun _ h9 => h9) d_Reader_process_28 ?_
          refine lv_aload hx hb d_Reader_process_31 (lv_at hl 0 rfl) ?_
          refine d_gN (C := "ChannelMachine$Process") (F := F_Process) (N := 10) hx hb hts i_Process hown hK hP hfp114 0 rfl (by decide) (hU.1.2.1 _ kn_392) (fun _ h9 => h9) (v := .ref (z (3 + 1))) rfl d_Reader_process_33 ?_
          have hFc := y_free hD hS hA
          refine va_calli (va_runU (As := []) (rest := [.ref (z 20)]) ⟨hx, hb, hml, hown, hts⟩ (c_E_ordinal0 l dC dI ar N0 z ad I114 T A114 O114 pl114 1 H.size (y_hs H) (by decide)) (va_cwU (owner := "java/lang/Enum") 0 hts (x_goodU k_486 k_487 k_489 k_490 k_15 k_491) rfl rfl rfl rfl (by decide +kernel) ⟨Nat.le_trans (m := 40) (Nat.le_of_ble_eq_true rfl) (Nat.le_add_left 40 _), Nat.le_trans (m := 1400) (Nat.le_of_ble_eq_true rfl) (Nat.le_add_left 1400 _)⟩) ⟨y_blind, va_recvE (E := "ChannelMachine$Kind") (ad := fun i => z (3 + i)) (hZ.2.1.narrow hAN) (show 1 < 11 from by decide) hS, fun U9 hU9 hW9 => y_pre hU9 hW9 hP hD hU hZ hS hAN hN0⟩ rfl rfl hl.1 rfl (lv_room (Nat.le_of_ble_eq_true rfl)) d_Reader_process_36 ⟨(by show 0 + (2) + (0) ≤ 3 * (72 - aa) + 2; omega), (by show 0 + (17) + (0) ≤ 100 * (72 - aa) + 80; omega)⟩) hS (fun q _ h => hFc q h) hFc (fun r_130 u t H1 locs ht hvm hw hB hz1 hk1 hS => ?_)
          obtain ⟨I131, T131, A131, O131, pl131, q131, s131, cq131, cs131⟩ := u
          dsimp only at hw hB
          rw [ht] at hB
          obtain ⟨hP, hD1, hac131⟩ := hB
          have hD : va_D Bq (y_W ad ar I131 T131 A131 O131 pl131) := hD1.weaken (fun _ q _ h => hFc q.1 h)
          generalize H1 = H at hP hS hac131 ⊢
          have hae131 := hac131
          try unfold y_ac at hae131
          try dsimp only at hae131
          refine W.widen (k := 0 + (2)) (n := 0 + (17)) (by omega) (by omega) ?_
          obtain ⟨h9, hw⟩ := hw
          cases h9
          subst hw
          refine va_ti (t := z 20) (N := 11) (f := y_sw) (v := .int 2) hx hb (hZ.2.2.2.1.narrow hAN) hS (by unfold vp_in; decide) rfl d_Reader_process_39 ?_
          refine lv_tableIn (tgt := 121) hx hb d_Reader_process_40 (by decide) (by decide) (off := 81) rfl (by decide) ?_
          refine lv_aload_n hx hb d_Reader_process_121 rfl (lv_at hl 1 rfl) ?_
          refine lv_bipush (v := 33) hx hb d_Reader_process_122 (by decide) ?_
          have hFc := y_free hD hS hA
          refine va_calli (va_runV (As := [.int 33]) (rest := []) ⟨hx, hb, hml, hown, hts⟩ (c_Rd_expect l dC dI ar N0 z ad I114 T A114 O114 pl114 ln s114 ln (aa + 1) (33) H.size (y_hs H) hmi (by decide)) (cwV 1 hts (x_goodV k_492 k_494 kp_7 k_2 k_495) rfl rfl rfl (by decide +kernel) ⟨Nat.le_trans (m := 40) (Nat.le_of_ble_eq_true rfl) (Nat.le_add_left 40 _), Nat.le_trans (m := 1400) (Nat.le_of_ble_eq_true rfl) (Nat.le_add_left 1400 _)⟩) ⟨y_blind, va_recv hK hP (ci := 3) (q0 := 1) rfl (y_W_ob (by decide) (by decide)), fun U9 hU9 hW9 => y_pre hU9 hW9 hP hD hU hZ hS hAN hN0⟩ rfl rfl hl.1 rfl (lv_room (Nat.le_of_ble_eq_true rfl)) d_Reader_process_124 ⟨(by show 0 + (2) + (0) ≤ 3 * (72 - aa) + 2; omega), (by show 0 + (17) + (0) ≤ 100 * (72 - aa) + 80; omega)⟩) hS (fun q _ h => hFc q h) hFc (fun r_132 u t H1 locs ht hvm hw hB hz1 hk1 hS => ?_)
          obtain ⟨I133, T133, A133, O133, pl133, q133, s133, cq133, cs133⟩ := u
          dsimp only at hw hB
          rw [ht] at hB
          obtain ⟨hP, hD1, hac133⟩ := hB
          have hD : va_D Bq (y_W ad ar I133 T133 A133 O133 pl133) := hD1.weaken (fun _ q _ h => hFc q.1 h)
          generalize H1 = H at hP hS hac133 ⊢
          have hae133 := hac133
          try unfold y_ac at hae133
          try dsimp only at hae133
          refine W.widen (k := 0 + (2)) (n := 0 + (17)) (by omega) (by omega) ?_
          obtain ⟨hmi, e2, e4, e5, fr133, e6, e7, hge133, hcc133, hr9⟩ := hw
          rw [e2, e4, e5] at hP hD
          rw [e6, e7] at hmi
          have hP : va_P (dC, dI) y_cl (y_W ad ar I133 T A133 O114 pl114) H := hP
          have hD : va_D Bq (y_W ad ar I133 T A133 O114 pl114) := hD
          have hbn := hmi.2.1
          dsimp only at hbn
          rcases hr9 with rfl | ⟨rfl, hex134⟩
          · refine lv_if_eq (tgt := 148) hx hb d_Reader_process_127 (by decide) (fun _ => ?_) (fun c135 => absurd (by decide) c135)
            refine lv_iconst (v := 0) hx hb d_Reader_process_148 (by decide) ?_
            have hfl : ∀ a, f0 a ≠ none → y_L pl114 a = f0 a := fun a ha => (hdxB.1 a ha).1
            refine y_know (fun hy91 hy92 hy93 hy94 => ?_)
            have hac9 : y_rc s.heap.size (y_hs s.heap) aa cs133 1 H := ⟨by omega, by omega⟩
            refine W.widen (k := 3 * (72 - aa) + 2) (n := 100 * (72 - aa) + 80) (by omega) (by omega) ?_
            exact W.zret (v := 0) hx hb hr (rfl) (fun t ht hW => ⟨⟨0, (I133, T, A133, O114, pl114, (ln, s133, 1, cs133)), rfl, ⟨hmi, rfl, hO114, ((m_fr.rf.tr fr114 (by decide)).tr fr133 (by decide)), by dsimp only; omega, Or.inl ⟨rfl, Nat.le_refl _, hfl⟩⟩, (by dsimp only; rw [ht]; exact ⟨hP, hD, hac9⟩)⟩, hS.F ht⟩) hS.2.2 d_Reader_process_149
          · refine lv_if_eq (tgt := 148) hx hb d_Reader_process_127 (by decide) (fun c136 => absurd c136 (by decide)) (fun _ => ?_)
            refine lv_aload_n hx hb d_Reader_process_130 rfl (lv_at hl 1 rfl) ?_
            refine lv_aload hx hb d_Reader_process_131 (lv_at hl 0 rfl) ?_
            refine lv_aload_n hx hb d_Reader_process_133 rfl (lv_at hl 1 rfl) ?_
            refine lv_iload_n hx hb d_Reader_process_134 rfl (lv_at hl 4 rfl) ?_
            have hFc := y_free hD hS hA
            refine va_calli (va_runV (As := [.int gv]) (rest := [.ref p114, .ref (ad 1)]) ⟨hx, hb, hml, hown, hts⟩ (c_Rd_endOfLast l dC dI ar N0 z ad I133 T A133 O114 pl114 ln s133 ln cs133 (gv) H.size (y_hs H) hmi rfl) (cwV 1 hts (x_goodV k_496 k_498 kp_8 k_2 k_499) rfl rfl rfl (by decide +kernel) ⟨Nat.le_trans (m := 40) (Nat.le_of_ble_eq_true rfl) (Nat.le_add_left 40 _), Nat.le_trans (m := 1400) (Nat.le_of_ble_eq_true rfl) (Nat.le_add_left 1400 _)⟩) ⟨y_blind, va_recv hK hP (ci := 3) (q0 := 1) rfl (y_W_ob (by decide) (by decide)), fun U9 hU9 hW9 => y_pre hU9 hW9 hP hD hU hZ hS hAN hN0⟩ rfl rfl hl.1 rfl (lv_room (Nat.le_of_ble_eq_true rfl)) d_Reader_process_135 ⟨(by show 0 + (2) + (0) ≤ 3 * (72 - aa) + 2; omega), (by show 0 + (17) + (0) ≤ 100 * (72 - aa) + 80; omega)⟩) hS (fun q _ h => hFc q h) hFc (fun r_137 u t H1 locs ht hvm hw hB hz1 hk1 hS => ?_)
            obtain ⟨I138, T138, A138, O138, pl138, q138, s138, cq138, cs138⟩ := u
            dsimp only at hw hB
            rw [ht] at hB
            obtain ⟨hP, hD1, hac138⟩ := hB
            have hD : va_D Bq (y_W ad ar I138 T138 A138 O138 pl138) := hD1.weaken (fun _ q _ h => hFc q.1 h)
            generalize H1 = H at hP hS hac138 ⊢
            have hae138 := hac138
            try unfold y_ac at hae138
            try dsimp only at hae138
            refine W.widen (k := 0 + (2)) (n := 0 + (17)) (by omega) (by omega) ?_
            obtain ⟨hmi, e2, e4, e5, fr138, e6, e7, e8, en138, hen1, hen2, rfl⟩ := hw
            rw [e2, e4, e5] at hP hD
            rw [e6, e7, e8] at hmi
            have hP : va_P (dC, dI) y_cl (y_W ad ar I138 T A138 O114 pl114) H := hP
            have hD : va_D Bq (y_W ad ar I138 T A138 O114 pl114) := hD
            have hbn := hmi.2.1
            dsimp only at hbn
            refine y_know (fun hya1 hya2 hya3 hya4 => ?_)
            have hFc := y_free hD hS hA
            refine va_calli (va_runV (As := [.ref p114, .int (Int32.ofNat en138)]) (rest := []) ⟨hx, hb, hml, hown, hts⟩ (c_Rd_lastExpression l dC dI ar N0 z ad I138 T A138 O114 pl114 ln s138 ln cs133 p114 en138 (.ref (z (3 + 1))) (.ref P) (.null) (.null) (.null) (.ref t114) (.null) (.ref (z 21)) (.int chB) (.int vaB) H.size (y_hs H) hmi hfp114 ⟨by omega, by omega⟩) (cwV 2 hts (x_goodV k_522 k_524 kp_13 k_2 k_525) rfl rfl rfl (by decide +kernel) ⟨Nat.le_trans (m := 40) (Nat.le_of_ble_eq_true rfl) (Nat.le_add_left 40 _), Nat.le_trans (m := 1400) (Nat.le_of_ble_eq_true rfl) (Nat.le_add_left 1400 _)⟩) ⟨y_blind, va_recv hK hP (ci := 3) (q0 := 1) rfl (y_W_ob (by decide) (by decide)), fun U9 hU9 hW9 => y_pre hU9 hW9 hP hD hU hZ hS hAN hN0⟩ rfl rfl hl.1 rfl (lv_room (Nat.le_of_ble_eq_true rfl)) d_Reader_process_138 ⟨(by show 0 + (2) + (1) ≤ 3 * (72 - aa) + 2; omega), (by show 0 + (17) + (72) ≤ 100 * (72 - aa) + 80; omega)⟩) hS (fun q _ h => hFc q h) hFc (fun r_139 u t H1 locs ht hvm hw hB hz1 hk1 hS => ?_)
            obtain ⟨I140, T140, A140, O140, pl140, q140, s140, cq140, cs140⟩ := u
            dsimp only at hw hB
            rw [ht] at hB
            obtain ⟨hP, hD1, hac140⟩ := hB
            have hD : va_D Bq (y_W ad ar I140 T140 A140 O140 pl140) := hD1.weaken (fun _ q _ h => hFc q.1 h)
            generalize H1 = H at hP hS hac140 ⊢
            have hae140 := hac140
            try unfold y_ac at hae140
            try dsimp only at hae140
            obtain ⟨hmi, e2, e4, fr140, e6, e7, hge140, hr9, q140_, nq, hq9, hzq, hnq, hokq, hqq, hfp114, hoq⟩ := hw
            rw [e2, e4] at hP hD
            rw [e6, e7] at hmi
            have hP : va_P (dC, dI) y_cl (y_W ad ar I140 T A140 O114 pl140) H := hP
            have hD : va_D Bq (y_W ad ar I140 T A140 O114 pl140) := hD
            have hbn := hmi.2.1
            dsimp only at hbn
            rcases hr9 with rfl | rfl
            · refine lv_if_eq (tgt := 148) hx hb d_Reader_process_141 (by decide) (fun _ => ?_) (fun c141 => absurd (by decide) c141)
              refine lv_iconst (v := 0) hx hb d_Reader_process_148 (by decide) ?_
              have hfl : ∀ a, f0 a ≠ none → y_L pl140 a = f0 a := (hdxB.keep1 hg1 (fun b hb h2 => hoq b (fun e => hb (by rw [e]; exact hzq)) h2))
              refine y_know (fun hy91 hy92 hy93 hy94 => ?_)
              have hac9 : y_rc s.heap.size (y_hs s.heap) aa cs140 1 H := ⟨by omega, by omega⟩
              refine W.widen (k := 3 * (72 - aa) + 2) (n := 100 * (72 - aa) + 80) (by omega) (by omega) ?_
              exact W.zret (v := 0) hx hb hr (rfl) (fun t ht hW => ⟨⟨0, (I140, T, A140, O114, pl140, (ln, s140, 1, cs140)), rfl, ⟨hmi, rfl, hO114, ((((m_fr.rf.tr fr114 (by decide)).tr fr133 (by decide)).tr fr138 (by decide)).tr fr140 (by decide)), by dsimp only; omega, Or.inl ⟨rfl, Nat.le_refl _, hfl⟩⟩, (by dsimp only; rw [ht]; exact ⟨hP, hD, hac9⟩)⟩, hS.F ht⟩) hS.2.2 d_Reader_process_149
            · obtain ⟨hd140, hph140⟩ := y_DX.code (f' := y_L pl140) (s' := 0) (q := q140_) hdxB hg1 hpf hzq hnq hokq hqq (by rw [hfp114]; unfold y_Pf; rw [hg2, hg3, hg4]; rfl) hoq (fun _ => ⟨fun h9 => hchB (by rw [hg2] at h9; exact h9), fun h9 => by rw [hg2] at h9; omega⟩)
              have hph := hph140
              refine lv_if_eq (tgt := 148) hx hb d_Reader_process_141 (by decide) (fun c142 => absurd c142 (by decide)) (fun _ => ?_)
              refine lv_iconst (v := 1) hx hb d_Reader_process_144 (by decide) ?_
              refine lv_goto (tgt := 149) hx hb d_Reader_process_145 (by decide) ?_
              refine y_know (fun hy91 hy92 hy93 hy94 => ?_)
              have hac9 : y_rc s.heap.size (y_hs s.heap) aa cs140 0 H := ⟨by omega, by omega⟩
              refine W.widen (k := 3 * (72 - aa) + 2) (n := 100 * (72 - aa) + 80) (by omega) (by omega) ?_
              exact W.zret (v := 1) hx hb hr (rfl) (fun t ht hW => ⟨⟨1, (I140, T, A140, O114, pl140, (ln, s140, 0, cs140)), rfl, ⟨hmi, rfl, hO114, ((((m_fr.rf.tr fr114 (by decide)).tr fr133 (by decide)).tr fr138 (by decide)).tr fr140 (by decide)), by dsimp only; omega, Or.inr ⟨rfl, rfl, p114, y_SU.mk hzp114 hfx hcx hg1 hg6 hd140 hph y_un_s, hpr⟩⟩, (by dsimp only; rw [ht]; exact ⟨hP, hD, hac9⟩)⟩, hS.F ht⟩) hS.2.2 d_Reader_process_149
        · have hfp114 : y_L pl114 p114 = some (.inr (7, [.ref (z (3 + 2)), .ref P, .null, .null, .null, .ref t114, .null, .ref (z 21), .int chB, .int vaB])) := hfp114
          have hpeB : y_L pl114 p114 ≠ none := by rw [hfp114]; exact nofun
          have hpf : y_L pl114 p114 = some (.inr (7, y_Pf z C114 Gs114 p114 (J114 p114) (some P) none (some t114) (z 21) chB vaB)) := by rw [hfp114]; unfold y_Pf; rw [hg2, hg3, hg4]; rfl
          refine lv_astore (lv' := [(4, .ref p114), (0, .ref (ad 1)), (1, .ref P), (2, .int (Int32.ofNat dp)), (3, .int gv)]) hx hb d_Reader_process_16 hl (by decide) rfl (fun ls hl => ?_)
          refine lv_aload hx hb d_Reader_process_18 (lv_at hl 0 rfl) ?_
          refine lv_ifnonnull (tgt := 28) hx hb d_Reader_process_20 (by decide) ?_
          refine va_gets hx hb (hZ.2.2.1.narrow hAN) hS hown (hts _ k_484) (fun _ h9 => h9) d_Reader_process_28 ?_
          refine lv_aload hx hb d_Reader_process_31 (lv_at hl 0 rfl) ?_
          refine d_gN (C := "ChannelMachine$Process") (F := F_Process) (N := 10) hx hb hts i_Process hown hK hP hfp114 0 rfl (by decide) (hU.1.2.1 _ kn_392) (fun _ h9 => h9) (v := .ref (z (3 + 2))) rfl d_Reader_process_33 ?_
          have hFc := y_free hD hS hA
          refine va_calli (va_runU (As := []) (rest := [.ref (z 20)]) ⟨hx, hb, hml, hown, hts⟩ (c_E_ordinal0 l dC dI ar N0 z ad I114 T A114 O114 pl114 2 H.size (y_hs H) (by decide)) (va_cwU (owner := "java/lang/Enum") 0 hts (x_goodU k_486 k_487 k_489 k_490 k_15 k_491) rfl rfl rfl rfl (by decide +kernel) ⟨Nat.le_trans (m := 40) (Nat.le_of_ble_eq_true rfl) (Nat.le_add_left 40 _), Nat.le_trans (m := 1400) (Nat.le_of_ble_eq_true rfl) (Nat.le_add_left 1400 _)⟩) ⟨y_blind, va_recvE (E := "ChannelMachine$Kind") (ad := fun i => z (3 + i)) (hZ.2.1.narrow hAN) (show 2 < 11 from by decide) hS, fun U9 hU9 hW9 => y_pre hU9 hW9 hP hD hU hZ hS hAN hN0⟩ rfl rfl hl.1 rfl (lv_room (Nat.le_of_ble_eq_true rfl)) d_Reader_process_36 ⟨(by show 0 + (2) + (0) ≤ 3 * (72 - aa) + 2; omega), (by show 0 + (17) + (0) ≤ 100 * (72 - aa) + 80; omega)⟩) hS (fun q _ h => hFc q h) hFc (fun r_143 u t H1 locs ht hvm hw hB hz1 hk1 hS => ?_)
          obtain ⟨I144, T144, A144, O144, pl144, q144, s144, cq144, cs144⟩ := u
          dsimp only at hw hB
          rw [ht] at hB
          obtain ⟨hP, hD1, hac144⟩ := hB
          have hD : va_D Bq (y_W ad ar I144 T144 A144 O144 pl144) := hD1.weaken (fun _ q _ h => hFc q.1 h)
          generalize H1 = H at hP hS hac144 ⊢
          have hae144 := hac144
          try unfold y_ac at hae144
          try dsimp only at hae144
          refine W.widen (k := 0 + (2)) (n := 0 + (17)) (by omega) (by omega) ?_
          obtain ⟨h9, hw⟩ := hw
          cases h9
          subst hw
          refine va_ti (t := z 20) (N := 11) (f := y_sw) (v := .int 4) hx hb (hZ.2.2.2.1.narrow hAN) hS (by unfold vp_in; decide) rfl d_Reader_process_39 ?_
          refine lv_tableIn (tgt := 162) hx hb d_Reader_process_40 (by decide) (by decide) (off := 122) rfl (by decide) ?_
          refine lv_aload hx hb d_Reader_process_162 (lv_at hl 0 rfl) ?_
          refine lv_aload_n hx hb d_Reader_process_164 rfl (lv_at hl 1 rfl) ?_
          have hFc := y_free hD hS hA
          refine va_calli (va_runV (As := []) (rest := [.ref p114]) ⟨hx, hb, hml, hown, hts⟩ (c_Rd_inputVariable l dC dI ar N0 z ad I114 T A114 O114 pl114 ln s114 ln (aa + 1) H.size (y_hs H) hmi) (cwV 0 hts (x_goodV k_546 k_548 kp_15 k_2 k_549) rfl rfl rfl (by decide +kernel) ⟨Nat.le_trans (m := 40) (Nat.le_of_ble_eq_true rfl) (Nat.le_add_left 40 _), Nat.le_trans (m := 1400) (Nat.le_of_ble_eq_true rfl) (Nat.le_add_left 1400 _)⟩) ⟨y_blind, va_recv hK hP (ci := 3) (q0 := 1) rfl (y_W_ob (by decide) (by decide)), fun U9 hU9 hW9 => y_pre hU9 hW9 hP hD hU hZ hS hAN hN0⟩ rfl rfl hl.1 rfl (lv_room (Nat.le_of_ble_eq_true rfl)) d_Reader_process_165 ⟨(by show 0 + (2) + (0) ≤ 3 * (72 - aa) + 2; omega), (by show 0 + (17) + (0) ≤ 100 * (72 - aa) + 80; omega)⟩) hS (fun q _ h => hFc q h) hFc (fun r_145 u t H1 locs ht hvm hw hB hz1 hk1 hS => ?_)
          obtain ⟨I146, T146, A146, O146, pl146, q146, s146, cq146, cs146⟩ := u
          dsimp only at hw hB
          rw [ht] at hB
          obtain ⟨hP, hD1, hac146⟩ := hB
          have hD : va_D Bq (y_W ad ar I146 T146 A146 O146 pl146) := hD1.weaken (fun _ q _ h => hFc q.1 h)
          generalize H1 = H at hP hS hac146 ⊢
          have hae146 := hac146
          try unfold y_ac at hae146
          try dsimp only at hae146
          refine W.widen (k := 0 + (2)) (n := 0 + (17)) (by omega) (by omega) ?_
          obtain ⟨hmi, e2, e4, e5, fr146, e6, e7, hge146, hcc146⟩ := hw
          rw [e2, e4, e5] at hP hD
          rw [e6, e7] at hmi
          have hP : va_P (dC, dI) y_cl (y_W ad ar I146 T A146 O114 pl114) H := hP
          have hD : va_D Bq (y_W ad ar I146 T A146 O114 pl114) := hD
          have hbn := hmi.2.1
          dsimp only at hbn
          refine d_pN (C := "ChannelMachine$Process") (F := F_Process) (N := 10) hx hb hts i_Process hown t_Process t_Process_ok n_Process hK hP hD hS hfp114 9 rfl (by decide) (hU.1.2.1 _ kn_421) (fun _ h9 => h9) rfl (ty := .int) (v := .int r_145) (by decide +kernel) rfl rfl (Nat.le_of_ble_eq_true rfl) d_Reader_process_168 (fun pl147 H locs hL hP hD hS => ?_)
          have hfp114 : y_L pl147 p114 = some (.inr (7, [.ref (z (3 + 2)), .ref P, .null, .null, .null, .ref t114, .null, .ref (z 21), .int chB, .int r_145])) := by rw [hL]; exact y_Lu_s
          have hoth : ∀ b, b ≠ p114 → y_L pl147 b = y_L pl114 b := fun b n0 => by rw [hL, y_Lu_n n0]
          clear hL
          refine lv_aload hx hb d_Reader_process_171 (lv_at hl 0 rfl) ?_
          refine d_gN (C := "ChannelMachine$Process") (F := F_Process) (N := 10) hx hb hts i_Process hown hK hP hfp114 9 rfl (by decide) (hU.1.2.1 _ kn_421) (fun _ h9 => h9) (v := .int r_145) rfl d_Reader_process_173 ?_
          refine lv_iconst (v := (-1)) hx hb d_Reader_process_176 (by decide) ?_
          refine lv_icmp_eq (tgt := 184) hx hb d_Reader_process_177 (by decide) (fun c148 => ?_) (fun c148 => ?_)
          · refine lv_iconst (v := 0) hx hb d_Reader_process_184 (by decide) ?_
            have hfl : ∀ a, f0 a ≠ none → y_L pl147 a = f0 a := fun a ha => by
              obtain ⟨h1, h2⟩ := hdxB.1 a ha
              rw [hoth a (fun e => by rw [e, hg1] at h2; omega), h1]
            refine y_know (fun hy91 hy92 hy93 hy94 => ?_)
            have hac9 : y_rc s.heap.size (y_hs s.heap) aa cs146 1 H := ⟨by omega, by omega⟩
            refine W.widen (k := 3 * (72 - aa) + 2) (n := 100 * (72 - aa) + 80) (by omega) (by omega) ?_
            exact W.zret (v := 0) hx hb hr (rfl) (fun t ht hW => ⟨⟨0, (I146, T, A146, O114, pl147, (ln, s146, 1, cs146)), rfl, ⟨hmi, rfl, hO114, ((m_fr.rf.tr fr114 (by decide)).tr fr146 (by decide)), by dsimp only; omega, Or.inl ⟨rfl, Nat.le_refl _, hfl⟩⟩, (by dsimp only; rw [ht]; exact ⟨hP, hD, hac9⟩)⟩, hS.F ht⟩) hS.2.2 d_Reader_process_185
          · refine lv_iconst (v := 1) hx hb d_Reader_process_180 (by decide) ?_
            refine lv_goto (tgt := 185) hx hb d_Reader_process_181 (by decide) ?_
            have hd9 := hdxB.put (s' := 0) (co' := z 21) (ch' := chB) (va' := r_145) hg1 hpf (fun _ h9 => by rw [hg2] at h9; omega) (fun _ => ⟨fun h9 => hchB (by rw [hg2] at h9; exact h9), fun h9 => by rw [hg2] at h9; omega⟩)
            have hph9 := y_PH.put (s' := 0) (e := (.inr (7, y_Pf z C114 Gs114 p114 (J114 p114) (some P) none (some t114) (z 21) chB r_145))) hdxB hg1
            have hL9 : y_L pl147 = y_Lu (y_L pl114) p114 (.inr (7, y_Pf z C114 Gs114 p114 (J114 p114) (some P) none (some t114) (z 21) chB r_145)) := y_Lu_eq (by rw [hfp114]; unfold y_Pf; rw [hg2, hg3, hg4]; rfl) (fun b hb => hoth b hb)
            rw [← hL9] at hd9 hph9
            refine y_know (fun hy91 hy92 hy93 hy94 => ?_)
            have hac9 : y_rc s.heap.size (y_hs s.heap) aa cs146 0 H := ⟨by omega, by omega⟩
            refine W.widen (k := 3 * (72 - aa) + 2) (n := 100 * (72 - aa) + 80) (by omega) (by omega) ?_
            exact W.zret (v := 1) hx hb hr (rfl) (fun t ht hW => ⟨⟨1, (I146, T, A146, O114, pl147, (ln, s146, 0, cs146)), rfl, ⟨hmi, rfl, hO114, ((m_fr.rf.tr fr114 (by decide)).tr fr146 (by decide)), by dsimp only; omega, Or.inr ⟨rfl, rfl, p114, y_SU.mk hzp114 hfx hcx hg1 hg6 hd9 hph9 y_un_s, hpr⟩⟩, (by dsimp only; rw [ht]; exact ⟨hP, hD, hac9⟩)⟩, hS.F ht⟩) hS.2.2 d_Reader_process_185
        · have hfp114 : y_L pl114 p114 = some (.inr (7, [.ref (z (3 + 3)), .ref P, .null, .null, .null, .ref t114, .null, .ref (z 21), .int chB, .int vaB])) := hfp114
          have hpeB : y_L pl114 p114 ≠ none := by rw [hfp114]; exact nofun
          have hpf : y_L pl114 p114 = some (.inr (7, y_Pf z C114 Gs114 p114 (J114 p114) (some P) none (some t114) (z 21) chB vaB)) := by rw [hfp114]; unfold y_Pf; rw [hg2, hg3, hg4]; rfl
          refine lv_astore (lv' := [(4, .ref p114), (0, .ref (ad 1)), (1, .ref P), (2, .int (Int32.ofNat dp)), (3, .int gv)]) hx hb d_Reader_process_16 hl (by decide) rfl (fun ls hl => ?_)
          refine lv_aload hx hb d_Reader_process_18 (lv_at hl 0 rfl) ?_
          refine lv_ifnonnull (tgt := 28) hx hb d_Reader_process_20 (by decide) ?_
          refine va_gets hx hb (hZ.2.2.1.narrow hAN) hS hown (hts _ k_484) (fun _ h9 => h9) d_Reader_process_28 ?_
          refine lv_aload hx hb d_Reader_process_31 (lv_at hl 0 rfl) ?_
          refine d_gN (C := "ChannelMachine$Process") (F := F_Process) (N := 10) hx hb hts i_Process hown hK hP hfp114 0 rfl (by decide) (hU.1.2.1 _ kn_392) (fun _ h9 => h9) (v := .ref (z (3 + 3))) rfl d_Reader_process_33 ?_
          have hFc := y_free hD hS hA
          refine va_calli (va_runU (As := []) (rest := [.ref (z 20)]) ⟨hx, hb, hml, hown, hts⟩ (c_E_ordinal0 l dC dI ar N0 z ad I114 T A114 O114 pl114 3 H.size (y_hs H) (by decide)) (va_cwU (owner := "java/lang/Enum") 0 hts (x_goodU k_486 k_487 k_489 k_490 k_15 k_491) rfl rfl rfl rfl (by decide +kernel) ⟨Nat.le_trans (m := 40) (Nat.le_of_ble_eq_true rfl) (Nat.le_add_left 40 _), Nat.le_trans (m := 1400) (Nat.le_of_ble_eq_true rfl) (Nat.le_add_left 1400 _)⟩) ⟨y_blind, va_recvE (E := "ChannelMachine$Kind") (ad := fun i => z (3 + i)) (hZ.2.1.narrow hAN) (show 3 < 11 from by decide) hS, fun U9 hU9 hW9 => y_pre hU9 hW9 hP hD hU hZ hS hAN hN0⟩ rfl rfl hl.1 rfl (lv_room (Nat.le_of_ble_eq_true rfl)) d_Reader_process_36 ⟨(by show 0 + (2) + (0) ≤ 3 * (72 - aa) + 2; omega), (by show 0 + (17) + (0) ≤ 100 * (72 - aa) + 80; omega)⟩) hS (fun q _ h => hFc q h) hFc (fun r_149 u t H1 locs ht hvm hw hB hz1 hk1 hS => ?_)
          obtain ⟨I150, T150, A150, O150, pl150, q150, s150, cq150, cs150⟩ := u
          dsimp only at hw hB
          rw [ht] at hB
          obtain ⟨hP, hD1, hac150⟩ := hB
          have hD : va_D Bq (y_W ad ar I150 T150 A150 O150 pl150) := hD1.weaken (fun _ q _ h => hFc q.1 h)
          generalize H1 = H at hP hS hac150 ⊢
          have hae150 := hac150
          try unfold y_ac at hae150
          try dsimp only at hae150
          refine W.widen (k := 0 + (2)) (n := 0 + (17)) (by omega) (by omega) ?_
          obtain ⟨h9, hw⟩ := hw
          cases h9
          subst hw
          refine va_ti (t := z 20) (N := 11) (f := y_sw) (v := .int 0) hx hb (hZ.2.2.2.1.narrow hAN) hS (by unfold vp_in; decide) rfl d_Reader_process_39 ?_
          refine lv_tableOut (tgt := 342) hx hb d_Reader_process_40 (by decide) (by decide) ?_
          refine lv_iconst (v := 1) hx hb d_Reader_process_342 (by decide) ?_
          obtain ⟨hd9, hph9⟩ := hdxB.close hg1 (Or.inr (by rw [hg2]; decide))
          refine y_know (fun hy91 hy92 hy93 hy94 => ?_)
          have hac9 : y_rc s.heap.size (y_hs s.heap) aa (aa + 1) 0 H := ⟨by omega, by omega⟩
          refine W.widen (k := 3 * (72 - aa) + 2) (n := 100 * (72 - aa) + 80) (by omega) (by omega) ?_
          exact W.zret (v := 1) hx hb hr (rfl) (fun t ht hW => ⟨⟨1, (I114, T, A114, O114, pl114, (ln, s114, 0, aa + 1)), rfl, ⟨hmi, rfl, hO114, (m_fr.rf.tr fr114 (by decide)), by dsimp only; omega, Or.inr ⟨rfl, rfl, p114, y_SU.mk hzp114 hfx hcx hg1 hg6 hd9 hph9 y_un_s, hpr⟩⟩, (by dsimp only; rw [ht]; exact ⟨hP, hD, hac9⟩)⟩, hS.F ht⟩) hS.2.2 d_Reader_process_343
        · have hfp114 : y_L pl114 p114 = some (.inr (7, [.ref (z (3 + 4)), .ref P, .null, .null, .null, .ref t114, .null, .ref (z 21), .int chB, .int vaB])) := hfp114
          have hpeB : y_L pl114 p114 ≠ none := by rw [hfp114]; exact nofun
          have hpf : y_L pl114 p114 = some (.inr (7, y_Pf z C114 Gs114 p114 (J114 p114) (some P) none (some t114) (z 21) chB vaB)) := by rw [hfp114]; unfold y_Pf; rw [hg2, hg3, hg4]; rfl
          refine lv_astore (lv' := [(4, .ref p114), (0, .ref (ad 1)), (1, .ref P), (2, .int (Int32.ofNat dp)), (3, .int gv)]) hx hb d_Reader_process_16 hl (by decide) rfl (fun ls hl => ?_)
          refine lv_aload hx hb d_Reader_process_18 (lv_at hl 0 rfl) ?_
          refine lv_ifnonnull (tgt := 28) hx hb d_Reader_process_20 (by decide) ?_
          refine va_gets hx hb (hZ.2.2.1.narrow hAN) hS hown (hts _ k_484) (fun _ h9 => h9) d_Reader_process_28 ?_
          refine lv_aload hx hb d_Reader_process_31 (lv_at hl 0 rfl) ?_
          refine d_gN (C := "ChannelMachine$Process") (F := F_Process) (N := 10) hx hb hts i_Process hown hK hP hfp114 0 rfl (by decide) (hU.1.2.1 _ kn_392) (fun _ h9 => h9) (v := .ref (z (3 + 4))) rfl d_Reader_process_33 ?_
          have hFc := y_free hD hS hA
          refine va_calli (va_runU (As := []) (rest := [.ref (z 20)]) ⟨hx, hb, hml, hown, hts⟩ (c_E_ordinal0 l dC dI ar N0 z ad I114 T A114 O114 pl114 4 H.size (y_hs H) (by decide)) (va_cwU (owner := "java/lang/Enum") 0 hts (x_goodU k_486 k_487 k_489 k_490 k_15 k_491) rfl rfl rfl rfl (by decide +kernel) ⟨Nat.le_trans (m := 40) (Nat.le_of_ble_eq_true rfl) (Nat.le_add_left 40 _), Nat.le_trans (m := 1400) (Nat.le_of_ble_eq_true rfl) (Nat.le_add_left 1400 _)⟩) ⟨y_blind, va_recvE (E := "ChannelMachine$Kind") (ad := fun i => z (3 + i)) (hZ.2.1.narrow hAN) (show 4 < 11 from by decide) hS, fun U9 hU9 hW9 => y_pre hU9 hW9 hP hD hU hZ hS hAN hN0⟩ rfl rfl hl.1 rfl (lv_room (Nat.le_of_ble_eq_true rfl)) d_Reader_process_36 ⟨(by show 0 + (2) + (0) ≤ 3 * (72 - aa) + 2; omega), (by show 0 + (17) + (0) ≤ 100 * (72 - aa) + 80; omega)⟩) hS (fun q _ h => hFc q h) hFc (fun r_151 u t H1 locs ht hvm hw hB hz1 hk1 hS => ?_)
          obtain ⟨I152, T152, A152, O152, pl152, q152, s152, cq152, cs152⟩ := u
          dsimp only at hw hB
          rw [ht] at hB
          obtain ⟨hP, hD1, hac152⟩ := hB
          have hD : va_D Bq (y_W ad ar I152 T152 A152 O152 pl152) := hD1.weaken (fun _ q _ h => hFc q.1 h)
          generalize H1 = H at hP hS hac152 ⊢
          have hae152 := hac152
          try unfold y_ac at hae152
          try dsimp only at hae152
          refine W.widen (k := 0 + (2)) (n := 0 + (17)) (by omega) (by omega) ?_
          obtain ⟨h9, hw⟩ := hw
          cases h9
          subst hw
          refine va_ti (t := z 20) (N := 11) (f := y_sw) (v := .int 10) hx hb (hZ.2.2.2.1.narrow hAN) hS (by unfold vp_in; decide) rfl d_Reader_process_39 ?_
          refine lv_tableOut (tgt := 342) hx hb d_Reader_process_40 (by decide) (by decide) ?_
          refine lv_iconst (v := 1) hx hb d_Reader_process_342 (by decide) ?_
          obtain ⟨hd9, hph9⟩ := hdxB.close hg1 (Or.inr (by rw [hg2]; decide))
          refine y_know (fun hy91 hy92 hy93 hy94 => ?_)
          have hac9 : y_rc s.heap.size (y_hs s.heap) aa (aa + 1) 0 H := ⟨by omega, by omega⟩
          refine W.widen (k := 3 * (72 - aa) + 2) (n := 100 * (72 - aa) + 80) (by omega) (by omega) ?_
          exact W.zret (v := 1) hx hb hr (rfl) (fun t ht hW => ⟨⟨1, (I114, T, A114, O114, pl114, (ln, s114, 0, aa + 1)), rfl, ⟨hmi, rfl, hO114, (m_fr.rf.tr fr114 (by decide)), by dsimp only; omega, Or.inr ⟨rfl, rfl, p114, y_SU.mk hzp114 hfx hcx hg1 hg6 hd9 hph9 y_un_s, hpr⟩⟩, (by dsimp only; rw [ht]; exact ⟨hP, hD, hac9⟩)⟩, hS.F ht⟩) hS.2.2 d_Reader_process_343
        · have hfp114 : y_L pl114 p114 = some (.inr (7, [.ref (z (3 + 5)), .ref P, .null, .null, .null, .ref t114, .null, .ref (z 21), .int chB, .int vaB])) := hfp114
          have hpeB : y_L pl114 p114 ≠ none := by rw [hfp114]; exact nofun
          have hpf : y_L pl114 p114 = some (.inr (7, y_Pf z C114 Gs114 p114 (J114 p114) (some P) none (some t114) (z 21) chB vaB)) := by rw [hfp114]; unfold y_Pf; rw [hg2, hg3, hg4]; rfl
          refine lv_astore (lv' := [(4, .ref p114), (0, .ref (ad 1)), (1, .ref P), (2, .int (Int32.ofNat dp)), (3, .int gv)]) hx hb d_Reader_process_16 hl (by decide) rfl (fun ls hl => ?_)
          refine lv_aload hx hb d_Reader_process_18 (lv_at hl 0 rfl) ?_
          refine lv_ifnonnull (tgt := 28) hx hb d_Reader_process_20 (by decide) ?_
          refine va_gets hx hb (hZ.2.2.1.narrow hAN) hS hown (hts _ k_484) (fun _ h9 => h9) d_Reader_process_28 ?_
          refine lv_aload hx hb d_Reader_process_31 (lv_at hl 0 rfl) ?_
          refine d_gN (C := "ChannelMachine$Process") (F := F_Process) (N := 10) hx hb hts i_Process hown hK hP hfp114 0 rfl (by decide) (hU.1.2.1 _ kn_392) (fun _ h9 => h9) (v := .ref (z (3 + 5))) rfl d_Reader_process_33 ?_
          have hFc := y_free hD hS hA
          refine va_calli (va_runU (As := []) (rest := [.ref (z 20)]) ⟨hx, hb, hml, hown, hts⟩ (c_E_ordinal0 l dC dI ar N0 z ad I114 T A114 O114 pl114 5 H.size (y_hs H) (by decide)) (va_cwU (owner := "java/lang/Enum") 0 hts (x_goodU k_486 k_487 k_489 k_490 k_15 k_491) rfl rfl rfl rfl (by decide +kernel) ⟨Nat.le_trans (m := 40) (Nat.le_of_ble_eq_true rfl) (Nat.le_add_left 40 _), Nat.le_trans (m := 1400) (Nat.le_of_ble_eq_true rfl) (Nat.le_add_left 1400 _)⟩) ⟨y_blind, va_recvE (E := "ChannelMachine$Kind") (ad := fun i => z (3 + i)) (hZ.2.1.narrow hAN) (show 5 < 11 from by decide) hS, fun U9 hU9 hW9 => y_pre hU9 hW9 hP hD hU hZ hS hAN hN0⟩ rfl rfl hl.1 rfl (lv_room (Nat.le_of_ble_eq_true rfl)) d_Reader_process_36 ⟨(by show 0 + (2) + (0) ≤ 3 * (72 - aa) + 2; omega), (by show 0 + (17) + (0) ≤ 100 * (72 - aa) + 80; omega)⟩) hS (fun q _ h => hFc q h) hFc (fun r_153 u t H1 locs ht hvm hw hB hz1 hk1 hS => ?_)
          obtain ⟨I154, T154, A154, O154, pl154, q154, s154, cq154, cs154⟩ := u
          dsimp only at hw hB
          rw [ht] at hB
          obtain ⟨hP, hD1, hac154⟩ := hB
          have hD : va_D Bq (y_W ad ar I154 T154 A154 O154 pl154) := hD1.weaken (fun _ q _ h => hFc q.1 h)
          generalize H1 = H at hP hS hac154 ⊢
          have hae154 := hac154
          try unfold y_ac at hae154
          try dsimp only at hae154
          refine W.widen (k := 0 + (2)) (n := 0 + (17)) (by omega) (by omega) ?_
          obtain ⟨h9, hw⟩ := hw
          cases h9
          subst hw
          refine va_ti (t := z 20) (N := 11) (f := y_sw) (v := .int 5) hx hb (hZ.2.2.2.1.narrow hAN) hS (by unfold vp_in; decide) rfl d_Reader_process_39 ?_
          refine lv_tableIn (tgt := 186) hx hb d_Reader_process_40 (by decide) (by decide) (off := 146) rfl (by decide) ?_
          refine lv_aload_n hx hb d_Reader_process_186 rfl (lv_at hl 1 rfl) ?_
          refine lv_aload hx hb d_Reader_process_187 (lv_at hl 0 rfl) ?_
          refine lv_iload_n hx hb d_Reader_process_189 rfl (lv_at hl 3 rfl) ?_
          refine lv_bipush (v := 72) hx hb d_Reader_process_190 (by decide) ?_
          refine W.eq (g2 := F0 m 192 ls [.int (Int32.ofNat 72), .int (Int32.ofNat dp), .ref p114, .ref (ad 1)]) rfl ?_
          refine y_know (fun hya1 hya2 hya3 hya4 => ?_)
          have hFc := y_free hD hS hA
          refine va_calli (va_runV (As := [.ref p114, .int (Int32.ofNat dp), .int (Int32.ofNat 72)]) (rest := []) ⟨hx, hb, hml, hown, hts⟩ (ihT l dC dI ar N0 z ad I114 T A114 O114 pl114 ln s114 (aa + 1) f0 G114 J114 C114 Gs114 S114 p114 dp 72 H.size (y_hs H) hmi hdxB hg1 hdT hrT hg3 ⟨by omega, fun h9 => by rw [hg2] at h9; omega⟩) (cwV 3 hts (x_goodV k_550 k_552 kp_16 k_2 k_553) rfl rfl rfl (by decide +kernel) ⟨(by show 2 * nn + 41 + 1 ≤ 2 * (nn + 1) + 40; omega), (by show 8 + (5 + 11) + (100 * nn + 1440) ≤ 100 * (nn + 1) + 1400; omega)⟩) ⟨y_blind, va_recv hK hP (ci := 3) (q0 := 1) rfl (y_W_ob (by decide) (by decide)), fun U9 hU9 hW9 => y_pre hU9 hW9 hP hD hU hZ hS hAN hN0⟩ rfl rfl hl.1 rfl (lv_room (Nat.le_of_ble_eq_true rfl)) d_Reader_process_192 ⟨(by show 0 + (2) + (3 * (72 - (aa + 1)) + 2) ≤ 3 * (72 - aa) + 2; omega), (by show 0 + (17) + (100 * (72 - (aa + 1)) + 80) ≤ 100 * (72 - aa) + 80; omega)⟩) hS (fun q _ h => hFc q h) hFc (fun r_155 u t H1 locs ht hvm hw hB hz1 hk1 hS => ?_)
          obtain ⟨I156, T156, A156, O156, pl156, q156, s156, cq156, cs156⟩ := u
          dsimp only at hw hB
          rw [ht] at hB
          obtain ⟨hP, hD1, hac156⟩ := hB
          have hD : va_D Bq (y_W ad ar I156 T156 A156 O156 pl156) := hD1.weaken (fun _ q _ h => hFc q.1 h)
          generalize H1 = H at hP hS hac156 ⊢
          have hae156 := hac156
          try unfold y_ac at hae156
          try dsimp only at hae156
          obtain ⟨hmi, e2, hO156, fr156, hge156, hbr⟩ := hw
          rw [e2] at hP hD
          have hP : va_P (dC, dI) y_cl (y_W ad ar I156 T A156 O156 pl156) H := hP
          have hD : va_D Bq (y_W ad ar I156 T A156 O156 pl156) := hD
          have hbn := hmi.2.1
          dsimp only at hbn
          rcases hbr with ⟨rfl, hsl, hfl156⟩ | ⟨rfl, hsl, G156, J156, C156, Gs156, S156, hdx156, hph156, hSp156⟩
          · unfold y_rc at hac156
            try dsimp only at hac156
            refine y_tight (k := 3 * (cs156 - aa) + 2) (n := 100 * (cs156 - aa) + 80) (by omega) (by omega) ?_
            refine lv_if_eq (tgt := 211) hx hb d_Reader_process_195 (by decide) (fun _ => ?_) (fun c157 => absurd (by decide) c157)
            refine lv_iconst (v := 0) hx hb d_Reader_process_211 (by decide) ?_
            have hfl : ∀ a, f0 a ≠ none → y_L pl156 a = f0 a := hfl156
            refine y_know (fun hy91 hy92 hy93 hy94 => ?_)
            have hac9 : y_rc s.heap.size (y_hs s.heap) aa cs156 1 H := ⟨by omega, by omega⟩
            refine W.widen (k := 3 * (72 - aa) + 2) (n := 100 * (72 - aa) + 80) (by omega) (by omega) ?_
            exact W.zret (v := 0) hx hb hr (rfl) (fun t ht hW => ⟨⟨0, (I156, T, A156, O156, pl156, (ln, s156, 1, cs156)), rfl, ⟨hmi, rfl, fun k hk => (hO156 k).trans ((hO114) k hk), ((m_fr.rf.tr fr114 (by decide)).tr fr156 (by decide)), by dsimp only; omega, Or.inl ⟨rfl, Nat.le_refl _, hfl⟩⟩, (by dsimp only; rw [ht]; exact ⟨hP, hD, hac9⟩)⟩, hS.F ht⟩) hS.2.2 d_Reader_process_212
          · subst hsl
            unfold y_rc at hac156
            try dsimp only at hac156
            refine y_tight (k := 3 * (cs156 - aa)) (n := 100 * (cs156 - aa)) (by omega) (by omega) ?_
            have hph := hph156
            refine lv_if_eq (tgt := 211) hx hb d_Reader_process_195 (by decide) (fun c158 => absurd c158 (by decide)) (fun _ => ?_)
            refine lv_aload_n hx hb d_Reader_process_198 rfl (lv_at hl 1 rfl) ?_
            refine lv_bipush (v := 41) hx hb d_Reader_process_199 (by decide) ?_
            have hFc := y_free hD hS hA
            refine va_calli (va_runV (As := [.int 41]) (rest := []) ⟨hx, hb, hml, hown, hts⟩ (c_Rd_expect l dC dI ar N0 z ad I156 T A156 O156 pl156 ln s156 ln cs156 (41) H.size (y_hs H) hmi (by decide)) (cwV 1 hts (x_goodV k_492 k_494 kp_7 k_2 k_495) rfl rfl rfl (by decide +kernel) ⟨Nat.le_trans (m := 40) (Nat.le_of_ble_eq_true rfl) (Nat.le_add_left 40 _), Nat.le_trans (m := 1400) (Nat.le_of_ble_eq_true rfl) (Nat.le_add_left 1400 _)⟩) ⟨y_blind, va_recv hK hP (ci := 3) (q0 := 1) rfl (y_W_ob (by decide) (by decide)), fun U9 hU9 hW9 => y_pre hU9 hW9 hP hD hU hZ hS hAN hN0⟩ rfl rfl hl.1 rfl (lv_room (Nat.le_of_ble_eq_true rfl)) d_Reader_process_201 ⟨(by show 3 * (cs156 - aa) + (0) ≤ 3 * (72 - aa) + 2; omega), (by show 100 * (cs156 - aa) + (0) ≤ 100 * (72 - aa) + 80; omega)⟩) hS (fun q _ h => hFc q h) hFc (fun r_159 u t H1 locs ht hvm hw hB hz1 hk1 hS => ?_)
            obtain ⟨I160, T160, A160, O160, pl160, q160, s160, cq160, cs160⟩ := u
            dsimp only at hw hB
            rw [ht] at hB
            obtain ⟨hP, hD1, hac160⟩ := hB
            have hD : va_D Bq (y_W ad ar I160 T160 A160 O160 pl160) := hD1.weaken (fun _ q _ h => hFc q.1 h)
            generalize H1 = H at hP hS hac160 ⊢
            have hae160 := hac160
            try unfold y_ac at hae160
            try dsimp only at hae160
            refine W.widen (k := 3 * (cs156 - aa)) (n := 100 * (cs156 - aa)) (by omega) (by omega) ?_
            obtain ⟨hmi, e2, e4, e5, fr160, e6, e7, hge160, hcc160, hr9⟩ := hw
            rw [e2, e4, e5] at hP hD
            rw [e6, e7] at hmi
            have hP : va_P (dC, dI) y_cl (y_W ad ar I160 T A160 O156 pl156) H := hP
            have hD : va_D Bq (y_W ad ar I160 T A160 O156 pl156) := hD
            have hbn := hmi.2.1
            dsimp only at hbn
            rcases hr9 with rfl | ⟨rfl, hex161⟩
            · refine lv_if_eq (tgt := 211) hx hb d_Reader_process_204 (by decide) (fun _ => ?_) (fun c162 => absurd (by decide) c162)
              refine lv_iconst (v := 0) hx hb d_Reader_process_211 (by decide) ?_
              have hfl : ∀ a, f0 a ≠ none → y_L pl156 a = f0 a := fun a ha => (hdx156.1 a ha).1
              refine y_know (fun hy91 hy92 hy93 hy94 => ?_)
              have hac9 : y_rc s.heap.size (y_hs s.heap) aa cs160 1 H := ⟨by omega, by omega⟩
              refine W.widen (k := 3 * (72 - aa) + 2) (n := 100 * (72 - aa) + 80) (by omega) (by omega) ?_
              exact W.zret (v := 0) hx hb hr (rfl) (fun t ht hW => ⟨⟨0, (I160, T, A160, O156, pl156, (ln, s160, 1, cs160)), rfl, ⟨hmi, rfl, fun k hk => (hO156 k).trans ((hO114) k hk), (((m_fr.rf.tr fr114 (by decide)).tr fr156 (by decide)).tr fr160 (by decide)), by dsimp only; omega, Or.inl ⟨rfl, Nat.le_refl _, hfl⟩⟩, (by dsimp only; rw [ht]; exact ⟨hP, hD, hac9⟩)⟩, hS.F ht⟩) hS.2.2 d_Reader_process_212
            · refine lv_if_eq (tgt := 211) hx hb d_Reader_process_204 (by decide) (fun c163 => absurd c163 (by decide)) (fun _ => ?_)
              refine lv_iconst (v := 1) hx hb d_Reader_process_207 (by decide) ?_
              refine lv_goto (tgt := 212) hx hb d_Reader_process_208 (by decide) ?_
              obtain ⟨hd9, hph9⟩ := hdx156.close (p := p114) (hph.2.1.2.1.trans hg1) (Or.inr (by rw [hph.2.1.2.2, hg2]; decide))
              refine y_know (fun hy91 hy92 hy93 hy94 => ?_)
              have hac9 : y_rc s.heap.size (y_hs s.heap) aa cs160 0 H := ⟨by omega, by omega⟩
              refine W.widen (k := 3 * (72 - aa) + 2) (n := 100 * (72 - aa) + 80) (by omega) (by omega) ?_
              exact W.zret (v := 1) hx hb hr (rfl) (fun t ht hW => ⟨⟨1, (I160, T, A160, O156, pl156, (ln, s160, 0, cs160)), rfl, ⟨hmi, rfl, fun k hk => (hO156 k).trans ((hO114) k hk), (((m_fr.rf.tr fr114 (by decide)).tr fr156 (by decide)).tr fr160 (by decide)), by dsimp only; omega, Or.inr ⟨rfl, rfl, p114, y_SU.mk hzp114 hfx hcx hg1 hg6 hd9 (hph.tr hph9 hpeB) y_un_s, fun h9 => ((fun k => hO156 k) 0).trans (hpr h9)⟩⟩, (by dsimp only; rw [ht]; exact ⟨hP, hD, hac9⟩)⟩, hS.F ht⟩) hS.2.2 d_Reader_process_212
        · have hfp114 : y_L pl114 p114 = some (.inr (7, [.ref (z (3 + 6)), .ref P, .null, .null, .null, .ref t114, .null, .ref (z 21), .int chB, .int vaB])) := hfp114
          have hpeB : y_L pl114 p114 ≠ none := by rw [hfp114]; exact nofun
          have hpf : y_L pl114 p114 = some (.inr (7, y_Pf z C114 Gs114 p114 (J114 p114) (some P) none (some t114) (z 21) chB vaB)) := by rw [hfp114]; unfold y_Pf; rw [hg2, hg3, hg4]; rfl
          refine lv_astore (lv' := [(4, .ref p114), (0, .ref (ad 1)), (1, .ref P), (2, .int (Int32.ofNat dp)), (3, .int gv)]) hx hb d_Reader_process_16 hl (by decide) rfl (fun ls hl => ?_)
          refine lv_aload hx hb d_Reader_process_18 (lv_at hl 0 rfl) ?_
          refine lv_ifnonnull (tgt := 28) hx hb d_Reader_process_20 (by decide) ?_
          refine va_gets hx hb (hZ.2.2.1.narrow hAN) hS hown (hts _ k_484) (fun _ h9 => h9) d_Reader_process_28 ?_
          refine lv_aload hx hb d_Reader_process_31 (lv_at hl 0 rfl) ?_
          refine d_gN (C := "ChannelMachine$Process") (F := F_Process) (N := 10) hx hb hts i_Process hown hK hP hfp114 0 rfl (by decide) (hU.1.2.1 _ kn_392) (fun _ h9 => h9) (v := .ref (z (3 + 6))) rfl d_Reader_process_33 ?_
          have hFc := y_free hD hS hA
          refine va_calli (va_runU (As := []) (rest := [.ref (z 20)]) ⟨hx, hb, hml, hown, hts⟩ (c_E_ordinal0 l dC dI ar N0 z ad I114 T A114 O114 pl114 6 H.size (y_hs H) (by decide)) (va_cwU (owner := "java/lang/Enum") 0 hts (x_goodU k_486 k_487 k_489 k_490 k_15 k_491) rfl rfl rfl rfl (by decide +kernel) ⟨Nat.le_trans (m := 40) (Nat.le_of_ble_eq_true rfl) (Nat.le_add_left 40 _), Nat.le_trans (m := 1400) (Nat.le_of_ble_eq_true rfl) (Nat.le_add_left 1400 _)⟩) ⟨y_blind, va_recvE (E := "ChannelMachine$Kind") (ad := fun i => z (3 + i)) (hZ.2.1.narrow hAN) (show 6 < 11 from by decide) hS, fun U9 hU9 hW9 => y_pre hU9 hW9 hP hD hU hZ hS hAN hN0⟩ rfl rfl hl.1 rfl (lv_room (Nat.le_of_ble_eq_true rfl)) d_Reader_process_36 ⟨(by show 0 + (2) + (0) ≤ 3 * (72 - aa) + 2; omega), (by show 0 + (17) + (0) ≤ 100 * (72 - aa) + 80; omega)⟩) hS (fun q _ h => hFc q h) hFc (fun r_164 u t H1 locs ht hvm hw hB hz1 hk1 hS => ?_)
          obtain ⟨I165, T165, A165, O165, pl165, q165, s165, cq165, cs165⟩ := u
          dsimp only at hw hB
          rw [ht] at hB
          obtain ⟨hP, hD1, hac165⟩ := hB
          have hD : va_D Bq (y_W ad ar I165 T165 A165 O165 pl165) := hD1.weaken (fun _ q _ h => hFc q.1 h)
          generalize H1 = H at hP hS hac165 ⊢
          have hae165 := hac165
          try unfold y_ac at hae165
          try dsimp only at hae165
          refine W.widen (k := 0 + (2)) (n := 0 + (17)) (by omega) (by omega) ?_
          obtain ⟨h9, hw⟩ := hw
          cases h9
          subst hw
          refine va_ti (t := z 20) (N := 11) (f := y_sw) (v := .int 6) hx hb (hZ.2.2.2.1.narrow hAN) hS (by unfold vp_in; decide) rfl d_Reader_process_39 ?_
          refine lv_tableIn (tgt := 213) hx hb d_Reader_process_40 (by decide) (by decide) (off := 173) rfl (by decide) ?_
          refine lv_aload_n hx hb d_Reader_process_213 rfl (lv_at hl 1 rfl) ?_
          refine lv_aload hx hb d_Reader_process_214 (lv_at hl 0 rfl) ?_
          refine lv_iload_n hx hb d_Reader_process_216 rfl (lv_at hl 3 rfl) ?_
          refine lv_iconst (v := 4) hx hb d_Reader_process_217 (by decide) ?_
          refine W.eq (g2 := F0 m 218 ls [.int (Int32.ofNat 4), .int (Int32.ofNat dp), .ref p114, .ref (ad 1)]) rfl ?_
          refine y_know (fun hya1 hya2 hya3 hya4 => ?_)
          have hFc := y_free hD hS hA
          refine va_calli (va_runV (As := [.ref p114, .int (Int32.ofNat dp), .int (Int32.ofNat 4)]) (rest := []) ⟨hx, hb, hml, hown, hts⟩ (ihT l dC dI ar N0 z ad I114 T A114 O114 pl114 ln s114 (aa + 1) f0 G114 J114 C114 Gs114 S114 p114 dp 4 H.size (y_hs H) hmi hdxB hg1 hdT hrT hg3 ⟨by omega, fun h9 => by rw [hg2] at h9; omega⟩) (cwV 3 hts (x_goodV k_550 k_552 kp_16 k_2 k_553) rfl rfl rfl (by decide +kernel) ⟨(by show 2 * nn + 41 + 1 ≤ 2 * (nn + 1) + 40; omega), (by show 8 + (5 + 11) + (100 * nn + 1440) ≤ 100 * (nn + 1) + 1400; omega)⟩) ⟨y_blind, va_recv hK hP (ci := 3) (q0 := 1) rfl (y_W_ob (by decide) (by decide)), fun U9 hU9 hW9 => y_pre hU9 hW9 hP hD hU hZ hS hAN hN0⟩ rfl rfl hl.1 rfl (lv_room (Nat.le_of_ble_eq_true rfl)) d_Reader_process_218 ⟨(by show 0 + (2) + (3 * (72 - (aa + 1)) + 2) ≤ 3 * (72 - aa) + 2; omega), (by show 0 + (17) + (100 * (72 - (aa + 1)) + 80) ≤ 100 * (72 - aa) + 80; omega)⟩) hS (fun q _ h => hFc q h) hFc (fun r_166 u t H1 locs ht hvm hw hB hz1 hk1 hS => ?_)
          obtain ⟨I167, T167, A167, O167, pl167, q167, s167, cq167, cs167⟩ := u
          dsimp only at hw hB
          rw [ht] at hB
          obtain ⟨hP, hD1, hac167⟩ := hB
          have hD : va_D Bq (y_W ad ar I167 T167 A167 O167 pl167) := hD1.weaken (fun _ q _ h => hFc q.1 h)
          generalize H1 = H at hP hS hac167 ⊢
          have hae167 := hac167
          try unfold y_ac at hae167
          try dsimp only at hae167
          obtain ⟨hmi, e2, hO167, fr167, hge167, hbr⟩ := hw
          rw [e2] at hP hD
          have hP : va_P (dC, dI) y_cl (y_W ad ar I167 T A167 O167 pl167) H := hP
          have hD : va_D Bq (y_W ad ar I167 T A167 O167 pl167) := hD
          have hbn := hmi.2.1
          dsimp only at hbn
          rcases hbr with ⟨rfl, hsl, hfl167⟩ | ⟨rfl, hsl, G167, J167, C167, Gs167, S167, hdx167, hph167, hSp167⟩
          · unfold y_rc at hac167
            try dsimp only at hac167
            refine y_tight (k := 3 * (cs167 - aa) + 2) (n := 100 * (cs167 - aa) + 80) (by omega) (by omega) ?_
            refine lv_if_eq (tgt := 237) hx hb d_Reader_process_221 (by decide) (fun _ => ?_) (fun c168 => absurd (by decide) c168)
            refine lv_iconst (v := 0) hx hb d_Reader_process_237 (by decide) ?_
            have hfl : ∀ a, f0 a ≠ none → y_L pl167 a = f0 a := hfl167
            refine y_know (fun hy91 hy92 hy93 hy94 => ?_)
            have hac9 : y_rc s.heap.size (y_hs s.heap) aa cs167 1 H := ⟨by omega, by omega⟩
            refine W.widen (k := 3 * (72 - aa) + 2) (n := 100 * (72 - aa) + 80) (by omega) (by omega) ?_
            exact W.zret (v := 0) hx hb hr (rfl) (fun t ht hW => ⟨⟨0, (I167, T, A167, O167, pl167, (ln, s167, 1, cs167)), rfl, ⟨hmi, rfl, fun k hk => (hO167 k).trans ((hO114) k hk), ((m_fr.rf.tr fr114 (by decide)).tr fr167 (by decide)), by dsimp only; omega, Or.inl ⟨rfl, Nat.le_refl _, hfl⟩⟩, (by dsimp only; rw [ht]; exact ⟨hP, hD, hac9⟩)⟩, hS.F ht⟩) hS.2.2 d_Reader_process_238
          · subst hsl
            unfold y_rc at hac167
            try dsimp only at hac167
            refine y_tight (k := 3 * (cs167 - aa)) (n := 100 * (cs167 - aa)) (by omega) (by omega) ?_
            have hph := hph167
            refine lv_if_eq (tgt := 237) hx hb d_Reader_process_221 (by decide) (fun c169 => absurd c169 (by decide)) (fun _ => ?_)
            refine lv_aload_n hx hb d_Reader_process_224 rfl (lv_at hl 1 rfl) ?_
            refine lv_bipush (v := 125) hx hb d_Reader_process_225 (by decide) ?_
            have hFc := y_free hD hS hA
            refine va_calli (va_runV (As := [.int 125]) (rest := []) ⟨hx, hb, hml, hown, hts⟩ (c_Rd_expect l dC dI ar N0 z ad I167 T A167 O167 pl167 ln s167 ln cs167 (125) H.size (y_hs H) hmi (by decide)) (cwV 1 hts (x_goodV k_492 k_494 kp_7 k_2 k_495) rfl rfl rfl (by decide +kernel) ⟨Nat.le_trans (m := 40) (Nat.le_of_ble_eq_true rfl) (Nat.le_add_left 40 _), Nat.le_trans (m := 1400) (Nat.le_of_ble_eq_true rfl) (Nat.le_add_left 1400 _)⟩) ⟨y_blind, va_recv hK hP (ci := 3) (q0 := 1) rfl (y_W_ob (by decide) (by decide)), fun U9 hU9 hW9 => y_pre hU9 hW9 hP hD hU hZ hS hAN hN0⟩ rfl rfl hl.1 rfl (lv_room (Nat.le_of_ble_eq_true rfl)) d_Reader_process_227 ⟨(by show 3 * (cs167 - aa) + (0) ≤ 3 * (72 - aa) + 2; omega), (by show 100 * (cs167 - aa) + (0) ≤ 100 * (72 - aa) + 80; omega)⟩) hS (fun q _ h => hFc q h) hFc (fun r_170 u t H1 locs ht hvm hw hB hz1 hk1 hS => ?_)
            obtain ⟨I171, T171, A171, O171, pl171, q171, s171, cq171, cs171⟩ := u
            dsimp only at hw hB
            rw [ht] at hB
            obtain ⟨hP, hD1, hac171⟩ := hB
            have hD : va_D Bq (y_W ad ar I171 T171 A171 O171 pl171) := hD1.weaken (fun _ q _ h => hFc q.1 h)
            generalize H1 = H at hP hS hac171 ⊢
            have hae171 := hac171
            try unfold y_ac at hae171
            try dsimp only at hae171
            refine W.widen (k := 3 * (cs167 - aa)) (n := 100 * (cs167 - aa)) (by omega) (by omega) ?_
            obtain ⟨hmi, e2, e4, e5, fr171, e6, e7, hge171, hcc171, hr9⟩ := hw
            rw [e2, e4, e5] at hP hD
            rw [e6, e7] at hmi
            have hP : va_P (dC, dI) y_cl (y_W ad ar I171 T A171 O167 pl167) H := hP
            have hD : va_D Bq (y_W ad ar I171 T A171 O167 pl167) := hD
            have hbn := hmi.2.1
            dsimp only at hbn
            rcases hr9 with rfl | ⟨rfl, hex172⟩
            · refine lv_if_eq (tgt := 237) hx hb d_Reader_process_230 (by decide) (fun _ => ?_) (fun c173 => absurd (by decide) c173)
              refine lv_iconst (v := 0) hx hb d_Reader_process_237 (by decide) ?_
              have hfl : ∀ a, f0 a ≠ none → y_L pl167 a = f0 a := fun a ha => (hdx167.1 a ha).1
              refine y_know (fun hy91 hy92 hy93 hy94 => ?_)
              have hac9 : y_rc s.heap.size (y_hs s.heap) aa cs171 1 H := ⟨by omega, by omega⟩
              refine W.widen (k := 3 * (72 - aa) + 2) (n := 100 * (72 - aa) + 80) (by omega) (by omega) ?_
              exact W.zret (v := 0) hx hb hr (rfl) (fun t ht hW => ⟨⟨0, (I171, T, A171, O167, pl167, (ln, s171, 1, cs171)), rfl, ⟨hmi, rfl, fun k hk => (hO167 k).trans ((hO114) k hk), (((m_fr.rf.tr fr114 (by decide)).tr fr167 (by decide)).tr fr171 (by decide)), by dsimp only; omega, Or.inl ⟨rfl, Nat.le_refl _, hfl⟩⟩, (by dsimp only; rw [ht]; exact ⟨hP, hD, hac9⟩)⟩, hS.F ht⟩) hS.2.2 d_Reader_process_238
            · refine lv_if_eq (tgt := 237) hx hb d_Reader_process_230 (by decide) (fun c174 => absurd c174 (by decide)) (fun _ => ?_)
              refine lv_iconst (v := 1) hx hb d_Reader_process_233 (by decide) ?_
              refine lv_goto (tgt := 238) hx hb d_Reader_process_234 (by decide) ?_
              obtain ⟨hd9, hph9⟩ := hdx167.close (p := p114) (hph.2.1.2.1.trans hg1) (Or.inr (by rw [hph.2.1.2.2, hg2]; decide))
              refine y_know (fun hy91 hy92 hy93 hy94 => ?_)
              have hac9 : y_rc s.heap.size (y_hs s.heap) aa cs171 0 H := ⟨by omega, by omega⟩
              refine W.widen (k := 3 * (72 - aa) + 2) (n := 100 * (72 - aa) + 80) (by omega) (by omega) ?_
              exact W.zret (v := 1) hx hb hr (rfl) (fun t ht hW => ⟨⟨1, (I171, T, A171, O167, pl167, (ln, s171, 0, cs171)), rfl, ⟨hmi, rfl, fun k hk => (hO167 k).trans ((hO114) k hk), (((m_fr.rf.tr fr114 (by decide)).tr fr167 (by decide)).tr fr171 (by decide)), by dsimp only; omega, Or.inr ⟨rfl, rfl, p114, y_SU.mk hzp114 hfx hcx hg1 hg6 hd9 (hph.tr hph9 hpeB) y_un_s, fun h9 => ((fun k => hO167 k) 0).trans (hpr h9)⟩⟩, (by dsimp only; rw [ht]; exact ⟨hP, hD, hac9⟩)⟩, hS.F ht⟩) hS.2.2 d_Reader_process_238
        · have hfp114 : y_L pl114 p114 = some (.inr (7, [.ref (z (3 + 7)), .ref P, .null, .null, .null, .ref t114, .null, .ref (z 21), .int chB, .int vaB])) := hfp114
          have hpeB : y_L pl114 p114 ≠ none := by rw [hfp114]; exact nofun
          have hpf : y_L pl114 p114 = some (.inr (7, y_Pf z C114 Gs114 p114 (J114 p114) (some P) none (some t114) (z 21) chB vaB)) := by rw [hfp114]; unfold y_Pf; rw [hg2, hg3, hg4]; rfl
          refine lv_astore (lv' := [(4, .ref p114), (0, .ref (ad 1)), (1, .ref P), (2, .int (Int32.ofNat dp)), (3, .int gv)]) hx hb d_Reader_process_16 hl (by decide) rfl (fun ls hl => ?_)
          refine lv_aload hx hb d_Reader_process_18 (lv_at hl 0 rfl) ?_
          refine lv_ifnonnull (tgt := 28) hx hb d_Reader_process_20 (by decide) ?_
          refine va_gets hx hb (hZ.2.2.1.narrow hAN) hS hown (hts _ k_484) (fun _ h9 => h9) d_Reader_process_28 ?_
          refine lv_aload hx hb d_Reader_process_31 (lv_at hl 0 rfl) ?_
          refine d_gN (C := "ChannelMachine$Process") (F := F_Process) (N := 10) hx hb hts i_Process hown hK hP hfp114 0 rfl (by decide) (hU.1.2.1 _ kn_392) (fun _ h9 => h9) (v := .ref (z (3 + 7))) rfl d_Reader_process_33 ?_
          have hFc := y_free hD hS hA
          refine va_calli (va_runU (As := []) (rest := [.ref (z 20)]) ⟨hx, hb, hml, hown, hts⟩ (c_E_ordinal0 l dC dI ar N0 z ad I114 T A114 O114 pl114 7 H.size (y_hs H) (by decide)) (va_cwU (owner := "java/lang/Enum") 0 hts (x_goodU k_486 k_487 k_489 k_490 k_15 k_491) rfl rfl rfl rfl (by decide +kernel) ⟨Nat.le_trans (m := 40) (Nat.le_of_ble_eq_true rfl) (Nat.le_add_left 40 _), Nat.le_trans (m := 1400) (Nat.le_of_ble_eq_true rfl) (Nat.le_add_left 1400 _)⟩) ⟨y_blind, va_recvE (E := "ChannelMachine$Kind") (ad := fun i => z (3 + i)) (hZ.2.1.narrow hAN) (show 7 < 11 from by decide) hS, fun U9 hU9 hW9 => y_pre hU9 hW9 hP hD hU hZ hS hAN hN0⟩ rfl rfl hl.1 rfl (lv_room (Nat.le_of_ble_eq_true rfl)) d_Reader_process_36 ⟨(by show 0 + (2) + (0) ≤ 3 * (72 - aa) + 2; omega), (by show 0 + (17) + (0) ≤ 100 * (72 - aa) + 80; omega)⟩) hS (fun q _ h => hFc q h) hFc (fun r_175 u t H1 locs ht hvm hw hB hz1 hk1 hS => ?_)
          obtain ⟨I176, T176, A176, O176, pl176, q176, s176, cq176, cs176⟩ := u
          dsimp only at hw hB
          rw [ht] at hB
          obtain ⟨hP, hD1, hac176⟩ := hB
          have hD : va_D Bq (y_W ad ar I176 T176 A176 O176 pl176) := hD1.weaken (fun _ q _ h => hFc q.1 h)
          generalize H1 = H at hP hS hac176 ⊢
          have hae176 := hac176
          try unfold y_ac at hae176
          try dsimp only at hae176
          refine W.widen (k := 0 + (2)) (n := 0 + (17)) (by omega) (by omega) ?_
          obtain ⟨h9, hw⟩ := hw
          cases h9
          subst hw
          refine va_ti (t := z 20) (N := 11) (f := y_sw) (v := .int 8) hx hb (hZ.2.2.2.1.narrow hAN) hS (by unfold vp_in; decide) rfl d_Reader_process_39 ?_
          refine lv_tableIn (tgt := 264) hx hb d_Reader_process_40 (by decide) (by decide) (off := 224) rfl (by decide) ?_
          refine lv_aload_n hx hb d_Reader_process_264 rfl (lv_at hl 1 rfl) ?_
          refine lv_aload hx hb d_Reader_process_265 (lv_at hl 0 rfl) ?_
          refine y_know (fun hya1 hya2 hya3 hya4 => ?_)
          have hFc := y_free hD hS hA
          refine va_calli (va_runV (As := [.ref p114]) (rest := []) ⟨hx, hb, hml, hown, hts⟩ (c_Rd_condition l dC dI ar N0 z ad I114 T A114 O114 pl114 ln s114 ln (aa + 1) p114 (.ref (z (3 + 7))) (.ref P) (.null) (.null) (.null) (.ref t114) (.null) (.ref (z 21)) (.int chB) (.int vaB) H.size (y_hs H) hmi hfp114) (cwV 1 hts (x_goodV k_603 k_605 kp_19 k_2 k_606) rfl rfl rfl (by decide +kernel) ⟨Nat.le_trans (m := 40) (Nat.le_of_ble_eq_true rfl) (Nat.le_add_left 40 _), Nat.le_trans (m := 1400) (Nat.le_of_ble_eq_true rfl) (Nat.le_add_left 1400 _)⟩) ⟨y_blind, va_recv hK hP (ci := 3) (q0 := 1) rfl (y_W_ob (by decide) (by decide)), fun U9 hU9 hW9 => y_pre hU9 hW9 hP hD hU hZ hS hAN hN0⟩ rfl rfl hl.1 rfl (lv_room (Nat.le_of_ble_eq_true rfl)) d_Reader_process_267 ⟨(by show 0 + (2) + (1) ≤ 3 * (72 - aa) + 2; omega), (by show 0 + (17) + (72) ≤ 100 * (72 - aa) + 80; omega)⟩) hS (fun q _ h => hFc q h) hFc (fun r_177 u t H1 locs ht hvm hw hB hz1 hk1 hS => ?_)
          obtain ⟨I178, T178, A178, O178, pl178, q178, s178, cq178, cs178⟩ := u
          dsimp only at hw hB
          rw [ht] at hB
          obtain ⟨hP, hD1, hac178⟩ := hB
          have hD : va_D Bq (y_W ad ar I178 T178 A178 O178 pl178) := hD1.weaken (fun _ q _ h => hFc q.1 h)
          generalize H1 = H at hP hS hac178 ⊢
          have hae178 := hac178
          try unfold y_ac at hae178
          try dsimp only at hae178
          obtain ⟨hmi, e2, e4, fr178, e6, e7, hge178, hbr⟩ := hw
          rw [e2, e4] at hP hD
          rw [e6, e7] at hmi
          have hP : va_P (dC, dI) y_cl (y_W ad ar I178 T A178 O114 pl178) H := hP
          have hD : va_D Bq (y_W ad ar I178 T A178 O114 pl178) := hD
          have hbn := hmi.2.1
          dsimp only at hbn
          rcases hbr with ⟨rfl, hog⟩ | ⟨rfl, q178_, nq, hq9, hzq, hnq, hokq, hqq, hfp114, hoq⟩
          · refine lv_if_eq (tgt := 290) hx hb d_Reader_process_270 (by decide) (fun _ => ?_) (fun c179 => absurd (by decide) c179)
            refine lv_iconst (v := 0) hx hb d_Reader_process_290 (by decide) ?_
            have hfl : ∀ a, f0 a ≠ none → y_L pl178 a = f0 a := (hdxB.keep1 hg1 hog)
            refine y_know (fun hy91 hy92 hy93 hy94 => ?_)
            have hac9 : y_rc s.heap.size (y_hs s.heap) aa cs178 1 H := ⟨by omega, by omega⟩
            refine W.widen (k := 3 * (72 - aa) + 2) (n := 100 * (72 - aa) + 80) (by omega) (by omega) ?_
            exact W.zret (v := 0) hx hb hr (rfl) (fun t ht hW => ⟨⟨0, (I178, T, A178, O114, pl178, (ln, s178, 1, cs178)), rfl, ⟨hmi, rfl, hO114, ((m_fr.rf.tr fr114 (by decide)).tr fr178 (by decide)), by dsimp only; omega, Or.inl ⟨rfl, Nat.le_refl _, hfl⟩⟩, (by dsimp only; rw [ht]; exact ⟨hP, hD, hac9⟩)⟩, hS.F ht⟩) hS.2.2 d_Reader_process_291
          · obtain ⟨hd178, hph178⟩ := y_DX.code (f' := y_L pl178) (s' := 2) (q := q178_) hdxB hg1 hpf hzq hnq hokq hqq (by rw [hfp114]; unfold y_Pf; rw [hg2, hg3, hg4]; rfl) hoq (fun h9 => by omega)
            have hph := hph178
            refine lv_if_eq (tgt := 290) hx hb d_Reader_process_270 (by decide) (fun c180 => absurd c180 (by decide)) (fun _ => ?_)
            refine lv_aload_n hx hb d_Reader_process_273 rfl (lv_at hl 1 rfl) ?_
            refine lv_aload hx hb d_Reader_process_274 (lv_at hl 0 rfl) ?_
            refine lv_iload_n hx hb d_Reader_process_276 rfl (lv_at hl 3 rfl) ?_
            refine lv_iconst (v := 1) hx hb d_Reader_process_277 (by decide) ?_
            refine lv_iadd hx hb d_Reader_process_278 ?_
            refine W.eq (g2 := F0 m 279 ls [.int (Int32.ofNat (dp + 1)), .ref p114, .ref (ad 1)]) (by rw [← x_addN (a := dp) (b := 1)] <;> rfl) ?_
            refine lv_iload_n hx hb d_Reader_process_279 rfl (lv_at hl 4 rfl) ?_
            refine y_know (fun hya1 hya2 hya3 hya4 => ?_)
            have hFc := y_free hD hS hA
            refine va_calli (va_runV (As := [.ref p114, .int (Int32.ofNat (dp + 1)), .int gv]) (rest := []) ⟨hx, hb, hml, hown, hts⟩ (ihP l dC dI ar N0 z ad I178 T A178 O114 pl178 ln s178 cs178 f0 (y_un G114 q178_ 10) J114 C114 Gs114 (y_un S114 p114 2) (some p114) ((dp + 1)) (gv) H.size (y_hs H) hmi hd178 (fun P9 hP9 => by cases hP9; exact ⟨hph.2.1.2.1.trans hg1, fun h9 => by rw [hph.2.1.2.2, hg2] at h9; omega⟩) hdN hrN) (cwV 3 hts (x_goodV k_557 k_332 kp_1 k_2 k_333) rfl rfl rfl (by decide +kernel) ⟨(by show 2 * nn + 40 + 1 ≤ 2 * (nn + 1) + 40; omega), (by show 8 + (5 + 11) + (100 * nn + 1400) ≤ 100 * (nn + 1) + 1400; omega)⟩) ⟨y_blind, va_recv hK hP (ci := 3) (q0 := 1) rfl (y_W_ob (by decide) (by decide)), fun U9 hU9 hW9 => y_pre hU9 hW9 hP hD hU hZ hS hAN hN0⟩ rfl rfl hl.1 rfl (lv_room (Nat.le_of_ble_eq_true rfl)) d_Reader_process_280 ⟨(by show 0 + (2) + (1) + (3 * (72 - cs178) + 2) ≤ 3 * (72 - aa) + 2; omega), (by show 0 + (17) + (72) + (100 * (72 - cs178) + 80) ≤ 100 * (72 - aa) + 80; omega)⟩) hS (fun q _ h => hFc q h) hFc (fun r_181 u t H1 locs ht hvm hw hB hz1 hk1 hS => ?_)
            obtain ⟨I182, T182, A182, O182, pl182, q182, s182, cq182, cs182⟩ := u
            dsimp only at hw hB
            rw [ht] at hB
            obtain ⟨hP, hD1, hac182⟩ := hB
            have hD : va_D Bq (y_W ad ar I182 T182 A182 O182 pl182) := hD1.weaken (fun _ q _ h => hFc q.1 h)
            generalize H1 = H at hP hS hac182 ⊢
            have hae182 := hac182
            try unfold y_ac at hae182
            try dsimp only at hae182
            obtain ⟨hmi, e2, hO182, fr182, hge182, hbr⟩ := hw
            rw [e2] at hP hD
            have hP : va_P (dC, dI) y_cl (y_W ad ar I182 T A182 O182 pl182) H := hP
            have hD : va_D Bq (y_W ad ar I182 T A182 O182 pl182) := hD
            have hbn := hmi.2.1
            dsimp only at hbn
            rcases hbr with ⟨rfl, hsl, hfl182⟩ | ⟨rfl, hsl, c182_, hsu182, hpr182⟩
            · unfold y_rc at hac182
              try dsimp only at hac182
              refine y_tight (k := 3 * (cs182 - aa) + 2) (n := 100 * (cs182 - aa) + 80) (by omega) (by omega) ?_
              refine lv_if_eq (tgt := 290) hx hb d_Reader_process_283 (by decide) (fun _ => ?_) (fun c183 => absurd (by decide) c183)
              refine lv_iconst (v := 0) hx hb d_Reader_process_290 (by decide) ?_
              have hfl : ∀ a, f0 a ≠ none → y_L pl182 a = f0 a := hfl182
              refine y_know (fun hy91 hy92 hy93 hy94 => ?_)
              have hac9 : y_rc s.heap.size (y_hs s.heap) aa cs182 1 H := ⟨by omega, by omega⟩
              refine W.widen (k := 3 * (72 - aa) + 2) (n := 100 * (72 - aa) + 80) (by omega) (by omega) ?_
              exact W.zret (v := 0) hx hb hr (rfl) (fun t ht hW => ⟨⟨0, (I182, T, A182, O182, pl182, (ln, s182, 1, cs182)), rfl, ⟨hmi, rfl, fun k hk => (hO182 k (Or.inr nofun)).trans ((hO114) k hk), (((m_fr.rf.tr fr114 (by decide)).tr fr178 (by decide)).tr fr182 (by decide)), by dsimp only; omega, Or.inl ⟨rfl, Nat.le_refl _, hfl⟩⟩, (by dsimp only; rw [ht]; exact ⟨hP, hD, hac9⟩)⟩, hS.F ht⟩) hS.2.2 d_Reader_process_291
            · subst hsl
              unfold y_rc at hac182
              try dsimp only at hac182
              refine y_tight (k := 3 * (cs182 - aa)) (n := 100 * (cs182 - aa)) (by omega) (by omega) ?_
              obtain ⟨G182, J182, C182, Gs182, S182, hdx182, hph182, hSp182, hGp182, hCp182, hcg182⟩ := hsu182.ph hph.2.1.1
              have hph := hph.tr hph182 hpeB
              refine lv_if_eq (tgt := 290) hx hb d_Reader_process_283 (by decide) (fun c184 => absurd c184 (by decide)) (fun _ => ?_)
              refine lv_iconst (v := 1) hx hb d_Reader_process_286 (by decide) ?_
              refine lv_goto (tgt := 291) hx hb d_Reader_process_287 (by decide) ?_
              obtain ⟨hd9, hph9⟩ := hdx182.close (p := p114) (hph.2.1.2.1.trans hg1) (Or.inl ⟨(hSp182.trans y_un_s), by rw [hph.2.1.2.2, hg2]; decide, by rw [hCp182, List.length_append]; simp⟩)
              refine y_know (fun hy91 hy92 hy93 hy94 => ?_)
              have hac9 : y_rc s.heap.size (y_hs s.heap) aa cs182 0 H := ⟨by omega, by omega⟩
              refine W.widen (k := 3 * (72 - aa) + 2) (n := 100 * (72 - aa) + 80) (by omega) (by omega) ?_
              exact W.zret (v := 1) hx hb hr (rfl) (fun t ht hW => ⟨⟨1, (I182, T, A182, O182, pl182, (ln, s182, 0, cs182)), rfl, ⟨hmi, rfl, fun k hk => (hO182 k (Or.inr nofun)).trans ((hO114) k hk), (((m_fr.rf.tr fr114 (by decide)).tr fr178 (by decide)).tr fr182 (by decide)), by dsimp only; omega, Or.inr ⟨rfl, rfl, p114, y_SU.mk hzp114 hfx hcx hg1 hg6 hd9 (hph.tr hph9 hpeB) y_un_s, fun h9 => ((fun k => hO182 k (Or.inr nofun)) 0).trans (hpr h9)⟩⟩, (by dsimp only; rw [ht]; exact ⟨hP, hD, hac9⟩)⟩, hS.F ht⟩) hS.2.2 d_Reader_process_291
        · have hfp114 : y_L pl114 p114 = some (.inr (7, [.ref (z (3 + 8)), .ref P, .null, .null, .null, .ref t114, .null, .ref (z 21), .int chB, .int vaB])) := hfp114
          have hpeB : y_L pl114 p114 ≠ none := by rw [hfp114]; exact nofun
          have hpf : y_L pl114 p114 = some (.inr (7, y_Pf z C114 Gs114 p114 (J114 p114) (some P) none (some t114) (z 21) chB vaB)) := by rw [hfp114]; unfold y_Pf; rw [hg2, hg3, hg4]; rfl
          refine lv_astore (lv' := [(4, .ref p114), (0, .ref (ad 1)), (1, .ref P), (2, .int (Int32.ofNat dp)), (3, .int gv)]) hx hb d_Reader_process_16 hl (by decide) rfl (fun ls hl => ?_)
          refine lv_aload hx hb d_Reader_process_18 (lv_at hl 0 rfl) ?_
          refine lv_ifnonnull (tgt := 28) hx hb d_Reader_process_20 (by decide) ?_
          refine va_gets hx hb (hZ.2.2.1.narrow hAN) hS hown (hts _ k_484) (fun _ h9 => h9) d_Reader_process_28 ?_
          refine lv_aload hx hb d_Reader_process_31 (lv_at hl 0 rfl) ?_
          refine d_gN (C := "ChannelMachine$Process") (F := F_Process) (N := 10) hx hb hts i_Process hown hK hP hfp114 0 rfl (by decide) (hU.1.2.1 _ kn_392) (fun _ h9 => h9) (v := .ref (z (3 + 8))) rfl d_Reader_process_33 ?_
          have hFc := y_free hD hS hA
          refine va_calli (va_runU (As := []) (rest := [.ref (z 20)]) ⟨hx, hb, hml, hown, hts⟩ (c_E_ordinal0 l dC dI ar N0 z ad I114 T A114 O114 pl114 8 H.size (y_hs H) (by decide)) (va_cwU (owner := "java/lang/Enum") 0 hts (x_goodU k_486 k_487 k_489 k_490 k_15 k_491) rfl rfl rfl rfl (by decide +kernel) ⟨Nat.le_trans (m := 40) (Nat.le_of_ble_eq_true rfl) (Nat.le_add_left 40 _), Nat.le_trans (m := 1400) (Nat.le_of_ble_eq_true rfl) (Nat.le_add_left 1400 _)⟩) ⟨y_blind, va_recvE (E := "ChannelMachine$Kind") (ad := fun i => z (3 + i)) (hZ.2.1.narrow hAN) (show 8 < 11 from by decide) hS, fun U9 hU9 hW9 => y_pre hU9 hW9 hP hD hU hZ hS hAN hN0⟩ rfl rfl hl.1 rfl (lv_room (Nat.le_of_ble_eq_true rfl)) d_Reader_process_36 ⟨(by show 0 + (2) + (0) ≤ 3 * (72 - aa) + 2; omega), (by show 0 + (17) + (0) ≤ 100 * (72 - aa) + 80; omega)⟩) hS (fun q _ h => hFc q h) hFc (fun r_185 u t H1 locs ht hvm hw hB hz1 hk1 hS => ?_)
          obtain ⟨I186, T186, A186, O186, pl186, q186, s186, cq186, cs186⟩ := u
          dsimp only at hw hB
          rw [ht] at hB
          obtain ⟨hP, hD1, hac186⟩ := hB
          have hD : va_D Bq (y_W ad ar I186 T186 A186 O186 pl186) := hD1.weaken (fun _ q _ h => hFc q.1 h)
          generalize H1 = H at hP hS hac186 ⊢
          have hae186 := hac186
          try unfold y_ac at hae186
          try dsimp only at hae186
          refine W.widen (k := 0 + (2)) (n := 0 + (17)) (by omega) (by omega) ?_
          obtain ⟨h9, hw⟩ := hw
          cases h9
          subst hw
          refine va_ti (t := z 20) (N := 11) (f := y_sw) (v := .int 9) hx hb (hZ.2.2.2.1.narrow hAN) hS (by unfold vp_in; decide) rfl d_Reader_process_39 ?_
          refine lv_tableIn (tgt := 292) hx hb d_Reader_process_40 (by decide) (by decide) (off := 252) rfl (by decide) ?_
          refine lv_aload_n hx hb d_Reader_process_292 rfl (lv_at hl 1 rfl) ?_
          refine lv_aload hx hb d_Reader_process_293 (lv_at hl 0 rfl) ?_
          refine y_know (fun hya1 hya2 hya3 hya4 => ?_)
          have hFc := y_free hD hS hA
          refine va_calli (va_runV (As := [.ref p114]) (rest := []) ⟨hx, hb, hml, hown, hts⟩ (c_Rd_condition l dC dI ar N0 z ad I114 T A114 O114 pl114 ln s114 ln (aa + 1) p114 (.ref (z (3 + 8))) (.ref P) (.null) (.null) (.null) (.ref t114) (.null) (.ref (z 21)) (.int chB) (.int vaB) H.size (y_hs H) hmi hfp114) (cwV 1 hts (x_goodV k_603 k_605 kp_19 k_2 k_606) rfl rfl rfl (by decide +kernel) ⟨Nat.le_trans (m := 40) (Nat.le_of_ble_eq_true rfl) (Nat.le_add_left 40 _), Nat.le_trans (m := 1400) (Nat.le_of_ble_eq_true rfl) (Nat.le_add_left 1400 _)⟩) ⟨y_blind, va_recv hK hP (ci := 3) (q0 := 1) rfl (y_W_ob (by decide) (by decide)), fun U9 hU9 hW9 => y_pre hU9 hW9 hP hD hU hZ hS hAN hN0⟩ rfl rfl hl.1 rfl (lv_room (Nat.le_of_ble_eq_true rfl)) d_Reader_process_295 ⟨(by show 0 + (2) + (1) ≤ 3 * (72 - aa) + 2; omega), (by show 0 + (17) + (72) ≤ 100 * (72 - aa) + 80; omega)⟩) hS (fun q _ h => hFc q h) hFc (fun r_187 u t H1 locs ht hvm hw hB hz1 hk1 hS => ?_)
          obtain ⟨I188, T188, A188, O188, pl188, q188, s188, cq188, cs188⟩ := u
          dsimp only at hw hB
          rw [ht] at hB
          obtain ⟨hP, hD1, hac188⟩ := hB
          have hD : va_D Bq (y_W ad ar I188 T188 A188 O188 pl188) := hD1.weaken (fun _ q _ h => hFc q.1 h)
          generalize H1 = H at hP hS hac188 ⊢
          have hae188 := hac188
          try unfold y_ac at hae188
          try dsimp only at hae188
          obtain ⟨hmi, e2, e4, fr188, e6, e7, hge188, hbr⟩ := hw
          rw [e2, e4] at hP hD
          rw [e6, e7] at hmi
          have hP : va_P (dC, dI) y_cl (y_W ad ar I188 T A188 O114 pl188) H := hP
          have hD : va_D Bq (y_W ad ar I188 T A188 O114 pl188) := hD
          have hbn := hmi.2.1
          dsimp only at hbn
          rcases hbr with ⟨rfl, hog⟩ | ⟨rfl, q188_, nq, hq9, hzq, hnq, hokq, hqq, hfp114, hoq⟩
          · refine lv_if_eq (tgt := 340) hx hb d_Reader_process_298 (by decide) (fun _ => ?_) (fun c189 => absurd (by decide) c189)
            refine lv_iconst (v := 0) hx hb d_Reader_process_340 (by decide) ?_
            have hfl : ∀ a, f0 a ≠ none → y_L pl188 a = f0 a := (hdxB.keep1 hg1 hog)
            refine y_know (fun hy91 hy92 hy93 hy94 => ?_)
            have hac9 : y_rc s.heap.size (y_hs s.heap) aa cs188 1 H := ⟨by omega, by omega⟩
            refine W.widen (k := 3 * (72 - aa) + 2) (n := 100 * (72 - aa) + 80) (by omega) (by omega) ?_
            exact W.zret (v := 0) hx hb hr (rfl) (fun t ht hW => ⟨⟨0, (I188, T, A188, O114, pl188, (ln, s188, 1, cs188)), rfl, ⟨hmi, rfl, hO114, ((m_fr.rf.tr fr114 (by decide)).tr fr188 (by decide)), by dsimp only; omega, Or.inl ⟨rfl, Nat.le_refl _, hfl⟩⟩, (by dsimp only; rw [ht]; exact ⟨hP, hD, hac9⟩)⟩, hS.F ht⟩) hS.2.2 d_Reader_process_341
          · obtain ⟨hd188, hph188⟩ := y_DX.code (f' := y_L pl188) (s' := 2) (q := q188_) hdxB hg1 hpf hzq hnq hokq hqq (by rw [hfp114]; unfold y_Pf; rw [hg2, hg3, hg4]; rfl) hoq (fun h9 => by omega)
            have hph := hph188
            refine lv_if_eq (tgt := 340) hx hb d_Reader_process_298 (by decide) (fun c190 => absurd c190 (by decide)) (fun _ => ?_)
            refine lv_aload_n hx hb d_Reader_process_301 rfl (lv_at hl 1 rfl) ?_
            refine lv_aload hx hb d_Reader_process_302 (lv_at hl 0 rfl) ?_
            refine lv_iload_n hx hb d_Reader_process_304 rfl (lv_at hl 3 rfl) ?_
            refine lv_iconst (v := 1) hx hb d_Reader_process_305 (by decide) ?_
            refine lv_iadd hx hb d_Reader_process_306 ?_
            refine W.eq (g2 := F0 m 307 ls [.int (Int32.ofNat (dp + 1)), .ref p114, .ref (ad 1)]) (by rw [← x_addN (a := dp) (b := 1)] <;> rfl) ?_
            refine lv_iconst (v := 0) hx hb d_Reader_process_307 (by decide) ?_
            refine y_know (fun hya1 hya2 hya3 hya4 => ?_)
            have hFc := y_free hD hS hA
            refine va_calli (va_runV (As := [.ref p114, .int (Int32.ofNat (dp + 1)), .int 0]) (rest := []) ⟨hx, hb, hml, hown, hts⟩ (ihP l dC dI ar N0 z ad I188 T A188 O114 pl188 ln s188 cs188 f0 (y_un G114 q188_ 10) J114 C114 Gs114 (y_un S114 p114 2) (some p114) ((dp + 1)) (0) H.size (y_hs H) hmi hd188 (fun P9 hP9 => by cases hP9; exact ⟨hph.2.1.2.1.trans hg1, fun h9 => by rw [hph.2.1.2.2, hg2] at h9; omega⟩) hdN hrN) (cwV 3 hts (x_goodV k_557 k_332 kp_1 k_2 k_333) rfl rfl rfl (by decide +kernel) ⟨(by show 2 * nn + 40 + 1 ≤ 2 * (nn + 1) + 40; omega), (by show 8 + (5 + 11) + (100 * nn + 1400) ≤ 100 * (nn + 1) + 1400; omega)⟩) ⟨y_blind, va_recv hK hP (ci := 3) (q0 := 1) rfl (y_W_ob (by decide) (by decide)), fun U9 hU9 hW9 => y_pre hU9 hW9 hP hD hU hZ hS hAN hN0⟩ rfl rfl hl.1 rfl (lv_room (Nat.le_of_ble_eq_true rfl)) d_Reader_process_308 ⟨(by show 0 + (2) + (1) + (3 * (72 - cs188) + 2) ≤ 3 * (72 - aa) + 2; omega), (by show 0 + (17) + (72) + (100 * (72 - cs188) + 80) ≤ 100 * (72 - aa) + 80; omega)⟩) hS (fun q _ h => hFc q h) hFc (fun r_191 u t H1 locs ht hvm hw hB hz1 hk1 hS => ?_)
            obtain ⟨I192, T192, A192, O192, pl192, q192, s192, cq192, cs192⟩ := u
            dsimp only at hw hB
            rw [ht] at hB
            obtain ⟨hP, hD1, hac192⟩ := hB
            have hD : va_D Bq (y_W ad ar I192 T192 A192 O192 pl192) := hD1.weaken (fun _ q _ h => hFc q.1 h)
            generalize H1 = H at hP hS hac192 ⊢
            have hae192 := hac192
            try unfold y_ac at hae192
            try dsimp only at hae192
            obtain ⟨hmi, e2, hO192, fr192, hge192, hbr⟩ := hw
            rw [e2] at hP hD
            have hP : va_P (dC, dI) y_cl (y_W ad ar I192 T A192 O192 pl192) H := hP
            have hD : va_D Bq (y_W ad ar I192 T A192 O192 pl192) := hD
            have hbn := hmi.2.1
            dsimp only at hbn
            rcases hbr with ⟨rfl, hsl, hfl192⟩ | ⟨rfl, hsl, c192_, hsu192, hpr192⟩
            · unfold y_rc at hac192
              try dsimp only at hac192
              refine y_tight (k := 3 * (cs192 - aa) + 2) (n := 100 * (cs192 - aa) + 80) (by omega) (by omega) ?_
              refine lv_if_eq (tgt := 340) hx hb d_Reader_process_311 (by decide) (fun _ => ?_) (fun c193 => absurd (by decide) c193)
              refine lv_iconst (v := 0) hx hb d_Reader_process_340 (by decide) ?_
              have hfl : ∀ a, f0 a ≠ none → y_L pl192 a = f0 a := hfl192
              refine y_know (fun hy91 hy92 hy93 hy94 => ?_)
              have hac9 : y_rc s.heap.size (y_hs s.heap) aa cs192 1 H := ⟨by omega, by omega⟩
              refine W.widen (k := 3 * (72 - aa) + 2) (n := 100 * (72 - aa) + 80) (by omega) (by omega) ?_
              exact W.zret (v := 0) hx hb hr (rfl) (fun t ht hW => ⟨⟨0, (I192, T, A192, O192, pl192, (ln, s192, 1, cs192)), rfl, ⟨hmi, rfl, fun k hk => (hO192 k (Or.inr nofun)).trans ((hO114) k hk), (((m_fr.rf.tr fr114 (by decide)).tr fr188 (by decide)).tr fr192 (by decide)), by dsimp only; omega, Or.inl ⟨rfl, Nat.le_refl _, hfl⟩⟩, (by dsimp only; rw [ht]; exact ⟨hP, hD, hac9⟩)⟩, hS.F ht⟩) hS.2.2 d_Reader_process_341
            · subst hsl
              unfold y_rc at hac192
              try dsimp only at hac192
              refine y_tight (k := 3 * (cs192 - aa)) (n := 100 * (cs192 - aa)) (by omega) (by omega) ?_
              obtain ⟨G192, J192, C192, Gs192, S192, hdx192, hph192, hSp192, hGp192, hCp192, hcg192⟩ := hsu192.ph hph.2.1.1
              have hph := hph.tr hph192 hpeB
              refine lv_if_eq (tgt := 340) hx hb d_Reader_process_311 (by decide) (fun c194 => absurd c194 (by decide)) (fun _ => ?_)
              refine lv_aload_n hx hb d_Reader_process_314 rfl (lv_at hl 1 rfl) ?_
              refine lv_bipush (v := 44) hx hb d_Reader_process_315 (by decide) ?_
              have hFc := y_free hD hS hA
              refine va_calli (va_runV (As := [.int 44]) (rest := []) ⟨hx, hb, hml, hown, hts⟩ (c_Rd_expect l dC dI ar N0 z ad I192 T A192 O192 pl192 ln s192 ln cs192 (44) H.size (y_hs H) hmi (by decide)) (cwV 1 hts (x_goodV k_492 k_494 kp_7 k_2 k_495) rfl rfl rfl (by decide +kernel) ⟨Nat.le_trans (m := 40) (Nat.le_of_ble_eq_true rfl) (Nat.le_add_left 40 _), Nat.le_trans (m := 1400) (Nat.le_of_ble_eq_true rfl) (Nat.le_add_left 1400 _)⟩) ⟨y_blind, va_recv hK hP (ci := 3) (q0 := 1) rfl (y_W_ob (by decide) (by decide)), fun U9 hU9 hW9 => y_pre hU9 hW9 hP hD hU hZ hS hAN hN0⟩ rfl rfl hl.1 rfl (lv_room (Nat.le_of_ble_eq_true rfl)) d_Reader_process_317 ⟨(by show 3 * (cs192 - aa) + (0) ≤ 3 * (72 - aa) + 2; omega), (by show 100 * (cs192 - aa) + (0) ≤ 100 * (72 - aa) + 80; omega)⟩) hS (fun q _ h => hFc q h) hFc (fun r_195 u t H1 locs ht hvm hw hB hz1 hk1 hS => ?_)
              obtain ⟨I196, T196, A196, O196, pl196, q196, s196, cq196, cs196⟩ := u
              dsimp only at hw hB
              rw [ht] at hB
              obtain ⟨hP, hD1, hac196⟩ := hB
              have hD : va_D Bq (y_W ad ar I196 T196 A196 O196 pl196) := hD1.weaken (fun _ q _ h => hFc q.1 h)
              generalize H1 = H at hP hS hac196 ⊢
              have hae196 := hac196
              try unfold y_ac at hae196
              try dsimp only at hae196
              refine W.widen (k := 3 * (cs192 - aa)) (n := 100 * (cs192 - aa)) (by omega) (by omega) ?_
              obtain ⟨hmi, e2, e4, e5, fr196, e6, e7, hge196, hcc196, hr9⟩ := hw
              rw [e2, e4, e5] at hP hD
              rw [e6, e7] at hmi
              have hP : va_P (dC, dI) y_cl (y_W ad ar I196 T A196 O192 pl192) H := hP
              have hD : va_D Bq (y_W ad ar I196 T A196 O192 pl192) := hD
              have hbn := hmi.2.1
              dsimp only at hbn
              rcases hr9 with rfl | ⟨rfl, hex197⟩
              · refine lv_if_eq (tgt := 340) hx hb d_Reader_process_320 (by decide) (fun _ => ?_) (fun c198 => absurd (by decide) c198)
                refine lv_iconst (v := 0) hx hb d_Reader_process_340 (by decide) ?_
                have hfl : ∀ a, f0 a ≠ none → y_L pl192 a = f0 a := fun a ha => (hdx192.1 a ha).1
                refine y_know (fun hy91 hy92 hy93 hy94 => ?_)
                have hac9 : y_rc s.heap.size (y_hs s.heap) aa cs196 1 H := ⟨by omega, by omega⟩
                refine W.widen (k := 3 * (72 - aa) + 2) (n := 100 * (72 - aa) + 80) (by omega) (by omega) ?_
                exact W.zret (v := 0) hx hb hr (rfl) (fun t ht hW => ⟨⟨0, (I196, T, A196, O192, pl192, (ln, s196, 1, cs196)), rfl, ⟨hmi, rfl, fun k hk => (hO192 k (Or.inr nofun)).trans ((hO114) k hk), ((((m_fr.rf.tr fr114 (by decide)).tr fr188 (by decide)).tr fr192 (by decide)).tr fr196 (by decide)), by dsimp only; omega, Or.inl ⟨rfl, Nat.le_refl _, hfl⟩⟩, (by dsimp only; rw [ht]; exact ⟨hP, hD, hac9⟩)⟩, hS.F ht⟩) hS.2.2 d_Reader_process_341
              · refine lv_if_eq (tgt := 340) hx hb d_Reader_process_320 (by decide) (fun c199 => absurd c199 (by decide)) (fun _ => ?_)
                refine lv_aload_n hx hb d_Reader_process_323 rfl (lv_at hl 1 rfl) ?_
                refine lv_aload hx hb d_Reader_process_324 (lv_at hl 0 rfl) ?_
                refine lv_iload_n hx hb d_Reader_process_326 rfl (lv_at hl 3 rfl) ?_
                refine lv_iconst (v := 1) hx hb d_Reader_process_327 (by decide) ?_
                refine lv_iadd hx hb d_Reader_process_328 ?_
                refine W.eq (g2 := F0 m 329 ls [.int (Int32.ofNat (dp + 1)), .ref p114, .ref (ad 1)]) (by rw [← x_addN (a := dp) (b := 1)] <;> rfl) ?_
                refine lv_iload_n hx hb d_Reader_process_329 rfl (lv_at hl 4 rfl) ?_
                refine y_know (fun hya1 hya2 hya3 hya4 => ?_)
                have hFc := y_free hD hS hA
                refine va_calli (va_runV (As := [.ref p114, .int (Int32.ofNat (dp + 1)), .int gv]) (rest := []) ⟨hx, hb, hml, hown, hts⟩ (ihP l dC dI ar N0 z ad I196 T A196 O192 pl192 ln s196 cs196 f0 G192 J192 C192 Gs192 S192 (some p114) ((dp + 1)) (gv) H.size (y_hs H) hmi hdx192 (fun P9 hP9 => by cases hP9; exact ⟨hph.2.1.2.1.trans hg1, fun h9 => by rw [hph.2.1.2.2, hg2] at h9; omega⟩) hdN hrN) (cwV 3 hts (x_goodV k_557 k_332 kp_1 k_2 k_333) rfl rfl rfl (by decide +kernel) ⟨(by show 2 * nn + 40 + 1 ≤ 2 * (nn + 1) + 40; omega), (by show 8 + (5 + 11) + (100 * nn + 1400) ≤ 100 * (nn + 1) + 1400; omega)⟩) ⟨y_blind, va_recv hK hP (ci := 3) (q0 := 1) rfl (y_W_ob (by decide) (by decide)), fun U9 hU9 hW9 => y_pre hU9 hW9 hP hD hU hZ hS hAN hN0⟩ rfl rfl hl.1 rfl (lv_room (Nat.le_of_ble_eq_true rfl)) d_Reader_process_330 ⟨(by show 3 * (cs192 - aa) + (3 * (72 - cs196) + 2) ≤ 3 * (72 - aa) + 2; omega), (by show 100 * (cs192 - aa) + (100 * (72 - cs196) + 80) ≤ 100 * (72 - aa) + 80; omega)⟩) hS (fun q _ h => hFc q h) hFc (fun r_200 u t H1 locs ht hvm hw hB hz1 hk1 hS => ?_)
                obtain ⟨I201, T201, A201, O201, pl201, q201, s201, cq201, cs201⟩ := u
                dsimp only at hw hB
                rw [ht] at hB
                obtain ⟨hP, hD1, hac201⟩ := hB
                have hD : va_D Bq (y_W ad ar I201 T201 A201 O201 pl201) := hD1.weaken (fun _ q _ h => hFc q.1 h)
                generalize H1 = H at hP hS hac201 ⊢
                have hae201 := hac201
                try unfold y_ac at hae201
                try dsimp only at hae201
                obtain ⟨hmi, e2, hO201, fr201, hge201, hbr⟩ := hw
                rw [e2] at hP hD
                have hP : va_P (dC, dI) y_cl (y_W ad ar I201 T A201 O201 pl201) H := hP
                have hD : va_D Bq (y_W ad ar I201 T A201 O201 pl201) := hD
                have hbn := hmi.2.1
                dsimp only at hbn
                rcases hbr with ⟨rfl, hsl, hfl201⟩ | ⟨rfl, hsl, c201_, hsu201, hpr201⟩
                · unfold y_rc at hac201
                  try dsimp only at hac201
                  refine y_tight (k := 3 * (cs201 - aa) + 2) (n := 100 * (cs201 - aa) + 80) (by omega) (by omega) ?_
                  refine lv_if_eq (tgt := 340) hx hb d_Reader_process_333 (by decide) (fun _ => ?_) (fun c202 => absurd (by decide) c202)
                  refine lv_iconst (v := 0) hx hb d_Reader_process_340 (by decide) ?_
                  have hfl : ∀ a, f0 a ≠ none → y_L pl201 a = f0 a := hfl201
                  refine y_know (fun hy91 hy92 hy93 hy94 => ?_)
                  have hac9 : y_rc s.heap.size (y_hs s.heap) aa cs201 1 H := ⟨by omega, by omega⟩
                  refine W.widen (k := 3 * (72 - aa) + 2) (n := 100 * (72 - aa) + 80) (by omega) (by omega) ?_
                  exact W.zret (v := 0) hx hb hr (rfl) (fun t ht hW => ⟨⟨0, (I201, T, A201, O201, pl201, (ln, s201, 1, cs201)), rfl, ⟨hmi, rfl, fun k hk => (hO201 k (Or.inr nofun)).trans ((fun k hk => (hO192 k (Or.inr nofun)).trans ((hO114) k hk)) k hk), (((((m_fr.rf.tr fr114 (by decide)).tr fr188 (by decide)).tr fr192 (by decide)).tr fr196 (by decide)).tr fr201 (by decide)), by dsimp only; omega, Or.inl ⟨rfl, Nat.le_refl _, hfl⟩⟩, (by dsimp only; rw [ht]; exact ⟨hP, hD, hac9⟩)⟩, hS.F ht⟩) hS.2.2 d_Reader_process_341
                · subst hsl
                  unfold y_rc at hac201
                  try dsimp only at hac201
                  refine y_tight (k := 3 * (cs201 - aa)) (n := 100 * (cs201 - aa)) (by omega) (by omega) ?_
                  obtain ⟨G201, J201, C201, Gs201, S201, hdx201, hph201, hSp201, hGp201, hCp201, hcg201⟩ := hsu201.ph hph.2.1.1
                  have hph := hph.tr hph201 hpeB
                  refine lv_if_eq (tgt := 340) hx hb d_Reader_process_333 (by decide) (fun c203 => absurd c203 (by decide)) (fun _ => ?_)
                  refine lv_iconst (v := 1) hx hb d_Reader_process_336 (by decide) ?_
                  refine lv_goto (tgt := 341) hx hb d_Reader_process_337 (by decide) ?_
                  obtain ⟨hd9, hph9⟩ := hdx201.close (p := p114) (hph.2.1.2.1.trans hg1) (Or.inl ⟨(hSp201.trans (hSp192.trans y_un_s)), by rw [hph.2.1.2.2, hg2]; decide, by rw [hCp201, List.length_append]; simp⟩)
                  refine y_know (fun hy91 hy92 hy93 hy94 => ?_)
                  have hac9 : y_rc s.heap.size (y_hs s.heap) aa cs201 0 H := ⟨by omega, by omega⟩
                  refine W.widen (k := 3 * (72 - aa) + 2) (n := 100 * (72 - aa) + 80) (by omega) (by omega) ?_
                  exact W.zret (v := 1) hx hb hr (rfl) (fun t ht hW => ⟨⟨1, (I201, T, A201, O201, pl201, (ln, s201, 0, cs201)), rfl, ⟨hmi, rfl, fun k hk => (hO201 k (Or.inr nofun)).trans ((fun k hk => (hO192 k (Or.inr nofun)).trans ((hO114) k hk)) k hk), (((((m_fr.rf.tr fr114 (by decide)).tr fr188 (by decide)).tr fr192 (by decide)).tr fr196 (by decide)).tr fr201 (by decide)), by dsimp only; omega, Or.inr ⟨rfl, rfl, p114, y_SU.mk hzp114 hfx hcx hg1 hg6 hd9 (hph.tr hph9 hpeB) y_un_s, fun h9 => ((fun k => (hO201 k (Or.inr nofun)).trans ((fun k => hO192 k (Or.inr nofun)) k)) 0).trans (hpr h9)⟩⟩, (by dsimp only; rw [ht]; exact ⟨hP, hD, hac9⟩)⟩, hS.F ht⟩) hS.2.2 d_Reader_process_341
        · have hfp114 : y_L pl114 p114 = some (.inr (7, [.ref (z (3 + 9)), .ref P, .null, .null, .null, .ref t114, .null, .ref (z 21), .int chB, .int vaB])) := hfp114
          have hpeB : y_L pl114 p114 ≠ none := by rw [hfp114]; exact nofun
          have hpf : y_L pl114 p114 = some (.inr (7, y_Pf z C114 Gs114 p114 (J114 p114) (some P) none (some t114) (z 21) chB vaB)) := by rw [hfp114]; unfold y_Pf; rw [hg2, hg3, hg4]; rfl
          refine lv_astore (lv' := [(4, .ref p114), (0, .ref (ad 1)), (1, .ref P), (2, .int (Int32.ofNat dp)), (3, .int gv)]) hx hb d_Reader_process_16 hl (by decide) rfl (fun ls hl => ?_)
          refine lv_aload hx hb d_Reader_process_18 (lv_at hl 0 rfl) ?_
          refine lv_ifnonnull (tgt := 28) hx hb d_Reader_process_20 (by decide) ?_
          refine va_gets hx hb (hZ.2.2.1.narrow hAN) hS hown (hts _ k_484) (fun _ h9 => h9) d_Reader_process_28 ?_
          refine lv_aload hx hb d_Reader_process_31 (lv_at hl 0 rfl) ?_
          refine d_gN (C := "ChannelMachine$Process") (F := F_Process) (N := 10) hx hb hts i_Process hown hK hP hfp114 0 rfl (by decide) (hU.1.2.1 _ kn_392) (fun _ h9 => h9) (v := .ref (z (3 + 9))) rfl d_Reader_process_33 ?_
          have hFc := y_free hD hS hA
          refine va_calli (va_runU (As := []) (rest := [.ref (z 20)]) ⟨hx, hb, hml, hown, hts⟩ (c_E_ordinal0 l dC dI ar N0 z ad I114 T A114 O114 pl114 9 H.size (y_hs H) (by decide)) (va_cwU (owner := "java/lang/Enum") 0 hts (x_goodU k_486 k_487 k_489 k_490 k_15 k_491) rfl rfl rfl rfl (by decide +kernel) ⟨Nat.le_trans (m := 40) (Nat.le_of_ble_eq_true rfl) (Nat.le_add_left 40 _), Nat.le_trans (m := 1400) (Nat.le_of_ble_eq_true rfl) (Nat.le_add_left 1400 _)⟩) ⟨y_blind, va_recvE (E := "ChannelMachine$Kind") (ad := fun i => z (3 + i)) (hZ.2.1.narrow hAN) (show 9 < 11 from by decide) hS, fun U9 hU9 hW9 => y_pre hU9 hW9 hP hD hU hZ hS hAN hN0⟩ rfl rfl hl.1 rfl (lv_room (Nat.le_of_ble_eq_true rfl)) d_Reader_process_36 ⟨(by show 0 + (2) + (0) ≤ 3 * (72 - aa) + 2; omega), (by show 0 + (17) + (0) ≤ 100 * (72 - aa) + 80; omega)⟩) hS (fun q _ h => hFc q h) hFc (fun r_204 u t H1 locs ht hvm hw hB hz1 hk1 hS => ?_)
          obtain ⟨I205, T205, A205, O205, pl205, q205, s205, cq205, cs205⟩ := u
          dsimp only at hw hB
          rw [ht] at hB
          obtain ⟨hP, hD1, hac205⟩ := hB
          have hD : va_D Bq (y_W ad ar I205 T205 A205 O205 pl205) := hD1.weaken (fun _ q _ h => hFc q.1 h)
          generalize H1 = H at hP hS hac205 ⊢
          have hae205 := hac205
          try unfold y_ac at hae205
          try dsimp only at hae205
          refine W.widen (k := 0 + (2)) (n := 0 + (17)) (by omega) (by omega) ?_
          obtain ⟨h9, hw⟩ := hw
          cases h9
          subst hw
          refine va_ti (t := z 20) (N := 11) (f := y_sw) (v := .int 3) hx hb (hZ.2.2.2.1.narrow hAN) hS (by unfold vp_in; decide) rfl d_Reader_process_39 ?_
          refine lv_tableIn (tgt := 150) hx hb d_Reader_process_40 (by decide) (by decide) (off := 110) rfl (by decide) ?_
          refine lv_aload_n hx hb d_Reader_process_150 rfl (lv_at hl 1 rfl) ?_
          refine lv_aload hx hb d_Reader_process_151 (lv_at hl 0 rfl) ?_
          refine lv_aload_n hx hb d_Reader_process_153 rfl (lv_at hl 1 rfl) ?_
          refine lv_iload_n hx hb d_Reader_process_154 rfl (lv_at hl 4 rfl) ?_
          have hFc := y_free hD hS hA
          refine va_calli (va_runV (As := [.int gv]) (rest := [.ref p114, .ref (ad 1)]) ⟨hx, hb, hml, hown, hts⟩ (c_Rd_endOfLast l dC dI ar N0 z ad I114 T A114 O114 pl114 ln s114 ln (aa + 1) (gv) H.size (y_hs H) hmi rfl) (cwV 1 hts (x_goodV k_496 k_498 kp_8 k_2 k_499) rfl rfl rfl (by decide +kernel) ⟨Nat.le_trans (m := 40) (Nat.le_of_ble_eq_true rfl) (Nat.le_add_left 40 _), Nat.le_trans (m := 1400) (Nat.le_of_ble_eq_true rfl) (Nat.le_add_left 1400 _)⟩) ⟨y_blind, va_recv hK hP (ci := 3) (q0 := 1) rfl (y_W_ob (by decide) (by decide)), fun U9 hU9 hW9 => y_pre hU9 hW9 hP hD hU hZ hS hAN hN0⟩ rfl rfl hl.1 rfl (lv_room (Nat.le_of_ble_eq_true rfl)) d_Reader_process_155 ⟨(by show 0 + (2) + (0) ≤ 3 * (72 - aa) + 2; omega), (by show 0 + (17) + (0) ≤ 100 * (72 - aa) + 80; omega)⟩) hS (fun q _ h => hFc q h) hFc (fun r_206 u t H1 locs ht hvm hw hB hz1 hk1 hS => ?_)
          obtain ⟨I207, T207, A207, O207, pl207, q207, s207, cq207, cs207⟩ := u
          dsimp only at hw hB
          rw [ht] at hB
          obtain ⟨hP, hD1, hac207⟩ := hB
          have hD : va_D Bq (y_W ad ar I207 T207 A207 O207 pl207) := hD1.weaken (fun _ q _ h => hFc q.1 h)
          generalize H1 = H at hP hS hac207 ⊢
          have hae207 := hac207
          try unfold y_ac at hae207
          try dsimp only at hae207
          refine W.widen (k := 0 + (2)) (n := 0 + (17)) (by omega) (by omega) ?_
          obtain ⟨hmi, e2, e4, e5, fr207, e6, e7, e8, en207, hen1, hen2, rfl⟩ := hw
          rw [e2, e4, e5] at hP hD
          rw [e6, e7, e8] at hmi
          have hP : va_P (dC, dI) y_cl (y_W ad ar I207 T A207 O114 pl114) H := hP
          have hD : va_D Bq (y_W ad ar I207 T A207 O114 pl114) := hD
          have hbn := hmi.2.1
          dsimp only at hbn
          refine y_know (fun hya1 hya2 hya3 hya4 => ?_)
          have hFc := y_free hD hS hA
          refine va_calli (va_runV (As := [.ref p114, .int (Int32.ofNat en207)]) (rest := []) ⟨hx, hb, hml, hown, hts⟩ (c_Rd_lastExpression l dC dI ar N0 z ad I207 T A207 O114 pl114 ln s207 ln (aa + 1) p114 en207 (.ref (z (3 + 9))) (.ref P) (.null) (.null) (.null) (.ref t114) (.null) (.ref (z 21)) (.int chB) (.int vaB) H.size (y_hs H) hmi hfp114 ⟨by omega, by omega⟩) (cwV 2 hts (x_goodV k_522 k_524 kp_13 k_2 k_525) rfl rfl rfl (by decide +kernel) ⟨Nat.le_trans (m := 40) (Nat.le_of_ble_eq_true rfl) (Nat.le_add_left 40 _), Nat.le_trans (m := 1400) (Nat.le_of_ble_eq_true rfl) (Nat.le_add_left 1400 _)⟩) ⟨y_blind, va_recv hK hP (ci := 3) (q0 := 1) rfl (y_W_ob (by decide) (by decide)), fun U9 hU9 hW9 => y_pre hU9 hW9 hP hD hU hZ hS hAN hN0⟩ rfl rfl hl.1 rfl (lv_room (Nat.le_of_ble_eq_true rfl)) d_Reader_process_158 ⟨(by show 0 + (2) + (1) ≤ 3 * (72 - aa) + 2; omega), (by show 0 + (17) + (72) ≤ 100 * (72 - aa) + 80; omega)⟩) hS (fun q _ h => hFc q h) hFc (fun r_208 u t H1 locs ht hvm hw hB hz1 hk1 hS => ?_)
          obtain ⟨I209, T209, A209, O209, pl209, q209, s209, cq209, cs209⟩ := u
          dsimp only at hw hB
          rw [ht] at hB
          obtain ⟨hP, hD1, hac209⟩ := hB
          have hD : va_D Bq (y_W ad ar I209 T209 A209 O209 pl209) := hD1.weaken (fun _ q _ h => hFc q.1 h)
          generalize H1 = H at hP hS hac209 ⊢
          have hae209 := hac209
          try unfold y_ac at hae209
          try dsimp only at hae209
          obtain ⟨hmi, e2, e4, fr209, e6, e7, hge209, hr9, q209_, nq, hq9, hzq, hnq, hokq, hqq, hfp114, hoq⟩ := hw
          rw [e2, e4] at hP hD
          rw [e6, e7] at hmi
          have hP : va_P (dC, dI) y_cl (y_W ad ar I209 T A209 O114 pl209) H := hP
          have hD : va_D Bq (y_W ad ar I209 T A209 O114 pl209) := hD
          have hbn := hmi.2.1
          dsimp only at hbn
          rcases hr9 with rfl | rfl
          · have hfl : ∀ a, f0 a ≠ none → y_L pl209 a = f0 a := (hdxB.keep1 hg1 (fun b hb h2 => hoq b (fun e => hb (by rw [e]; exact hzq)) h2))
            refine y_know (fun hy91 hy92 hy93 hy94 => ?_)
            have hac9 : y_rc s.heap.size (y_hs s.heap) aa cs209 1 H := ⟨by omega, by omega⟩
            refine W.widen (k := 3 * (72 - aa) + 2) (n := 100 * (72 - aa) + 80) (by omega) (by omega) ?_
            exact W.zret (v := 0) hx hb hr (rfl) (fun t ht hW => ⟨⟨0, (I209, T, A209, O114, pl209, (ln, s209, 1, cs209)), rfl, ⟨hmi, rfl, hO114, (((m_fr.rf.tr fr114 (by decide)).tr fr207 (by decide)).tr fr209 (by decide)), by dsimp only; omega, Or.inl ⟨rfl, Nat.le_refl _, hfl⟩⟩, (by dsimp only; rw [ht]; exact ⟨hP, hD, hac9⟩)⟩, hS.F ht⟩) hS.2.2 d_Reader_process_161
          · obtain ⟨hd209, hph209⟩ := y_DX.code (f' := y_L pl209) (s' := 0) (q := q209_) hdxB hg1 hpf hzq hnq hokq hqq (by rw [hfp114]; unfold y_Pf; rw [hg2, hg3, hg4]; rfl) hoq (fun _ => ⟨fun h9 => hchB (by rw [hg2] at h9; exact h9), fun h9 => by rw [hg2] at h9; omega⟩)
            have hph := hph209
            refine y_know (fun hy91 hy92 hy93 hy94 => ?_)
            have hac9 : y_rc s.heap.size (y_hs s.heap) aa cs209 0 H := ⟨by omega, by omega⟩
            refine W.widen (k := 3 * (72 - aa) + 2) (n := 100 * (72 - aa) + 80) (by omega) (by omega) ?_
            exact W.zret (v := 1) hx hb hr (rfl) (fun t ht hW => ⟨⟨1, (I209, T, A209, O114, pl209, (ln, s209, 0, cs209)), rfl, ⟨hmi, rfl, hO114, (((m_fr.rf.tr fr114 (by decide)).tr fr207 (by decide)).tr fr209 (by decide)), by dsimp only; omega, Or.inr ⟨rfl, rfl, p114, y_SU.mk hzp114 hfx hcx hg1 hg6 hd209 hph y_un_s, hpr⟩⟩, (by dsimp only; rw [ht]; exact ⟨hP, hD, hac9⟩)⟩, hS.F ht⟩) hS.2.2 d_Reader_process_161
        · have hfp114 : y_L pl114 p114 = some (.inr (7, [.ref (z (3 + 10)), .ref P, .null, .null, .null, .ref t114, .null, .ref (z 21), .int chB, .int vaB])) := hfp114
          have hpeB : y_L pl114 p114 ≠ none := by rw [hfp114]; exact nofun
          have hpf : y_L pl114 p114 = some (.inr (7, y_Pf z C114 Gs114 p114 (J114 p114) (some P) none (some t114) (z 21) chB vaB)) := by rw [hfp114]; unfold y_Pf; rw [hg2, hg3, hg4]; rfl
          refine lv_astore (lv' := [(4, .ref p114), (0, .ref (ad 1)), (1, .ref P), (2, .int (Int32.ofNat dp)), (3, .int gv)]) hx hb d_Reader_process_16 hl (by decide) rfl (fun ls hl => ?_)
          refine lv_aload hx hb d_Reader_process_18 (lv_at hl 0 rfl) ?_
          refine lv_ifnonnull (tgt := 28) hx hb d_Reader_process_20 (by decide) ?_
          refine va_gets hx hb (hZ.2.2.1.narrow hAN) hS hown (hts _ k_484) (fun _ h9 => h9) d_Reader_process_28 ?_
          refine lv_aload hx hb d_Reader_process_31 (lv_at hl 0 rfl) ?_
          refine d_gN (C := "ChannelMachine$Process") (F := F_Process) (N := 10) hx hb hts i_Process hown hK hP hfp114 0 rfl (by decide) (hU.1.2.1 _ kn_392) (fun _ h9 => h9) (v := .ref (z (3 + 10))) rfl d_Reader_process_33 ?_
          have hFc := y_free hD hS hA
          refine va_calli (va_runU (As := []) (rest := [.ref (z 20)]) ⟨hx, hb, hml, hown, hts⟩ (c_E_ordinal0 l dC dI ar N0 z ad I114 T A114 O114 pl114 10 H.size (y_hs H) (by decide)) (va_cwU (owner := "java/lang/Enum") 0 hts (x_goodU k_486 k_487 k_489 k_490 k_15 k_491) rfl rfl rfl rfl (by decide +kernel) ⟨Nat.le_trans (m := 40) (Nat.le_of_ble_eq_true rfl) (Nat.le_add_left 40 _), Nat.le_trans (m := 1400) (Nat.le_of_ble_eq_true rfl) (Nat.le_add_left 1400 _)⟩) ⟨y_blind, va_recvE (E := "ChannelMachine$Kind") (ad := fun i => z (3 + i)) (hZ.2.1.narrow hAN) (show 10 < 11 from by decide) hS, fun U9 hU9 hW9 => y_pre hU9 hW9 hP hD hU hZ hS hAN hN0⟩ rfl rfl hl.1 rfl (lv_room (Nat.le_of_ble_eq_true rfl)) d_Reader_process_36 ⟨(by show 0 + (2) + (0) ≤ 3 * (72 - aa) + 2; omega), (by show 0 + (17) + (0) ≤ 100 * (72 - aa) + 80; omega)⟩) hS (fun q _ h => hFc q h) hFc (fun r_210 u t H1 locs ht hvm hw hB hz1 hk1 hS => ?_)
          obtain ⟨I211, T211, A211, O211, pl211, q211, s211, cq211, cs211⟩ := u
          dsimp only at hw hB
          rw [ht] at hB
          obtain ⟨hP, hD1, hac211⟩ := hB
          have hD : va_D Bq (y_W ad ar I211 T211 A211 O211 pl211) := hD1.weaken (fun _ q _ h => hFc q.1 h)
          generalize H1 = H at hP hS hac211 ⊢
          have hae211 := hac211
          try unfold y_ac at hae211
          try dsimp only at hae211
          refine W.widen (k := 0 + (2)) (n := 0 + (17)) (by omega) (by omega) ?_
          obtain ⟨h9, hw⟩ := hw
          cases h9
          subst hw
          refine va_ti (t := z 20) (N := 11) (f := y_sw) (v := .int 7) hx hb (hZ.2.2.2.1.narrow hAN) hS (by unfold vp_in; decide) rfl d_Reader_process_39 ?_
          refine lv_tableIn (tgt := 239) hx hb d_Reader_process_40 (by decide) (by decide) (off := 199) rfl (by decide) ?_
          refine lv_aload_n hx hb d_Reader_process_239 rfl (lv_at hl 1 rfl) ?_
          refine lv_aload hx hb d_Reader_process_240 (lv_at hl 0 rfl) ?_
          refine lv_iload_n hx hb d_Reader_process_242 rfl (lv_at hl 3 rfl) ?_
          refine y_know (fun hya1 hya2 hya3 hya4 => ?_)
          have hFc := y_free hD hS hA
          refine va_calli (va_runV (As := [.ref p114, .int (Int32.ofNat dp)]) (rest := []) ⟨hx, hb, hml, hown, hts⟩ (ihG l dC dI ar N0 z ad I114 T A114 O114 pl114 ln s114 (aa + 1) f0 G114 J114 C114 Gs114 S114 p114 dp H.size (y_hs H) hmi hdxB hg1 hdT hrT hg4 hg2) (cwV 2 hts (x_goodV k_558 k_560 kp_17 k_2 k_561) rfl rfl rfl (by decide +kernel) ⟨(by show 2 * nn + 41 + 1 ≤ 2 * (nn + 1) + 40; omega), (by show 8 + (7 + 11) + (100 * nn + 1440) ≤ 100 * (nn + 1) + 1400; omega)⟩) ⟨y_blind, va_recv hK hP (ci := 3) (q0 := 1) rfl (y_W_ob (by decide) (by decide)), fun U9 hU9 hW9 => y_pre hU9 hW9 hP hD hU hZ hS hAN hN0⟩ rfl rfl hl.1 rfl (lv_room (Nat.le_of_ble_eq_true rfl)) d_Reader_process_243 ⟨(by show 0 + (2) + (3 * (72 - (aa + 1)) + 2) ≤ 3 * (72 - aa) + 2; omega), (by show 0 + (17) + (100 * (72 - (aa + 1)) + 80) ≤ 100 * (72 - aa) + 80; omega)⟩) hS (fun q _ h => hFc q h) hFc (fun r_212 u t H1 locs ht hvm hw hB hz1 hk1 hS => ?_)
          obtain ⟨I213, T213, A213, O213, pl213, q213, s213, cq213, cs213⟩ := u
          dsimp only at hw hB
          rw [ht] at hB
          obtain ⟨hP, hD1, hac213⟩ := hB
          have hD : va_D Bq (y_W ad ar I213 T213 A213 O213 pl213) := hD1.weaken (fun _ q _ h => hFc q.1 h)
          generalize H1 = H at hP hS hac213 ⊢
          have hae213 := hac213
          try unfold y_ac at hae213
          try dsimp only at hae213
          obtain ⟨hmi, e2, hO213, fr213, hge213, hbr⟩ := hw
          rw [e2] at hP hD
          have hP : va_P (dC, dI) y_cl (y_W ad ar I213 T A213 O213 pl213) H := hP
          have hD : va_D Bq (y_W ad ar I213 T A213 O213 pl213) := hD
          have hbn := hmi.2.1
          dsimp only at hbn
          rcases hbr with ⟨rfl, hsl, hfl213⟩ | ⟨rfl, hsl, G213, J213, C213, Gs213, S213, hdx213, hph213, hSp213⟩
          · unfold y_rc at hac213
            try dsimp only at hac213
            refine y_tight (k := 3 * (cs213 - aa) + 2) (n := 100 * (cs213 - aa) + 80) (by omega) (by omega) ?_
            refine lv_if_eq (tgt := 262) hx hb d_Reader_process_246 (by decide) (fun _ => ?_) (fun c214 => absurd (by decide) c214)
            refine lv_iconst (v := 0) hx hb d_Reader_process_262 (by decide) ?_
            have hfl : ∀ a, f0 a ≠ none → y_L pl213 a = f0 a := hfl213
            refine y_know (fun hy91 hy92 hy93 hy94 => ?_)
            have hac9 : y_rc s.heap.size (y_hs s.heap) aa cs213 1 H := ⟨by omega, by omega⟩
            refine W.widen (k := 3 * (72 - aa) + 2) (n := 100 * (72 - aa) + 80) (by omega) (by omega) ?_
            exact W.zret (v := 0) hx hb hr (rfl) (fun t ht hW => ⟨⟨0, (I213, T, A213, O213, pl213, (ln, s213, 1, cs213)), rfl, ⟨hmi, rfl, fun k hk => (hO213 k).trans ((hO114) k hk), ((m_fr.rf.tr fr114 (by decide)).tr fr213 (by decide)), by dsimp only; omega, Or.inl ⟨rfl, Nat.le_refl _, hfl⟩⟩, (by dsimp only; rw [ht]; exact ⟨hP, hD, hac9⟩)⟩, hS.F ht⟩) hS.2.2 d_Reader_process_263
          · subst hsl
            unfold y_rc at hac213
            try dsimp only at hac213
            refine y_tight (k := 3 * (cs213 - aa)) (n := 100 * (cs213 - aa)) (by omega) (by omega) ?_
            have hph := hph213
            refine lv_if_eq (tgt := 262) hx hb d_Reader_process_246 (by decide) (fun c215 => absurd c215 (by decide)) (fun _ => ?_)
            refine lv_aload_n hx hb d_Reader_process_249 rfl (lv_at hl 1 rfl) ?_
            refine lv_bipush (v := 93) hx hb d_Reader_process_250 (by decide) ?_
            have hFc := y_free hD hS hA
            refine va_calli (va_runV (As := [.int 93]) (rest := []) ⟨hx, hb, hml, hown, hts⟩ (c_Rd_expect l dC dI ar N0 z ad I213 T A213 O213 pl213 ln s213 ln cs213 (93) H.size (y_hs H) hmi (by decide)) (cwV 1 hts (x_goodV k_492 k_494 kp_7 k_2 k_495) rfl rfl rfl (by decide +kernel) ⟨Nat.le_trans (m := 40) (Nat.le_of_ble_eq_true rfl) (Nat.le_add_left 40 _), Nat.le_trans (m := 1400) (Nat.le_of_ble_eq_true rfl) (Nat.le_add_left 1400 _)⟩) ⟨y_blind, va_recv hK hP (ci := 3) (q0 := 1) rfl (y_W_ob (by decide) (by decide)), fun U9 hU9 hW9 => y_pre hU9 hW9 hP hD hU hZ hS hAN hN0⟩ rfl rfl hl.1 rfl (lv_room (Nat.le_of_ble_eq_true rfl)) d_Reader_process_252 ⟨(by show 3 * (cs213 - aa) + (0) ≤ 3 * (72 - aa) + 2; omega), (by show 100 * (cs213 - aa) + (0) ≤ 100 * (72 - aa) + 80; omega)⟩) hS (fun q _ h => hFc q h) hFc (fun r_216 u t H1 locs ht hvm hw hB hz1 hk1 hS => ?_)
            obtain ⟨I217, T217, A217, O217, pl217, q217, s217, cq217, cs217⟩ := u
            dsimp only at hw hB
            rw [ht] at hB
            obtain ⟨hP, hD1, hac217⟩ := hB
            have hD : va_D Bq (y_W ad ar I217 T217 A217 O217 pl217) := hD1.weaken (fun _ q _ h => hFc q.1 h)
            generalize H1 = H at hP hS hac217 ⊢
            have hae217 := hac217
            try unfold y_ac at hae217
            try dsimp only at hae217
            refine W.widen (k := 3 * (cs213 - aa)) (n := 100 * (cs213 - aa)) (by omega) (by omega) ?_
            obtain ⟨hmi, e2, e4, e5, fr217, e6, e7, hge217, hcc217, hr9⟩ := hw
            rw [e2, e4, e5] at hP hD
            rw [e6, e7] at hmi
            have hP : va_P (dC, dI) y_cl (y_W ad ar I217 T A217 O213 pl213) H := hP
            have hD : va_D Bq (y_W ad ar I217 T A217 O213 pl213) := hD
            have hbn := hmi.2.1
            dsimp only at hbn
            rcases hr9 with rfl | ⟨rfl, hex218⟩
            · refine lv_if_eq (tgt := 262) hx hb d_Reader_process_255 (by decide) (fun _ => ?_) (fun c219 => absurd (by decide) c219)
              refine lv_iconst (v := 0) hx hb d_Reader_process_262 (by decide) ?_
              have hfl : ∀ a, f0 a ≠ none → y_L pl213 a = f0 a := fun a ha => (hdx213.1 a ha).1
              refine y_know (fun hy91 hy92 hy93 hy94 => ?_)
              have hac9 : y_rc s.heap.size (y_hs s.heap) aa cs217 1 H := ⟨by omega, by omega⟩
              refine W.widen (k := 3 * (72 - aa) + 2) (n := 100 * (72 - aa) + 80) (by omega) (by omega) ?_
              exact W.zret (v := 0) hx hb hr (rfl) (fun t ht hW => ⟨⟨0, (I217, T, A217, O213, pl213, (ln, s217, 1, cs217)), rfl, ⟨hmi, rfl, fun k hk => (hO213 k).trans ((hO114) k hk), (((m_fr.rf.tr fr114 (by decide)).tr fr213 (by decide)).tr fr217 (by decide)), by dsimp only; omega, Or.inl ⟨rfl, Nat.le_refl _, hfl⟩⟩, (by dsimp only; rw [ht]; exact ⟨hP, hD, hac9⟩)⟩, hS.F ht⟩) hS.2.2 d_Reader_process_263
            · refine lv_if_eq (tgt := 262) hx hb d_Reader_process_255 (by decide) (fun c220 => absurd c220 (by decide)) (fun _ => ?_)
              refine lv_iconst (v := 1) hx hb d_Reader_process_258 (by decide) ?_
              refine lv_goto (tgt := 263) hx hb d_Reader_process_259 (by decide) ?_
              obtain ⟨hd9, hph9⟩ := hdx213.close (p := p114) (hph.2.1.2.1.trans hg1) (Or.inr (by rw [hph.2.1.2.2, hg2]; decide))
              refine y_know (fun hy91 hy92 hy93 hy94 => ?_)
              have hac9 : y_rc s.heap.size (y_hs s.heap) aa cs217 0 H := ⟨by omega, by omega⟩
              refine W.widen (k := 3 * (72 - aa) + 2) (n := 100 * (72 - aa) + 80) (by omega) (by omega) ?_
              exact W.zret (v := 1) hx hb hr (rfl) (fun t ht hW => ⟨⟨1, (I217, T, A217, O213, pl213, (ln, s217, 0, cs217)), rfl, ⟨hmi, rfl, fun k hk => (hO213 k).trans ((hO114) k hk), (((m_fr.rf.tr fr114 (by decide)).tr fr213 (by decide)).tr fr217 (by decide)), by dsimp only; omega, Or.inr ⟨rfl, rfl, p114, y_SU.mk hzp114 hfx hcx hg1 hg6 hd9 (hph.tr hph9 hpeB) y_un_s, fun h9 => ((fun k => hO213 k) 0).trans (hpr h9)⟩⟩, (by dsimp only; rw [ht]; exact ⟨hP, hD, hac9⟩)⟩, hS.F ht⟩) hS.2.2 d_Reader_process_263
    · have c_112 : ¬ dp ≤ 7 := fun h9 => c_112 ((x_leN (a := dp) (b := 7) (by omega) (by omega)).mpr h9)
      refine lv_null hx hb d_Reader_process_6 ?_
      refine lv_goto (tgt := 16) hx hb d_Reader_process_7 (by decide) ?_
      refine lv_astoreN (lv' := [(4, .null), (0, .ref (ad 1)), (1, .ref P), (2, .int (Int32.ofNat dp)), (3, .int gv)]) hx hb d_Reader_process_16 hl (by decide) rfl (fun ls hl => ?_)
      refine lv_aloadN hx hb d_Reader_process_18 (lv_at hl 0 rfl) ?_
      refine lv_ifnonnullN hx hb d_Reader_process_20 ?_
      refine lv_aload_n hx hb d_Reader_process_23 rfl (lv_at hl 1 rfl) ?_
      have hFc := y_free hD hS hA
      refine va_calli (va_runV (As := []) (rest := []) ⟨hx, hb, hml, hown, hts⟩ (c_Rd_refuse l dC dI ar N0 z ad I T A O pl ln cl ln aa s.heap.size (y_hs s.heap) hmi) (cwV 0 hts (x_goodV k_477 k_479 kp_6 k_2 k_480) rfl rfl rfl (by decide +kernel) ⟨Nat.le_trans (m := 40) (Nat.le_of_ble_eq_true rfl) (Nat.le_add_left 40 _), Nat.le_trans (m := 1400) (Nat.le_of_ble_eq_true rfl) (Nat.le_add_left 1400 _)⟩) ⟨y_blind, va_recv hK hP (ci := 3) (q0 := 1) rfl (y_W_ob (by decide) (by decide)), fun U9 hU9 hW9 => y_pre hU9 hW9 hP hD hU hZ hS hAN hN0⟩ rfl rfl hl.1 rfl (lv_room (Nat.le_of_ble_eq_true rfl)) d_Reader_process_24 ⟨(by show 0 + (0) ≤ 3 * (72 - aa) + 2; omega), (by show 0 + (0) ≤ 100 * (72 - aa) + 80; omega)⟩) hS (fun q _ h => hFc q h) hFc (fun r_221 u t H1 locs ht hvm hw hB hz1 hk1 hS => ?_)
      obtain ⟨I222, T222, A222, O222, pl222, q222, s222, cq222, cs222⟩ := u
      dsimp only at hw hB
      rw [ht] at hB
      obtain ⟨hP, hD1, hac222⟩ := hB
      have hD : va_D Bq (y_W ad ar I222 T222 A222 O222 pl222) := hD1.weaken (fun _ q _ h => hFc q.1 h)
      generalize H1 = H at hP hS hac222 ⊢
      have hae222 := hac222
      try unfold y_ac at hae222
      try dsimp only at hae222
      refine W.widen (k := 0) (n := 0) (by omega) (by omega) ?_
      obtain ⟨hmi, e2, e4, e5, fr222, e6, e7, hge222, hcc222, hr9⟩ := hw
      rw [e2, e4, e5] at hP hD
      rw [e6, e7] at hmi
      have hP : va_P (dC, dI) y_cl (y_W ad ar I222 T A222 O pl) H := hP
      have hD : va_D Bq (y_W ad ar I222 T A222 O pl) := hD
      have hbn := hmi.2.1
      dsimp only at hbn
      obtain rfl := hr9
      have hfl : ∀ a, f0 a ≠ none → y_L pl a = f0 a := fun a ha => (hdx.1 a ha).1
      refine y_know (fun hy91 hy92 hy93 hy94 => ?_)
      have hac9 : y_rc s.heap.size (y_hs s.heap) aa cs222 1 H := ⟨by omega, by omega⟩
      refine W.widen (k := 3 * (72 - aa) + 2) (n := 100 * (72 - aa) + 80) (by omega) (by omega) ?_
      exact W.zret (v := 0) hx hb hr (rfl) (fun t ht hW => ⟨⟨0, (I222, T, A222, O, pl, (ln, s222, 1, cs222)), rfl, ⟨hmi, rfl, fun k hk => rfl, (m_fr.rf.tr fr222 (by decide)), by dsimp only; omega, Or.inl ⟨rfl, Nat.le_refl _, hfl⟩⟩, (by dsimp only; rw [ht]; exact ⟨hP, hD, hac9⟩)⟩, hS.F ht⟩) hS.2.2 d_Reader_process_27
theorem y_recP : ∀ nn : Nat, ∀ (l : Launch) (dC : Nat → ClassId) (dI : Nat → Nat → Nat) (ar : Nat → ClassId) (N0 : Nat) (z : Nat → Nat) (ad : Nat → Nat) (I : Nat → Int32) (T : Int64) (A : Nat → Nat → Int32) (O : Nat → Option Nat) (pl : va_W) (ln cl aa : Nat) (f0 : Nat → Option va_E) (G J : Nat → Nat) (C Gs : Nat → List Nat) (S : Nat → Nat) (par : Option Nat) (dp : Nat) (gv : Int32) (sz w0 : Nat) (hmi : y_RD I A (ln, cl, ln, aa)) (hdx : y_DX z ar f0 G J C Gs S (y_L pl)) (hpar : ∀ P, par = some P → G P = 7 ∧ (J P = 6 → (C P).length < 4)) (hdp : 1 ≤ dp ∧ dp ≤ 8) (hrk : 8 - dp < nn) , Met l ({ cls := "ChannelMachine$Reader", name := "process", desc := "(LChannelMachine$Process;IZ)Z" } : Jvm.MethodName) ((Jvm.Cond.code ({ cls := "ChannelMachine$Reader", name := "process", desc := "(LChannelMachine$Process;IZ)Z" } : Jvm.MethodName) prog_8_method_13_code (5 : Nat) (Option.some Jvm.ClassFile.FieldType.boolean)) :: x_T) ({ frames := 2 * nn + 40, cells := 3 * (72 - aa) + 2, slots := 100 * (72 - aa) + 80, locals := 100 * nn + 1400 }) (y_Pc (dC, dI) ar N0 z (y_W ad ar I T A O pl) sz w0 [.ref (ad 1), va_rf par, .int (Int32.ofNat dp), .int gv]) (va_Qi (fun (r : Int32) (u : (Nat → Int32) × Int64 × (Nat → Nat → Int32) × (Nat → Option Nat) × va_W × (Nat × Nat × Nat × Nat)) => y_RD u.1 u.2.2.1 (ln, u.2.2.2.2.2.2.1, ln, u.2.2.2.2.2.2.2.2) ∧ u.2.1 = T ∧ (∀ k, (k ≠ 0 ∨ par ≠ none) → u.2.2.2.1 k = O k) ∧ m_fr [2, 3, 4, 5, 6] I u.1 ∧ aa ≤ u.2.2.2.2.2.2.2.2 ∧ ((r = 0 ∧ u.2.2.2.2.2.2.2.1 ≤ 1 ∧ ∀ a, f0 a ≠ none → y_L u.2.2.2.2.1 a = f0 a) ∨ (r = 1 ∧ u.2.2.2.2.2.2.2.1 = 0 ∧ ∃ p, y_SU z ar f0 (y_L pl) G J C Gs S par p (y_L u.2.2.2.2.1) ∧ (par = none → u.2.2.2.1 0 = some p)))) (fun u t => va_P (dC, dI) y_cl (y_W ad ar u.1 u.2.1 u.2.2.1 u.2.2.2.1 u.2.2.2.2.1) t.heap ∧ va_D (va_A (y_W ad ar I T A O pl) sz) (y_W ad ar u.1 u.2.1 u.2.2.1 u.2.2.2.1 u.2.2.2.2.1) ∧ y_rc sz w0 aa u.2.2.2.2.2.2.2.2 u.2.2.2.2.2.2.2.1 t.heap) (va_A (y_W ad ar I T A O pl) sz)) (3 * (72 - aa) + 2) (100 * (72 - aa) + 80) (va_A (y_W ad ar I T A O pl) sz) := by
  intro nn
  induction nn with
  | zero => intros; omega
  | succ nn ih => exact st_P nn ih (st_T nn ih) (st_G nn ih)
theorem c_Rd_process (l : Launch) (dC : Nat → ClassId) (dI : Nat → Nat → Nat) (ar : Nat → ClassId) (N0 : Nat) (z : Nat → Nat) (ad : Nat → Nat) (I : Nat → Int32) (T : Int64) (A : Nat → Nat → Int32) (O : Nat → Option Nat) (pl : va_W) (ln cl aa : Nat) (f0 : Nat → Option va_E) (G J : Nat → Nat) (C Gs : Nat → List Nat) (S : Nat → Nat) (par : Option Nat) (dp : Nat) (gv : Int32) (sz w0 : Nat) (hmi : y_RD I A (ln, cl, ln, aa)) (hdx : y_DX z ar f0 G J C Gs S (y_L pl)) (hpar : ∀ P, par = some P → G P = 7 ∧ (J P = 6 → (C P).length < 4)) (hdp : 1 ≤ dp ∧ dp ≤ 8) (hrk : 8 - dp < 8) : Met l ({ cls := "ChannelMachine$Reader", name := "process", desc := "(LChannelMachine$Process;IZ)Z" } : Jvm.MethodName) ((Jvm.Cond.code ({ cls := "ChannelMachine$Reader", name := "process", desc := "(LChannelMachine$Process;IZ)Z" } : Jvm.MethodName) prog_8_method_13_code (5 : Nat) (Option.some Jvm.ClassFile.FieldType.boolean)) :: x_T) ({ frames := 56, cells := 3 * (72 - aa) + 2, slots := 100 * (72 - aa) + 80, locals := 2200 }) (y_Pc (dC, dI) ar N0 z (y_W ad ar I T A O pl) sz w0 [.ref (ad 1), va_rf par, .int (Int32.ofNat dp), .int gv]) (va_Qi (fun (r : Int32) (u : (Nat → Int32) × Int64 × (Nat → Nat → Int32) × (Nat → Option Nat) × va_W × (Nat × Nat × Nat × Nat)) => y_RD u.1 u.2.2.1 (ln, u.2.2.2.2.2.2.1, ln, u.2.2.2.2.2.2.2.2) ∧ u.2.1 = T ∧ (∀ k, (k ≠ 0 ∨ par ≠ none) → u.2.2.2.1 k = O k) ∧ m_fr [2, 3, 4, 5, 6] I u.1 ∧ aa ≤ u.2.2.2.2.2.2.2.2 ∧ ((r = 0 ∧ u.2.2.2.2.2.2.2.1 ≤ 1 ∧ ∀ a, f0 a ≠ none → y_L u.2.2.2.2.1 a = f0 a) ∨ (r = 1 ∧ u.2.2.2.2.2.2.2.1 = 0 ∧ ∃ p, y_SU z ar f0 (y_L pl) G J C Gs S par p (y_L u.2.2.2.2.1) ∧ (par = none → u.2.2.2.1 0 = some p)))) (fun u t => va_P (dC, dI) y_cl (y_W ad ar u.1 u.2.1 u.2.2.1 u.2.2.2.1 u.2.2.2.2.1) t.heap ∧ va_D (va_A (y_W ad ar I T A O pl) sz) (y_W ad ar u.1 u.2.1 u.2.2.1 u.2.2.2.1 u.2.2.2.2.1) ∧ y_rc sz w0 aa u.2.2.2.2.2.2.2.2 u.2.2.2.2.2.2.2.1 t.heap) (va_A (y_W ad ar I T A O pl) sz)) (3 * (72 - aa) + 2) (100 * (72 - aa) + 80) (va_A (y_W ad ar I T A O pl) sz) := y_recP 8 l dC dI ar N0 z ad I T A O pl ln cl aa f0 G J C Gs S par dp gv sz w0 hmi hdx hpar hdp hrk
