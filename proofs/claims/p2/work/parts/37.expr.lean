-- ===== 37.expr: expression of the reference, by program =====
theorem k_984 : (Jvm.Cond.fieldLink "ChannelMachineModel" (44 : Nat) "ChannelMachineModel" "starts" "[I") ∈ x_T := x_at 984 (by decide +kernel) (by decide +kernel)
theorem k_986 : (Jvm.Cond.fieldLink "ChannelMachineModel" (47 : Nat) "ChannelMachineModel" "compared" "[Z") ∈ x_T := x_at 986 (by decide +kernel) (by decide +kernel)
theorem k_1136 : (Jvm.Cond.methodLink "ChannelMachineModel" (155 : Nat) ({ cls := "ChannelMachineModel", name := "passes", desc := "(I)Z" } : Jvm.MethodName)) ∈ x_T := x_at 1136 (by decide +kernel) (by decide +kernel)
theorem k_1138 : (Jvm.Cond.instanceMethod ({ cls := "ChannelMachineModel", name := "passes", desc := "(I)Z" } : Jvm.MethodName)) ∈ x_T := x_at 1138 (by decide +kernel) (by decide +kernel)
theorem k_1139 : (Jvm.Cond.code ({ cls := "ChannelMachineModel", name := "passes", desc := "(I)Z" } : Jvm.MethodName) prog_12_method_8_code (2 : Nat) (Option.some Jvm.ClassFile.FieldType.boolean)) ∈ x_T := x_at 1139 (by decide +kernel) (by decide +kernel)
theorem k_1164 : (Jvm.Cond.methodLink "ChannelMachineModel" (142 : Nat) ({ cls := "ChannelMachineModel", name := "isVariable", desc := "()Z" } : Jvm.MethodName)) ∈ x_T := x_at 1164 (by decide +kernel) (by decide +kernel)
theorem k_1166 : (Jvm.Cond.instanceMethod ({ cls := "ChannelMachineModel", name := "isVariable", desc := "()Z" } : Jvm.MethodName)) ∈ x_T := x_at 1166 (by decide +kernel) (by decide +kernel)
theorem k_1167 : (Jvm.Cond.code ({ cls := "ChannelMachineModel", name := "isVariable", desc := "()Z" } : Jvm.MethodName) prog_12_method_11_code (1 : Nat) (Option.some Jvm.ClassFile.FieldType.boolean)) ∈ x_T := x_at 1167 (by decide +kernel) (by decide +kernel)
theorem k_1168 : (Jvm.Cond.methodLink "ChannelMachineModel" (146 : Nat) ({ cls := "ChannelMachineModel", name := "push", desc := "(II)V" } : Jvm.MethodName)) ∈ x_T := x_at 1168 (by decide +kernel) (by decide +kernel)
theorem k_1170 : (Jvm.Cond.instanceMethod ({ cls := "ChannelMachineModel", name := "push", desc := "(II)V" } : Jvm.MethodName)) ∈ x_T := x_at 1170 (by decide +kernel) (by decide +kernel)
theorem k_1171 : (Jvm.Cond.code ({ cls := "ChannelMachineModel", name := "push", desc := "(II)V" } : Jvm.MethodName) prog_12_method_14_code (3 : Nat) (Option.none : Option Jvm.ClassFile.FieldType)) ∈ x_T := x_at 1171 (by decide +kernel) (by decide +kernel)
theorem k_1172 : (Jvm.Cond.methodLink "ChannelMachineModel" (149 : Nat) ({ cls := "ChannelMachineModel", name := "rank", desc := "(I)I" } : Jvm.MethodName)) ∈ x_T := x_at 1172 (by decide +kernel) (by decide +kernel)
theorem k_1173 : (Jvm.Cond.static ({ cls := "ChannelMachineModel", name := "rank", desc := "(I)I" } : Jvm.MethodName)) ∈ x_T := x_at 1173 (by decide +kernel) (by decide +kernel)
theorem k_1174 : (Jvm.Cond.code ({ cls := "ChannelMachineModel", name := "rank", desc := "(I)I" } : Jvm.MethodName) prog_12_method_12_code (1 : Nat) (Option.some Jvm.ClassFile.FieldType.int)) ∈ x_T := x_at 1174 (by decide +kernel) (by decide +kernel)
theorem k_1175 : (Jvm.Cond.methodLink "ChannelMachineModel" (152 : Nat) ({ cls := "ChannelMachineModel", name := "write", desc := "(II)V" } : Jvm.MethodName)) ∈ x_T := x_at 1175 (by decide +kernel) (by decide +kernel)
theorem k_1177 : (Jvm.Cond.instanceMethod ({ cls := "ChannelMachineModel", name := "write", desc := "(II)V" } : Jvm.MethodName)) ∈ x_T := x_at 1177 (by decide +kernel) (by decide +kernel)
theorem k_1178 : (Jvm.Cond.code ({ cls := "ChannelMachineModel", name := "write", desc := "(II)V" } : Jvm.MethodName) prog_12_method_13_code (3 : Nat) (Option.none : Option Jvm.ClassFile.FieldType)) ∈ x_T := x_at 1178 (by decide +kernel) (by decide +kernel)
theorem kp_52 : (Jvm.Cond.selects "ChannelMachineModel" ({ cls := "ChannelMachineModel", name := "passes", desc := "(I)Z" } : Jvm.MethodName) ({ cls := "ChannelMachineModel", name := "passes", desc := "(I)Z" } : Jvm.MethodName)) ∈ x_T := x_sel (q := (({ cls := "ChannelMachineModel", name := "passes", desc := "(I)Z" } : Jvm.MethodName), 45)) 52 (by decide +kernel) (by decide +kernel)
theorem kp_59 : (Jvm.Cond.selects "ChannelMachineModel" ({ cls := "ChannelMachineModel", name := "isVariable", desc := "()Z" } : Jvm.MethodName) ({ cls := "ChannelMachineModel", name := "isVariable", desc := "()Z" } : Jvm.MethodName)) ∈ x_T := x_sel (q := (({ cls := "ChannelMachineModel", name := "isVariable", desc := "()Z" } : Jvm.MethodName), 45)) 59 (by decide +kernel) (by decide +kernel)
theorem kp_60 : (Jvm.Cond.selects "ChannelMachineModel" ({ cls := "ChannelMachineModel", name := "push", desc := "(II)V" } : Jvm.MethodName) ({ cls := "ChannelMachineModel", name := "push", desc := "(II)V" } : Jvm.MethodName)) ∈ x_T := x_sel (q := (({ cls := "ChannelMachineModel", name := "push", desc := "(II)V" } : Jvm.MethodName), 45)) 60 (by decide +kernel) (by decide +kernel)
theorem kp_61 : (Jvm.Cond.selects "ChannelMachineModel" ({ cls := "ChannelMachineModel", name := "write", desc := "(II)V" } : Jvm.MethodName) ({ cls := "ChannelMachineModel", name := "write", desc := "(II)V" } : Jvm.MethodName)) ∈ x_T := x_sel (q := (({ cls := "ChannelMachineModel", name := "write", desc := "(II)V" } : Jvm.MethodName), 45)) 61 (by decide +kernel) (by decide +kernel)
theorem d_Mo_expression_0 : decode prog_12_method_15_code 0 = .ok (.iconst 0, 1) := by decide +kernel
theorem d_Mo_expression_1 : decode prog_12_method_15_code 1 = .ok (.istore_n 1, 1) := by decide +kernel
theorem d_Mo_expression_2 : decode prog_12_method_15_code 2 = .ok (.iconst 1, 1) := by decide +kernel
theorem d_Mo_expression_3 : decode prog_12_method_15_code 3 = .ok (.istore_n 2, 1) := by decide +kernel
theorem d_Mo_expression_4 : decode prog_12_method_15_code 4 = .ok (.iconst 1, 1) := by decide +kernel
theorem d_Mo_expression_5 : decode prog_12_method_15_code 5 = .ok (.istore_n 3, 1) := by decide +kernel
theorem d_Mo_expression_6 : decode prog_12_method_15_code 6 = .ok (.aload_n 0, 1) := by decide +kernel
theorem d_Mo_expression_7 : decode prog_12_method_15_code 7 = .ok (.iconst 0, 1) := by decide +kernel
theorem d_Mo_expression_8 : decode prog_12_method_15_code 8 = .ok (.putfield 135, 3) := by decide +kernel
theorem d_Mo_expression_11 : decode prog_12_method_15_code 11 = .ok (.aload_n 0, 1) := by decide +kernel
theorem d_Mo_expression_12 : decode prog_12_method_15_code 12 = .ok (.getfield 44, 3) := by decide +kernel
theorem d_Mo_expression_15 : decode prog_12_method_15_code 15 = .ok (.iconst 0, 1) := by decide +kernel
theorem d_Mo_expression_16 : decode prog_12_method_15_code 16 = .ok (.iconst 0, 1) := by decide +kernel
theorem d_Mo_expression_17 : decode prog_12_method_15_code 17 = .ok (.iastore, 1) := by decide +kernel
theorem d_Mo_expression_18 : decode prog_12_method_15_code 18 = .ok (.aload_n 0, 1) := by decide +kernel
theorem d_Mo_expression_19 : decode prog_12_method_15_code 19 = .ok (.getfield 47, 3) := by decide +kernel
theorem d_Mo_expression_22 : decode prog_12_method_15_code 22 = .ok (.iconst 0, 1) := by decide +kernel
theorem d_Mo_expression_23 : decode prog_12_method_15_code 23 = .ok (.iconst 0, 1) := by decide +kernel
theorem d_Mo_expression_24 : decode prog_12_method_15_code 24 = .ok (.bastore, 1) := by decide +kernel
theorem d_Mo_expression_25 : decode prog_12_method_15_code 25 = .ok (.iconst 0, 1) := by decide +kernel
theorem d_Mo_expression_26 : decode prog_12_method_15_code 26 = .ok (.istore 4, 2) := by decide +kernel
theorem d_Mo_expression_28 : decode prog_12_method_15_code 28 = .ok (.iload 4, 2) := by decide +kernel
theorem d_Mo_expression_30 : decode prog_12_method_15_code 30 = .ok (.sipush 200, 3) := by decide +kernel
theorem d_Mo_expression_33 : decode prog_12_method_15_code 33 = .ok (.if_icmp .ge 462, 3) := by decide +kernel
theorem d_Mo_expression_36 : decode prog_12_method_15_code 36 = .ok (.aload_n 0, 1) := by decide +kernel
theorem d_Mo_expression_37 : decode prog_12_method_15_code 37 = .ok (.invokevirtual 124, 3) := by decide +kernel
theorem d_Mo_expression_40 : decode prog_12_method_15_code 40 = .ok (.istore 5, 2) := by decide +kernel
theorem d_Mo_expression_42 : decode prog_12_method_15_code 42 = .ok (.iload_n 3, 1) := by decide +kernel
theorem d_Mo_expression_43 : decode prog_12_method_15_code 43 = .ok (.ifCond .eq 193, 3) := by decide +kernel
theorem d_Mo_expression_46 : decode prog_12_method_15_code 46 = .ok (.aload_n 0, 1) := by decide +kernel
theorem d_Mo_expression_47 : decode prog_12_method_15_code 47 = .ok (.invokevirtual 142, 3) := by decide +kernel
theorem d_Mo_expression_50 : decode prog_12_method_15_code 50 = .ok (.ifCond .ne 15, 3) := by decide +kernel
theorem d_Mo_expression_53 : decode prog_12_method_15_code 53 = .ok (.iload 5, 2) := by decide +kernel
theorem d_Mo_expression_55 : decode prog_12_method_15_code 55 = .ok (.bipush 48, 2) := by decide +kernel
theorem d_Mo_expression_57 : decode prog_12_method_15_code 57 = .ok (.bipush 57, 2) := by decide +kernel
theorem d_Mo_expression_59 : decode prog_12_method_15_code 59 = .ok (.invokestatic 106, 3) := by decide +kernel
theorem d_Mo_expression_62 : decode prog_12_method_15_code 62 = .ok (.ifCond .eq 174, 3) := by decide +kernel
theorem d_Mo_expression_65 : decode prog_12_method_15_code 65 = .ok (.aload_n 0, 1) := by decide +kernel
theorem d_Mo_expression_66 : decode prog_12_method_15_code 66 = .ok (.invokevirtual 142, 3) := by decide +kernel
theorem d_Mo_expression_69 : decode prog_12_method_15_code 69 = .ok (.ifCond .eq 11, 3) := by decide +kernel
theorem d_Mo_expression_72 : decode prog_12_method_15_code 72 = .ok (.iload 5, 2) := by decide +kernel
theorem d_Mo_expression_74 : decode prog_12_method_15_code 74 = .ok (.bipush 97, 2) := by decide +kernel
theorem d_Mo_expression_76 : decode prog_12_method_15_code 76 = .ok (.isub, 1) := by decide +kernel
theorem d_Mo_expression_77 : decode prog_12_method_15_code 77 = .ok (.goto 4, 3) := by decide +kernel
theorem d_Mo_expression_80 : decode prog_12_method_15_code 80 = .ok (.iconst 0, 1) := by decide +kernel
theorem d_Mo_expression_81 : decode prog_12_method_15_code 81 = .ok (.istore 6, 2) := by decide +kernel
theorem d_Mo_expression_83 : decode prog_12_method_15_code 83 = .ok (.aload_n 0, 1) := by decide +kernel
theorem d_Mo_expression_84 : decode prog_12_method_15_code 84 = .ok (.invokevirtual 142, 3) := by decide +kernel
theorem d_Mo_expression_87 : decode prog_12_method_15_code 87 = .ok (.istore 7, 2) := by decide +kernel
theorem d_Mo_expression_89 : decode prog_12_method_15_code 89 = .ok (.iconst 0, 1) := by decide +kernel
theorem d_Mo_expression_90 : decode prog_12_method_15_code 90 = .ok (.istore 8, 2) := by decide +kernel
theorem d_Mo_expression_92 : decode prog_12_method_15_code 92 = .ok (.iload 7, 2) := by decide +kernel
theorem d_Mo_expression_94 : decode prog_12_method_15_code 94 = .ok (.ifCond .ne 54, 3) := by decide +kernel
theorem d_Mo_expression_97 : decode prog_12_method_15_code 97 = .ok (.iload 8, 2) := by decide +kernel
theorem d_Mo_expression_99 : decode prog_12_method_15_code 99 = .ok (.iconst 3, 1) := by decide +kernel
theorem d_Mo_expression_100 : decode prog_12_method_15_code 100 = .ok (.if_icmp .ge 48, 3) := by decide +kernel
theorem d_Mo_expression_103 : decode prog_12_method_15_code 103 = .ok (.aload_n 0, 1) := by decide +kernel
theorem d_Mo_expression_104 : decode prog_12_method_15_code 104 = .ok (.invokevirtual 124, 3) := by decide +kernel
theorem d_Mo_expression_107 : decode prog_12_method_15_code 107 = .ok (.bipush 48, 2) := by decide +kernel
theorem d_Mo_expression_109 : decode prog_12_method_15_code 109 = .ok (.bipush 57, 2) := by decide +kernel
theorem d_Mo_expression_111 : decode prog_12_method_15_code 111 = .ok (.invokestatic 106, 3) := by decide +kernel
theorem d_Mo_expression_114 : decode prog_12_method_15_code 114 = .ok (.ifCond .eq 34, 3) := by decide +kernel
theorem d_Mo_expression_117 : decode prog_12_method_15_code 117 = .ok (.iload 6, 2) := by decide +kernel
theorem d_Mo_expression_119 : decode prog_12_method_15_code 119 = .ok (.bipush 10, 2) := by decide +kernel
theorem d_Mo_expression_121 : decode prog_12_method_15_code 121 = .ok (.imul, 1) := by decide +kernel
theorem d_Mo_expression_122 : decode prog_12_method_15_code 122 = .ok (.aload_n 0, 1) := by decide +kernel
theorem d_Mo_expression_123 : decode prog_12_method_15_code 123 = .ok (.invokevirtual 124, 3) := by decide +kernel
theorem d_Mo_expression_126 : decode prog_12_method_15_code 126 = .ok (.iadd, 1) := by decide +kernel
theorem d_Mo_expression_127 : decode prog_12_method_15_code 127 = .ok (.bipush 48, 2) := by decide +kernel
theorem d_Mo_expression_129 : decode prog_12_method_15_code 129 = .ok (.isub, 1) := by decide +kernel
theorem d_Mo_expression_130 : decode prog_12_method_15_code 130 = .ok (.istore 6, 2) := by decide +kernel
theorem d_Mo_expression_132 : decode prog_12_method_15_code 132 = .ok (.aload_n 0, 1) := by decide +kernel
theorem d_Mo_expression_133 : decode prog_12_method_15_code 133 = .ok (.dup, 1) := by decide +kernel
theorem d_Mo_expression_134 : decode prog_12_method_15_code 134 = .ok (.getfield 121, 3) := by decide +kernel
theorem d_Mo_expression_137 : decode prog_12_method_15_code 137 = .ok (.iconst 1, 1) := by decide +kernel
theorem d_Mo_expression_138 : decode prog_12_method_15_code 138 = .ok (.iadd, 1) := by decide +kernel
theorem d_Mo_expression_139 : decode prog_12_method_15_code 139 = .ok (.putfield 121, 3) := by decide +kernel
theorem d_Mo_expression_142 : decode prog_12_method_15_code 142 = .ok (.iinc 8 1, 3) := by decide +kernel
theorem d_Mo_expression_145 : decode prog_12_method_15_code 145 = .ok (.goto (-53), 3) := by decide +kernel
theorem d_Mo_expression_148 : decode prog_12_method_15_code 148 = .ok (.iload 7, 2) := by decide +kernel
theorem d_Mo_expression_150 : decode prog_12_method_15_code 150 = .ok (.ifCond .eq 13, 3) := by decide +kernel
theorem d_Mo_expression_153 : decode prog_12_method_15_code 153 = .ok (.aload_n 0, 1) := by decide +kernel
theorem d_Mo_expression_154 : decode prog_12_method_15_code 154 = .ok (.dup, 1) := by decide +kernel
theorem d_Mo_expression_155 : decode prog_12_method_15_code 155 = .ok (.getfield 121, 3) := by decide +kernel
theorem d_Mo_expression_158 : decode prog_12_method_15_code 158 = .ok (.iconst 1, 1) := by decide +kernel
theorem d_Mo_expression_159 : decode prog_12_method_15_code 159 = .ok (.iadd, 1) := by decide +kernel
theorem d_Mo_expression_160 : decode prog_12_method_15_code 160 = .ok (.putfield 121, 3) := by decide +kernel
theorem d_Mo_expression_163 : decode prog_12_method_15_code 163 = .ok (.aload_n 0, 1) := by decide +kernel
theorem d_Mo_expression_164 : decode prog_12_method_15_code 164 = .ok (.iload 7, 2) := by decide +kernel
theorem d_Mo_expression_166 : decode prog_12_method_15_code 166 = .ok (.ifCond .eq 8, 3) := by decide +kernel
theorem d_Mo_expression_169 : decode prog_12_method_15_code 169 = .ok (.bipush 21, 2) := by decide +kernel
theorem d_Mo_expression_171 : decode prog_12_method_15_code 171 = .ok (.goto 5, 3) := by decide +kernel
theorem d_Mo_expression_174 : decode prog_12_method_15_code 174 = .ok (.bipush 20, 2) := by decide +kernel
theorem d_Mo_expression_176 : decode prog_12_method_15_code 176 = .ok (.iload 6, 2) := by decide +kernel
theorem d_Mo_expression_178 : decode prog_12_method_15_code 178 = .ok (.invokevirtual 138, 3) := by decide +kernel
theorem d_Mo_expression_181 : decode prog_12_method_15_code 181 = .ok (.aload_n 0, 1) := by decide +kernel
theorem d_Mo_expression_182 : decode prog_12_method_15_code 182 = .ok (.getfield 135, 3) := by decide +kernel
theorem d_Mo_expression_185 : decode prog_12_method_15_code 185 = .ok (.aload_n 0, 1) := by decide +kernel
theorem d_Mo_expression_186 : decode prog_12_method_15_code 186 = .ok (.getfield 44, 3) := by decide +kernel
theorem d_Mo_expression_189 : decode prog_12_method_15_code 189 = .ok (.iload_n 1, 1) := by decide +kernel
theorem d_Mo_expression_190 : decode prog_12_method_15_code 190 = .ok (.iaload, 1) := by decide +kernel
theorem d_Mo_expression_191 : decode prog_12_method_15_code 191 = .ok (.if_icmp .le 40, 3) := by decide +kernel
theorem d_Mo_expression_194 : decode prog_12_method_15_code 194 = .ok (.aload_n 0, 1) := by decide +kernel
theorem d_Mo_expression_195 : decode prog_12_method_15_code 195 = .ok (.getfield 41, 3) := by decide +kernel
theorem d_Mo_expression_198 : decode prog_12_method_15_code 198 = .ok (.aload_n 0, 1) := by decide +kernel
theorem d_Mo_expression_199 : decode prog_12_method_15_code 199 = .ok (.getfield 135, 3) := by decide +kernel
theorem d_Mo_expression_202 : decode prog_12_method_15_code 202 = .ok (.iconst 1, 1) := by decide +kernel
theorem d_Mo_expression_203 : decode prog_12_method_15_code 203 = .ok (.isub, 1) := by decide +kernel
theorem d_Mo_expression_204 : decode prog_12_method_15_code 204 = .ok (.iaload, 1) := by decide +kernel
theorem d_Mo_expression_205 : decode prog_12_method_15_code 205 = .ok (.iconst 4, 1) := by decide +kernel
theorem d_Mo_expression_206 : decode prog_12_method_15_code 206 = .ok (.if_icmp .ne 25, 3) := by decide +kernel
theorem d_Mo_expression_209 : decode prog_12_method_15_code 209 = .ok (.aload_n 0, 1) := by decide +kernel
theorem d_Mo_expression_210 : decode prog_12_method_15_code 210 = .ok (.dup, 1) := by decide +kernel
theorem d_Mo_expression_211 : decode prog_12_method_15_code 211 = .ok (.getfield 135, 3) := by decide +kernel
theorem d_Mo_expression_214 : decode prog_12_method_15_code 214 = .ok (.iconst 1, 1) := by decide +kernel
theorem d_Mo_expression_215 : decode prog_12_method_15_code 215 = .ok (.isub, 1) := by decide +kernel
theorem d_Mo_expression_216 : decode prog_12_method_15_code 216 = .ok (.putfield 135, 3) := by decide +kernel
theorem d_Mo_expression_219 : decode prog_12_method_15_code 219 = .ok (.iinc 2 (-1), 3) := by decide +kernel
theorem d_Mo_expression_222 : decode prog_12_method_15_code 222 = .ok (.aload_n 0, 1) := by decide +kernel
theorem d_Mo_expression_223 : decode prog_12_method_15_code 223 = .ok (.bipush 23, 2) := by decide +kernel
theorem d_Mo_expression_225 : decode prog_12_method_15_code 225 = .ok (.invokevirtual 131, 3) := by decide +kernel
theorem d_Mo_expression_228 : decode prog_12_method_15_code 228 = .ok (.goto (-47), 3) := by decide +kernel
theorem d_Mo_expression_231 : decode prog_12_method_15_code 231 = .ok (.iconst 0, 1) := by decide +kernel
theorem d_Mo_expression_232 : decode prog_12_method_15_code 232 = .ok (.istore_n 3, 1) := by decide +kernel
theorem d_Mo_expression_233 : decode prog_12_method_15_code 233 = .ok (.goto 256, 3) := by decide +kernel
theorem d_Mo_expression_236 : decode prog_12_method_15_code 236 = .ok (.iload_n 3, 1) := by decide +kernel
theorem d_Mo_expression_237 : decode prog_12_method_15_code 237 = .ok (.ifCond .eq 77, 3) := by decide +kernel
theorem d_Mo_expression_240 : decode prog_12_method_15_code 240 = .ok (.iload_n 2, 1) := by decide +kernel
theorem d_Mo_expression_241 : decode prog_12_method_15_code 241 = .ok (.iconst 5, 1) := by decide +kernel
theorem d_Mo_expression_242 : decode prog_12_method_15_code 242 = .ok (.if_icmp .eq 17, 3) := by decide +kernel
theorem d_Mo_expression_245 : decode prog_12_method_15_code 245 = .ok (.iload 5, 2) := by decide +kernel
theorem d_Mo_expression_247 : decode prog_12_method_15_code 247 = .ok (.bipush 45, 2) := by decide +kernel
theorem d_Mo_expression_249 : decode prog_12_method_15_code 249 = .ok (.if_icmp .eq 12, 3) := by decide +kernel
theorem d_Mo_expression_252 : decode prog_12_method_15_code 252 = .ok (.iload 5, 2) := by decide +kernel
theorem d_Mo_expression_254 : decode prog_12_method_15_code 254 = .ok (.bipush 40, 2) := by decide +kernel
theorem d_Mo_expression_256 : decode prog_12_method_15_code 256 = .ok (.if_icmp .eq 5, 3) := by decide +kernel
theorem d_Mo_expression_259 : decode prog_12_method_15_code 259 = .ok (.iconst 0, 1) := by decide +kernel
theorem d_Mo_expression_260 : decode prog_12_method_15_code 260 = .ok (.ireturn, 1) := by decide +kernel
theorem d_Mo_expression_261 : decode prog_12_method_15_code 261 = .ok (.aload_n 0, 1) := by decide +kernel
theorem d_Mo_expression_262 : decode prog_12_method_15_code 262 = .ok (.dup, 1) := by decide +kernel
theorem d_Mo_expression_263 : decode prog_12_method_15_code 263 = .ok (.getfield 121, 3) := by decide +kernel
theorem d_Mo_expression_266 : decode prog_12_method_15_code 266 = .ok (.iconst 1, 1) := by decide +kernel
theorem d_Mo_expression_267 : decode prog_12_method_15_code 267 = .ok (.iadd, 1) := by decide +kernel
theorem d_Mo_expression_268 : decode prog_12_method_15_code 268 = .ok (.putfield 121, 3) := by decide +kernel
theorem d_Mo_expression_271 : decode prog_12_method_15_code 271 = .ok (.iinc 2 1, 3) := by decide +kernel
theorem d_Mo_expression_274 : decode prog_12_method_15_code 274 = .ok (.iload 5, 2) := by decide +kernel
theorem d_Mo_expression_276 : decode prog_12_method_15_code 276 = .ok (.bipush 45, 2) := by decide +kernel
theorem d_Mo_expression_278 : decode prog_12_method_15_code 278 = .ok (.if_icmp .ne 13, 3) := by decide +kernel
theorem d_Mo_expression_281 : decode prog_12_method_15_code 281 = .ok (.aload_n 0, 1) := by decide +kernel
theorem d_Mo_expression_282 : decode prog_12_method_15_code 282 = .ok (.iload 5, 2) := by decide +kernel
theorem d_Mo_expression_284 : decode prog_12_method_15_code 284 = .ok (.iconst 4, 1) := by decide +kernel
theorem d_Mo_expression_285 : decode prog_12_method_15_code 285 = .ok (.invokevirtual 146, 3) := by decide +kernel
theorem d_Mo_expression_288 : decode prog_12_method_15_code 288 = .ok (.goto 201, 3) := by decide +kernel
theorem d_Mo_expression_291 : decode prog_12_method_15_code 291 = .ok (.iinc 1 1, 3) := by decide +kernel
theorem d_Mo_expression_294 : decode prog_12_method_15_code 294 = .ok (.aload_n 0, 1) := by decide +kernel
theorem d_Mo_expression_295 : decode prog_12_method_15_code 295 = .ok (.getfield 44, 3) := by decide +kernel
theorem d_Mo_expression_298 : decode prog_12_method_15_code 298 = .ok (.iload_n 1, 1) := by decide +kernel
theorem d_Mo_expression_299 : decode prog_12_method_15_code 299 = .ok (.aload_n 0, 1) := by decide +kernel
theorem d_Mo_expression_300 : decode prog_12_method_15_code 300 = .ok (.getfield 135, 3) := by decide +kernel
theorem d_Mo_expression_303 : decode prog_12_method_15_code 303 = .ok (.iastore, 1) := by decide +kernel
theorem d_Mo_expression_304 : decode prog_12_method_15_code 304 = .ok (.aload_n 0, 1) := by decide +kernel
theorem d_Mo_expression_305 : decode prog_12_method_15_code 305 = .ok (.getfield 47, 3) := by decide +kernel
theorem d_Mo_expression_308 : decode prog_12_method_15_code 308 = .ok (.iload_n 1, 1) := by decide +kernel
theorem d_Mo_expression_309 : decode prog_12_method_15_code 309 = .ok (.iconst 0, 1) := by decide +kernel
theorem d_Mo_expression_310 : decode prog_12_method_15_code 310 = .ok (.bastore, 1) := by decide +kernel
theorem d_Mo_expression_311 : decode prog_12_method_15_code 311 = .ok (.goto 178, 3) := by decide +kernel
theorem d_Mo_expression_314 : decode prog_12_method_15_code 314 = .ok (.iload 5, 2) := by decide +kernel
theorem d_Mo_expression_316 : decode prog_12_method_15_code 316 = .ok (.invokestatic 149, 3) := by decide +kernel
theorem d_Mo_expression_319 : decode prog_12_method_15_code 319 = .ok (.ifCond .le 80, 3) := by decide +kernel
theorem d_Mo_expression_322 : decode prog_12_method_15_code 322 = .ok (.iload 5, 2) := by decide +kernel
theorem d_Mo_expression_324 : decode prog_12_method_15_code 324 = .ok (.invokestatic 149, 3) := by decide +kernel
theorem d_Mo_expression_327 : decode prog_12_method_15_code 327 = .ok (.iconst 1, 1) := by decide +kernel
theorem d_Mo_expression_328 : decode prog_12_method_15_code 328 = .ok (.if_icmp .ne 14, 3) := by decide +kernel
theorem d_Mo_expression_331 : decode prog_12_method_15_code 331 = .ok (.aload_n 0, 1) := by decide +kernel
theorem d_Mo_expression_332 : decode prog_12_method_15_code 332 = .ok (.getfield 47, 3) := by decide +kernel
theorem d_Mo_expression_335 : decode prog_12_method_15_code 335 = .ok (.iload_n 1, 1) := by decide +kernel
theorem d_Mo_expression_336 : decode prog_12_method_15_code 336 = .ok (.baload, 1) := by decide +kernel
theorem d_Mo_expression_337 : decode prog_12_method_15_code 337 = .ok (.ifCond .eq 5, 3) := by decide +kernel
theorem d_Mo_expression_340 : decode prog_12_method_15_code 340 = .ok (.iconst 0, 1) := by decide +kernel
theorem d_Mo_expression_341 : decode prog_12_method_15_code 341 = .ok (.ireturn, 1) := by decide +kernel
theorem d_Mo_expression_342 : decode prog_12_method_15_code 342 = .ok (.iload 5, 2) := by decide +kernel
theorem d_Mo_expression_344 : decode prog_12_method_15_code 344 = .ok (.invokestatic 149, 3) := by decide +kernel
theorem d_Mo_expression_347 : decode prog_12_method_15_code 347 = .ok (.iconst 1, 1) := by decide +kernel
theorem d_Mo_expression_348 : decode prog_12_method_15_code 348 = .ok (.if_icmp .ne 10, 3) := by decide +kernel
theorem d_Mo_expression_351 : decode prog_12_method_15_code 351 = .ok (.aload_n 0, 1) := by decide +kernel
theorem d_Mo_expression_352 : decode prog_12_method_15_code 352 = .ok (.getfield 47, 3) := by decide +kernel
theorem d_Mo_expression_355 : decode prog_12_method_15_code 355 = .ok (.iload_n 1, 1) := by decide +kernel
theorem d_Mo_expression_356 : decode prog_12_method_15_code 356 = .ok (.iconst 1, 1) := by decide +kernel
theorem d_Mo_expression_357 : decode prog_12_method_15_code 357 = .ok (.bastore, 1) := by decide +kernel
theorem d_Mo_expression_358 : decode prog_12_method_15_code 358 = .ok (.aload_n 0, 1) := by decide +kernel
theorem d_Mo_expression_359 : decode prog_12_method_15_code 359 = .ok (.aload_n 0, 1) := by decide +kernel
theorem d_Mo_expression_360 : decode prog_12_method_15_code 360 = .ok (.getfield 44, 3) := by decide +kernel
theorem d_Mo_expression_363 : decode prog_12_method_15_code 363 = .ok (.iload_n 1, 1) := by decide +kernel
theorem d_Mo_expression_364 : decode prog_12_method_15_code 364 = .ok (.iaload, 1) := by decide +kernel
theorem d_Mo_expression_365 : decode prog_12_method_15_code 365 = .ok (.iload 5, 2) := by decide +kernel
theorem d_Mo_expression_367 : decode prog_12_method_15_code 367 = .ok (.invokestatic 149, 3) := by decide +kernel
theorem d_Mo_expression_370 : decode prog_12_method_15_code 370 = .ok (.invokevirtual 152, 3) := by decide +kernel
theorem d_Mo_expression_373 : decode prog_12_method_15_code 373 = .ok (.aload_n 0, 1) := by decide +kernel
theorem d_Mo_expression_374 : decode prog_12_method_15_code 374 = .ok (.iload 5, 2) := by decide +kernel
theorem d_Mo_expression_376 : decode prog_12_method_15_code 376 = .ok (.iload 5, 2) := by decide +kernel
theorem d_Mo_expression_378 : decode prog_12_method_15_code 378 = .ok (.invokestatic 149, 3) := by decide +kernel
theorem d_Mo_expression_381 : decode prog_12_method_15_code 381 = .ok (.invokevirtual 146, 3) := by decide +kernel
theorem d_Mo_expression_384 : decode prog_12_method_15_code 384 = .ok (.aload_n 0, 1) := by decide +kernel
theorem d_Mo_expression_385 : decode prog_12_method_15_code 385 = .ok (.dup, 1) := by decide +kernel
theorem d_Mo_expression_386 : decode prog_12_method_15_code 386 = .ok (.getfield 121, 3) := by decide +kernel
theorem d_Mo_expression_389 : decode prog_12_method_15_code 389 = .ok (.iconst 1, 1) := by decide +kernel
theorem d_Mo_expression_390 : decode prog_12_method_15_code 390 = .ok (.iadd, 1) := by decide +kernel
theorem d_Mo_expression_391 : decode prog_12_method_15_code 391 = .ok (.putfield 121, 3) := by decide +kernel
theorem d_Mo_expression_394 : decode prog_12_method_15_code 394 = .ok (.iconst 1, 1) := by decide +kernel
theorem d_Mo_expression_395 : decode prog_12_method_15_code 395 = .ok (.istore_n 3, 1) := by decide +kernel
theorem d_Mo_expression_396 : decode prog_12_method_15_code 396 = .ok (.goto 93, 3) := by decide +kernel
theorem d_Mo_expression_399 : decode prog_12_method_15_code 399 = .ok (.aload_n 0, 1) := by decide +kernel
theorem d_Mo_expression_400 : decode prog_12_method_15_code 400 = .ok (.aload_n 0, 1) := by decide +kernel
theorem d_Mo_expression_401 : decode prog_12_method_15_code 401 = .ok (.getfield 44, 3) := by decide +kernel
theorem d_Mo_expression_404 : decode prog_12_method_15_code 404 = .ok (.iload_n 1, 1) := by decide +kernel
theorem d_Mo_expression_405 : decode prog_12_method_15_code 405 = .ok (.iaload, 1) := by decide +kernel
theorem d_Mo_expression_406 : decode prog_12_method_15_code 406 = .ok (.iconst 1, 1) := by decide +kernel
theorem d_Mo_expression_407 : decode prog_12_method_15_code 407 = .ok (.invokevirtual 152, 3) := by decide +kernel
theorem d_Mo_expression_410 : decode prog_12_method_15_code 410 = .ok (.iload_n 1, 1) := by decide +kernel
theorem d_Mo_expression_411 : decode prog_12_method_15_code 411 = .ok (.ifCond .ne 11, 3) := by decide +kernel
theorem d_Mo_expression_414 : decode prog_12_method_15_code 414 = .ok (.aload_n 0, 1) := by decide +kernel
theorem d_Mo_expression_415 : decode prog_12_method_15_code 415 = .ok (.bipush 24, 2) := by decide +kernel
theorem d_Mo_expression_417 : decode prog_12_method_15_code 417 = .ok (.invokevirtual 131, 3) := by decide +kernel
theorem d_Mo_expression_420 : decode prog_12_method_15_code 420 = .ok (.iconst 1, 1) := by decide +kernel
theorem d_Mo_expression_421 : decode prog_12_method_15_code 421 = .ok (.ireturn, 1) := by decide +kernel
theorem d_Mo_expression_422 : decode prog_12_method_15_code 422 = .ok (.aload_n 0, 1) := by decide +kernel
theorem d_Mo_expression_423 : decode prog_12_method_15_code 423 = .ok (.bipush 41, 2) := by decide +kernel
theorem d_Mo_expression_425 : decode prog_12_method_15_code 425 = .ok (.invokevirtual 155, 3) := by decide +kernel
theorem d_Mo_expression_428 : decode prog_12_method_15_code 428 = .ok (.ifCond .ne 5, 3) := by decide +kernel
theorem d_Mo_expression_431 : decode prog_12_method_15_code 431 = .ok (.iconst 0, 1) := by decide +kernel
theorem d_Mo_expression_432 : decode prog_12_method_15_code 432 = .ok (.ireturn, 1) := by decide +kernel
theorem d_Mo_expression_433 : decode prog_12_method_15_code 433 = .ok (.iinc 1 (-1), 3) := by decide +kernel
theorem d_Mo_expression_436 : decode prog_12_method_15_code 436 = .ok (.iinc 2 (-1), 3) := by decide +kernel
theorem d_Mo_expression_439 : decode prog_12_method_15_code 439 = .ok (.aload_n 0, 1) := by decide +kernel
theorem d_Mo_expression_440 : decode prog_12_method_15_code 440 = .ok (.getfield 135, 3) := by decide +kernel
theorem d_Mo_expression_443 : decode prog_12_method_15_code 443 = .ok (.aload_n 0, 1) := by decide +kernel
theorem d_Mo_expression_444 : decode prog_12_method_15_code 444 = .ok (.getfield 44, 3) := by decide +kernel
theorem d_Mo_expression_447 : decode prog_12_method_15_code 447 = .ok (.iload_n 1, 1) := by decide +kernel
theorem d_Mo_expression_448 : decode prog_12_method_15_code 448 = .ok (.iaload, 1) := by decide +kernel
theorem d_Mo_expression_449 : decode prog_12_method_15_code 449 = .ok (.if_icmp .le 40, 3) := by decide +kernel
theorem d_Mo_expression_452 : decode prog_12_method_15_code 452 = .ok (.aload_n 0, 1) := by decide +kernel
theorem d_Mo_expression_453 : decode prog_12_method_15_code 453 = .ok (.getfield 41, 3) := by decide +kernel
theorem d_Mo_expression_456 : decode prog_12_method_15_code 456 = .ok (.aload_n 0, 1) := by decide +kernel
theorem d_Mo_expression_457 : decode prog_12_method_15_code 457 = .ok (.getfield 135, 3) := by decide +kernel
theorem d_Mo_expression_460 : decode prog_12_method_15_code 460 = .ok (.iconst 1, 1) := by decide +kernel
theorem d_Mo_expression_461 : decode prog_12_method_15_code 461 = .ok (.isub, 1) := by decide +kernel
theorem d_Mo_expression_462 : decode prog_12_method_15_code 462 = .ok (.iaload, 1) := by decide +kernel
theorem d_Mo_expression_463 : decode prog_12_method_15_code 463 = .ok (.iconst 4, 1) := by decide +kernel
theorem d_Mo_expression_464 : decode prog_12_method_15_code 464 = .ok (.if_icmp .ne 25, 3) := by decide +kernel
theorem d_Mo_expression_467 : decode prog_12_method_15_code 467 = .ok (.aload_n 0, 1) := by decide +kernel
theorem d_Mo_expression_468 : decode prog_12_method_15_code 468 = .ok (.dup, 1) := by decide +kernel
theorem d_Mo_expression_469 : decode prog_12_method_15_code 469 = .ok (.getfield 135, 3) := by decide +kernel
theorem d_Mo_expression_472 : decode prog_12_method_15_code 472 = .ok (.iconst 1, 1) := by decide +kernel
theorem d_Mo_expression_473 : decode prog_12_method_15_code 473 = .ok (.isub, 1) := by decide +kernel
theorem d_Mo_expression_474 : decode prog_12_method_15_code 474 = .ok (.putfield 135, 3) := by decide +kernel
theorem d_Mo_expression_477 : decode prog_12_method_15_code 477 = .ok (.iinc 2 (-1), 3) := by decide +kernel
theorem d_Mo_expression_480 : decode prog_12_method_15_code 480 = .ok (.aload_n 0, 1) := by decide +kernel
theorem d_Mo_expression_481 : decode prog_12_method_15_code 481 = .ok (.bipush 23, 2) := by decide +kernel
theorem d_Mo_expression_483 : decode prog_12_method_15_code 483 = .ok (.invokevirtual 131, 3) := by decide +kernel
theorem d_Mo_expression_486 : decode prog_12_method_15_code 486 = .ok (.goto (-47), 3) := by decide +kernel
theorem d_Mo_expression_489 : decode prog_12_method_15_code 489 = .ok (.iinc 4 1, 3) := by decide +kernel
theorem d_Mo_expression_492 : decode prog_12_method_15_code 492 = .ok (.goto (-464), 3) := by decide +kernel
theorem d_Mo_expression_495 : decode prog_12_method_15_code 495 = .ok (.iconst 0, 1) := by decide +kernel
theorem d_Mo_expression_496 : decode prog_12_method_15_code 496 = .ok (.ireturn, 1) := by decide +kernel
theorem x_incN (a : Nat) : Int32.ofNat a + Int32.ofInt 1 = Int32.ofNat (a + 1) := (Int32.ofNat_add a 1).symm
theorem x_decN {a : Nat} (h : 1 ≤ a) : Int32.ofNat a + Int32.ofInt (-1) = Int32.ofNat (a - 1) := by
  obtain ⟨k, rfl⟩ : ∃ k, a = k + 1 := ⟨a - 1, by omega⟩
  rw [← x_incN, Int32.add_assoc, show (Int32.ofInt 1 + Int32.ofInt (-1) : Int32) = 0 from by decide, Int32.add_zero]
  rfl
theorem m_EX.tk1 {I : Nat → Int32} {A : Nat → Nat → Int32} {I1 : Nat → Int32} {A1 : Nat → Nat → Int32} {st : Nat → Nat} {b O dp od P0 P1 S a0 a1 : Nat} (h : m_EX I A I1 A1 st b O dp od 1 P0 P1 S a0 a1) : m_TK (A1 2) a0 a1 (1 + m_nb (A1 16) O) (P1 - P0) := by
  have h1 := h.2.2.2.2.2
  rw [Nat.add_comm (m_nb (A1 16) O) 1] at h1
  exact h1
theorem m_EX.init {I : Nat → Int32} {A : Nat → Nat → Int32} {P S a0 : Nat} {f : Nat → Int32} (i6 : I 6 = Int32.ofNat P) (i7 : I 7 = Int32.ofNat a0) (hp : P ≤ S) : m_EX I A (upd I 10 0) (m_up (m_up A 17 (upd (A 17) 0 0)) 19 f) (fun _ => 0) 0 0 1 1 0 P P S a0 a0 := by
  refine ⟨⟨i6, i7, rfl⟩, ⟨Nat.le_refl _, hp, Nat.le_refl _, ?_⟩, ⟨m_fr.rf.up (by decide) _, (m_fa.rf.up (by decide) _).up (by decide) _, fun j hj => rfl⟩, fun j hj => ?_, m_ES.start rfl, ?_⟩
  · show a0 + 0 + m_nb _ 0 ≤ a0 + 2 * (P - P)
    exact Nat.le_add_right _ _
  · rw [show j = 0 by omega]; rfl
  · exact m_TK.nil
set_option maxHeartbeats 4000000 in
set_option maxRecDepth 100000 in
theorem m_expression (l : Launch) (dC : Nat → ClassId) (dI : Nat → Nat → Nat) (ar : Nat → ClassId) (N0 : Nat) (z : Nat → Nat) (h0 : Nat) (ad : Nat → Nat) (I : Nat → Int32) (T : Int64) (A : Nat → Nat → Int32) (U : Nat → Int64) (P S a0 : Nat) (sz : Nat) (h6 : I 6 = Int32.ofNat P) (h4 : I 4 = Int32.ofNat S) (hP9 : P ≤ 72) (hS9 : S ≤ 72) (hPS : P ≤ S) (h7 : I 7 = Int32.ofNat a0) (ha0 : a0 ≤ 1000) : Met l ({ cls := "ChannelMachineModel", name := "expression", desc := "()Z" } : Jvm.MethodName) ((Jvm.Cond.code ({ cls := "ChannelMachineModel", name := "expression", desc := "()Z" } : Jvm.MethodName) prog_12_method_15_code (9 : Nat) (Option.some Jvm.ClassFile.FieldType.boolean)) :: x_T) ({ frames := 3, cells := 0, slots := 0, locals := 65 }) (x_Pc (dC, dI) ar N0 z (m_W h0 ad ar I T A U) sz [.ref h0]) (va_Qi (fun (r : Int32) (u : (Nat → Int32) × Int64 × (Nat → Nat → Int32) × (Nat → Int64)) => ∃ P1 a1 : Nat, u.1 6 = Int32.ofNat P1 ∧ P ≤ P1 ∧ P1 ≤ S ∧ m_fr [6, 7, 10] I u.1 ∧ m_fa [2, 15, 16, 17, 19] A u.2.2.1 ∧ u.2.1 = T ∧ u.2.2.2 = U ∧ (r = 0 ∨ (r = 1 ∧ P < P1 ∧ u.1 7 = Int32.ofNat (a1 + 1) ∧ a0 ≤ a1 ∧ a1 ≤ a0 + 2 * (P1 - P) ∧ m_TK (u.2.2.1 2) a0 a1 1 (P1 - P) ∧ u.2.2.1 2 a1 = 24 ∧ ∀ j, j < a0 → u.2.2.1 2 j = A 2 j))) (fun u t => va_P (dC, dI) x_cl (m_W h0 ad ar u.1 u.2.1 u.2.2.1 u.2.2.2) t.heap) (va_A (m_W h0 ad ar I T A U) sz)) 0 0 (va_A (m_W h0 ad ar I T A U) sz) := by
  refine Met.ofW (cc := prog_12_method_15_code) (maxL := 9) (ret := (some .boolean)) (by decide) rfl ?_
  intro p e s m args below meth c s₁ B hml hv
  obtain ⟨rfl, hsz, hN0, hP, hU, hZ, hD0⟩ := hv
  have hK := hU.1
  have hx := B.exec
  have hb := B.bytes
  have hr := B.returns
  have hts : ∀ w ∈ x_T, w.before ([.ref h0] : List Value).toArray s = true := fun w h => atoms_spec (ws := (Jvm.Cond.code ({ cls := "ChannelMachineModel", name := "expression", desc := "()Z" } : Jvm.MethodName) prog_12_method_15_code (9 : Nat) (Option.some Jvm.ClassFile.FieldType.boolean)) :: x_T) B.pre w (List.mem_cons_of_mem _ h)
  have hown : s.vm.findClass "ChannelMachineModel" = some m.cls := findClass_of_methodNamed B.named
  have hlocks := B.notSynchronized
  subst hsz
  have hD := hD0.self (sz := s.heap.size)
  have hAN := x_AN hD0 hN0
  generalize hAe : va_A (m_W h0 ad ar I T A U) s.heap.size = Bq at hD hAN ⊢
  have hA : ∀ q : Nat, s.heap.size ≤ q → Bq q := fun q h => by rw [← hAe]; exact Or.inr h
  have hS : va_S Bq s.heap s.heap [] := va_S.rf
  have hl := lv_entry ([.ref h0]) (n := 9) (Nat.le_of_ble_eq_true rfl)
  rw [lg_entry_eq]
  generalize (lg_sl ([.ref h0]) ++ List.replicate (9 - (lg_sl ([.ref h0])).length) Slot.unset).toArray = ls at hl ⊢
  have hl : lv_has ls 9 [(0, .ref h0)] := hl
  refine lv_iconst (v := 0) hx hb d_Mo_expression_0 (by decide) ?_
  refine lv_istore_n (lv' := [(1, .int 0), (0, .ref h0)]) hx hb d_Mo_expression_1 rfl hl (by decide) rfl (fun ls hl => ?_)
  refine lv_iconst (v := 1) hx hb d_Mo_expression_2 (by decide) ?_
  refine lv_istore_n (lv' := [(2, .int 1), (1, .int 0), (0, .ref h0)]) hx hb d_Mo_expression_3 rfl hl (by decide) rfl (fun ls hl => ?_)
  refine lv_iconst (v := 1) hx hb d_Mo_expression_4 (by decide) ?_
  refine lv_istore_n (lv' := [(3, .int 1), (2, .int 1), (1, .int 0), (0, .ref h0)]) hx hb d_Mo_expression_5 rfl hl (by decide) rfl (fun ls hl => ?_)
  refine lv_aload_n hx hb d_Mo_expression_6 rfl (lv_at hl 3 rfl) ?_
  refine lv_iconst (v := 0) hx hb d_Mo_expression_7 (by decide) ?_
  refine m_p hx hb hts hown hK hP hD hS 10 (by decide) rfl (hts _ k_977) rfl (by decide +kernel) rfl (by decide) (x := 0) d_Mo_expression_8 (fun H locs hP hD hS => ?_)
  refine lv_aload_n hx hb d_Mo_expression_11 rfl (lv_at hl 3 rfl) ?_
  refine m_g hx hb hts hown hK hP 17 (by decide) rfl (hts _ k_984) (v := .ref (ad 17)) rfl d_Mo_expression_12 ?_
  refine lv_iconst (v := 0) hx hb d_Mo_expression_15 (by decide) ?_
  refine lv_iconst (v := 0) hx hb d_Mo_expression_16 (by decide) ?_
  refine m_st hx hb hK hP hD hS 10 rfl (by decide) (j := 0) (x := 0) (by unfold vp_in; decide) d_Mo_expression_17 (fun H locs hP hD hS => ?_)
  rw [show Int32.toNatClampNeg (0 : Int32) = 0 from by decide] at hP hD
  refine lv_aload_n hx hb d_Mo_expression_18 rfl (lv_at hl 3 rfl) ?_
  refine m_g hx hb hts hown hK hP 19 (by decide) rfl (hts _ k_986) (v := .ref (ad 19)) rfl d_Mo_expression_19 ?_
  refine lv_iconst (v := 0) hx hb d_Mo_expression_22 (by decide) ?_
  refine lv_iconst (v := 0) hx hb d_Mo_expression_23 (by decide) ?_
  refine m_zst hx hb hK hP hD hS 11 rfl (by decide) (j := 0) (x := 0) (by unfold vp_in; decide) d_Mo_expression_24 (fun H locs hP hD hS => ?_)
  rw [show Int32.toNatClampNeg (0 : Int32) = 0 from by decide] at hP hD
  rw [show vp_nar .boolean 0 = 0 from rfl] at hP hD
  refine lv_iconst (v := 0) hx hb d_Mo_expression_25 (by decide) ?_
  refine lv_istore (lv' := [(4, .int 0), (3, .int 1), (2, .int 1), (1, .int 0), (0, .ref h0)]) hx hb d_Mo_expression_26 hl (by decide) rfl (fun ls hl => ?_)
  refine x_while (fun n H locs ls => ∃ (I1 : Nat → Int32) (A1 : Nat → Nat → Int32) (st : Nat → Nat) (b O dp od e9 P1 a1 t1 : Nat), n = 200 - t1 ∧ t1 ≤ 200 ∧ ((od = 1 ∧ e9 = 0) ∨ (od = 0 ∧ e9 = 1)) ∧ m_EX I A I1 A1 st b O dp od e9 P P1 S a0 a1 ∧ va_P (dC, dI) x_cl (m_W h0 ad ar I1 T A1 U) H ∧ va_D Bq (m_W h0 ad ar I1 T A1 U) ∧ va_S Bq s.heap H locs ∧ lv_has ls 9 [(0, .ref h0), (1, .int (Int32.ofNat b)), (2, .int (Int32.ofNat dp)), (3, .int (Int32.ofNat od)), (4, .int (Int32.ofNat t1))]) (fun n ihO H locs ls h9 => ?_) ⟨(upd I 10 0), (m_up (m_up A 17 (upd (A 17) (0) 0)) 19 (upd ((m_up A 17 (upd (A 17) (0) 0)) 19) (0) 0)), fun _ => 0, 0, 0, 1, 1, 0, P, a0, 0, rfl, by omega, Or.inl ⟨rfl, rfl⟩, m_EX.init h6 h7 hPS, hP, hD, hS, lv_sub hl [4, 3, 2, 1, 0] rfl⟩
  obtain ⟨I1, A1, st, b, O, dp, od, e9, P1, a1, t1, hn9, ht9, hod, hE, hP, hD, hS, hl⟩ := h9
  rcases hod with ⟨rfl, rfl⟩ | ⟨rfl, rfl⟩
  · have hnum := hE.num
    have hl : lv_has ls 9 [(0, .ref h0), (1, .int (Int32.ofNat b)), (2, .int (Int32.ofNat dp)), (3, .int 1), (4, .int (Int32.ofNat t1))] := hl
    refine lv_iload hx hb d_Mo_expression_28 (lv_at hl 4 rfl) ?_
    refine lv_sipush (v := 200) hx hb d_Mo_expression_30 (by decide) ?_
    refine lv_icmp_ge (tgt := 495) hx hb d_Mo_expression_33 (by decide) (fun c1 => ?_) (fun c1 => ?_)
    · have c1 : 200 ≤ t1 := (x_leN (a := 200) (b := t1) (by omega) (by omega)).mp c1
      refine lv_iconst (v := 0) hx hb d_Mo_expression_495 (by decide) ?_
      refine W.widen (k := 0) (n := 0) (Nat.le_of_ble_eq_true rfl) (Nat.le_of_ble_eq_true rfl) ?_
      exact W.zret (v := 0) hx hb hr (rfl) (fun t ht hW => ⟨⟨0, (I1, T, A1, U), rfl, ⟨P1, 0, hE.1.1, by omega, by omega, hE.2.2.1.1, hE.2.2.1.2.1, rfl, rfl, Or.inl rfl⟩, by dsimp only; rw [ht]; exact hP⟩, hS.F ht⟩) hS.2.2 d_Mo_expression_496
    · have c1 : ¬ 200 ≤ t1 := fun h9 => c1 ((x_leN (a := 200) (b := t1) (by omega) (by omega)).mpr h9)
      refine lv_aload_n hx hb d_Mo_expression_36 rfl (lv_at hl 0 rfl) ?_
      have hFc := m_free hD hS hA
      refine va_calli (va_runV (As := []) (rest := []) ⟨hx, hb, hml, hown, hts⟩ (m_look l dC dI ar N0 z h0 ad I1 T A1 U P1 S H.size hE.1.1 ((hE.2.2.1.1 4 (by decide)).trans h4) (by omega) (by omega)) (cwV 0 hts (x_goodV k_1140 k_1142 kp_53 k_9 k_1143) rfl rfl rfl (by decide +kernel) ⟨Nat.le_of_ble_eq_true rfl, Nat.le_of_ble_eq_true rfl⟩) ⟨x_blind, va_recv hK hP (ci := 6) (q0 := 0) rfl rfl, fun U9 hU9 hW9 => x_pre hU9 hW9 hP hD hU hZ hS hAN hN0⟩ rfl rfl hl.1 rfl (lv_room (Nat.le_of_ble_eq_true rfl)) d_Mo_expression_37 ⟨Nat.le_of_ble_eq_true rfl, Nat.le_of_ble_eq_true rfl⟩) hS (fun q _ h => hFc q h) hFc (fun r2 u t H1 locs ht hvm hw hB hz1 hk1 hS => ?_)
      obtain ⟨I4, T4, A4, U4⟩ := u
      dsimp only at hw hB
      rw [ht] at hB
      have hP : va_P (dC, dI) x_cl (m_W h0 ad ar I4 T4 A4 U4) H1 := hB
      have hD : va_D Bq (m_W h0 ad ar I4 T4 A4 U4) := m_D hD
      generalize H1 = H at hP hS ⊢
      refine W.widen (k := 0) (n := 0) (Nat.le_of_ble_eq_true rfl) (Nat.le_of_ble_eq_true rfl) ?_
      obtain ⟨h9, hk5⟩ := hw
      cases h9
      refine lv_istore (lv' := [(5, .int r2), (0, .ref h0), (1, .int (Int32.ofNat b)), (2, .int (Int32.ofNat dp)), (3, .int 1), (4, .int (Int32.ofNat t1))]) hx hb d_Mo_expression_40 hl (by decide) rfl (fun ls hl => ?_)
      refine lv_iload_n hx hb d_Mo_expression_42 rfl (lv_at hl 4 rfl) ?_
      refine lv_if_eq (tgt := 236) hx hb d_Mo_expression_43 (by decide) (fun c6 => absurd c6 (by decide)) (fun _ => ?_)
      refine lv_aload_n hx hb d_Mo_expression_46 rfl (lv_at hl 1 rfl) ?_
      have hFc := m_free hD hS hA
      refine va_calli (va_runV (As := []) (rest := []) ⟨hx, hb, hml, hown, hts⟩ (m_isVariable l dC dI ar N0 z h0 ad I1 T A1 U P1 S H.size hE.1.1 ((hE.2.2.1.1 4 (by decide)).trans h4) (by omega) (by omega)) (cwV 0 hts (x_goodV k_1164 k_1166 kp_59 k_9 k_1167) rfl rfl rfl (by decide +kernel) ⟨Nat.le_of_ble_eq_true rfl, Nat.le_of_ble_eq_true rfl⟩) ⟨x_blind, va_recv hK hP (ci := 6) (q0 := 0) rfl rfl, fun U9 hU9 hW9 => x_pre hU9 hW9 hP hD hU hZ hS hAN hN0⟩ rfl rfl hl.1 rfl (lv_room (Nat.le_of_ble_eq_true rfl)) d_Mo_expression_47 ⟨Nat.le_of_ble_eq_true rfl, Nat.le_of_ble_eq_true rfl⟩) hS (fun q _ h => hFc q h) hFc (fun r7 u t H1 locs ht hvm hw hB hz1 hk1 hS => ?_)
      obtain ⟨I9, T9, A9, U9⟩ := u
      dsimp only at hw hB
      rw [ht] at hB
      have hP : va_P (dC, dI) x_cl (m_W h0 ad ar I9 T9 A9 U9) H1 := hB
      have hD : va_D Bq (m_W h0 ad ar I9 T9 A9 U9) := m_D hD
      generalize H1 = H at hP hS ⊢
      refine W.widen (k := 0) (n := 0) (Nat.le_of_ble_eq_true rfl) (Nat.le_of_ble_eq_true rfl) ?_
      obtain ⟨h9, hw⟩ := hw
      cases h9
      rcases hw with ⟨v10, rfl⟩ | ⟨v10, rfl⟩
      · have v10 := v10
        refine lv_if_ne (tgt := 65) hx hb d_Mo_expression_50 (by decide) (fun _ => ?_) (fun c11 => absurd c11 (by decide))
        refine lv_aload_n hx hb d_Mo_expression_65 rfl (lv_at hl 1 rfl) ?_
        have hFc := m_free hD hS hA
        refine va_calli (va_runV (As := []) (rest := []) ⟨hx, hb, hml, hown, hts⟩ (m_isVariable l dC dI ar N0 z h0 ad I1 T A1 U P1 S H.size hE.1.1 ((hE.2.2.1.1 4 (by decide)).trans h4) (by omega) (by omega)) (cwV 0 hts (x_goodV k_1164 k_1166 kp_59 k_9 k_1167) rfl rfl rfl (by decide +kernel) ⟨Nat.le_of_ble_eq_true rfl, Nat.le_of_ble_eq_true rfl⟩) ⟨x_blind, va_recv hK hP (ci := 6) (q0 := 0) rfl rfl, fun U9 hU9 hW9 => x_pre hU9 hW9 hP hD hU hZ hS hAN hN0⟩ rfl rfl hl.1 rfl (lv_room (Nat.le_of_ble_eq_true rfl)) d_Mo_expression_66 ⟨Nat.le_of_ble_eq_true rfl, Nat.le_of_ble_eq_true rfl⟩) hS (fun q _ h => hFc q h) hFc (fun r12 u t H1 locs ht hvm hw hB hz1 hk1 hS => ?_)
        obtain ⟨I14, T14, A14, U14⟩ := u
        dsimp only at hw hB
        rw [ht] at hB
        have hP : va_P (dC, dI) x_cl (m_W h0 ad ar I14 T14 A14 U14) H1 := hB
        have hD : va_D Bq (m_W h0 ad ar I14 T14 A14 U14) := m_D hD
        generalize H1 = H at hP hS ⊢
        refine W.widen (k := 0) (n := 0) (Nat.le_of_ble_eq_true rfl) (Nat.le_of_ble_eq_true rfl) ?_
        obtain ⟨h9, hw⟩ := hw
        cases h9
        rcases hw with ⟨v15, rfl⟩ | ⟨v15, rfl⟩
        · have v15 := v15
          refine lv_if_eq (tgt := 80) hx hb d_Mo_expression_69 (by decide) (fun c16 => absurd c16 (by decide)) (fun _ => ?_)
          refine lv_iload hx hb d_Mo_expression_72 (lv_at hl 0 rfl) ?_
          refine lv_bipush (v := 97) hx hb d_Mo_expression_74 (by decide) ?_
          obtain ⟨v9, hv9, ev9⟩ := m_var (c := r2) (by rw [hk5]; exact v15)
          have hpsv : P1 < S := m_lkv v15
          refine lv_isub hx hb d_Mo_expression_76 ?_
          refine W.eq (g2 := F0 m 77 ls [.int (Int32.ofNat v9)]) (by rw [ev9]) ?_
          refine lv_goto (tgt := 81) hx hb d_Mo_expression_77 (by decide) ?_
          refine lv_istore (lv' := [(6, .int (Int32.ofNat v9)), (5, .int r2), (0, .ref h0), (1, .int (Int32.ofNat b)), (2, .int (Int32.ofNat dp)), (3, .int 1), (4, .int (Int32.ofNat t1))]) hx hb d_Mo_expression_81 hl (by decide) rfl (fun ls hl => ?_)
          refine lv_aload_n hx hb d_Mo_expression_83 rfl (lv_at hl 2 rfl) ?_
          have hFc := m_free hD hS hA
          refine va_calli (va_runV (As := []) (rest := []) ⟨hx, hb, hml, hown, hts⟩ (m_isVariable l dC dI ar N0 z h0 ad I1 T A1 U P1 S H.size hE.1.1 ((hE.2.2.1.1 4 (by decide)).trans h4) (by omega) (by omega)) (cwV 0 hts (x_goodV k_1164 k_1166 kp_59 k_9 k_1167) rfl rfl rfl (by decide +kernel) ⟨Nat.le_of_ble_eq_true rfl, Nat.le_of_ble_eq_true rfl⟩) ⟨x_blind, va_recv hK hP (ci := 6) (q0 := 0) rfl rfl, fun U9 hU9 hW9 => x_pre hU9 hW9 hP hD hU hZ hS hAN hN0⟩ rfl rfl hl.1 rfl (lv_room (Nat.le_of_ble_eq_true rfl)) d_Mo_expression_84 ⟨Nat.le_of_ble_eq_true rfl, Nat.le_of_ble_eq_true rfl⟩) hS (fun q _ h => hFc q h) hFc (fun r17 u t H1 locs ht hvm hw hB hz1 hk1 hS => ?_)
          obtain ⟨I19, T19, A19, U19⟩ := u
          dsimp only at hw hB
          rw [ht] at hB
          have hP : va_P (dC, dI) x_cl (m_W h0 ad ar I19 T19 A19 U19) H1 := hB
          have hD : va_D Bq (m_W h0 ad ar I19 T19 A19 U19) := m_D hD
          generalize H1 = H at hP hS ⊢
          refine W.widen (k := 0) (n := 0) (Nat.le_of_ble_eq_true rfl) (Nat.le_of_ble_eq_true rfl) ?_
          obtain ⟨h9, hw⟩ := hw
          cases h9
          rcases hw with ⟨v20, rfl⟩ | ⟨v20, rfl⟩
          · have v20 := v20
            refine lv_istore (lv' := [(7, .int 1), (6, .int (Int32.ofNat v9)), (5, .int r2), (0, .ref h0), (1, .int (Int32.ofNat b)), (2, .int (Int32.ofNat dp)), (3, .int 1), (4, .int (Int32.ofNat t1))]) hx hb d_Mo_expression_87 hl (by decide) rfl (fun ls hl => ?_)
            refine lv_iconst (v := 0) hx hb d_Mo_expression_89 (by decide) ?_
            refine lv_istore (lv' := [(8, .int 0), (7, .int 1), (6, .int (Int32.ofNat v9)), (5, .int r2), (0, .ref h0), (1, .int (Int32.ofNat b)), (2, .int (Int32.ofNat dp)), (3, .int 1), (4, .int (Int32.ofNat t1))]) hx hb d_Mo_expression_90 hl (by decide) rfl (fun ls hl => ?_)
            refine lv_iload hx hb d_Mo_expression_92 (lv_at hl 1 rfl) ?_
            refine lv_if_ne (tgt := 148) hx hb d_Mo_expression_94 (by decide) (fun _ => ?_) (fun c21 => absurd c21 (by decide))
            refine lv_iload hx hb d_Mo_expression_148 (lv_at hl 1 rfl) ?_
            refine lv_if_eq (tgt := 163) hx hb d_Mo_expression_150 (by decide) (fun c22 => absurd c22 (by decide)) (fun _ => ?_)
            refine lv_aload_n hx hb d_Mo_expression_153 rfl (lv_at hl 4 rfl) ?_
            refine lv_dup hx hb d_Mo_expression_154 rfl ?_
            refine m_g hx hb hts hown hK hP 6 (by decide) rfl (hts _ k_973) (v := .int (Int32.ofNat P1)) (congrArg Value.int hE.1.1) d_Mo_expression_155 ?_
            refine lv_iconst (v := 1) hx hb d_Mo_expression_158 (by decide) ?_
            refine lv_iadd hx hb d_Mo_expression_159 ?_
            refine W.eq (g2 := F0 m 160 ls [.int (Int32.ofNat (P1 + 1)), .ref h0]) (by rw [← x_addN (a := P1) (b := 1)] <;> rfl) ?_
            refine m_p hx hb hts hown hK hP hD hS 6 (by decide) rfl (hts _ k_973) rfl (by decide +kernel) rfl (by decide) (x := (Int32.ofNat (P1 + 1))) d_Mo_expression_160 (fun H locs hP hD hS => ?_)
            refine lv_aload_n hx hb d_Mo_expression_163 rfl (lv_at hl 4 rfl) ?_
            refine lv_iload hx hb d_Mo_expression_164 (lv_at hl 1 rfl) ?_
            refine lv_if_eq (tgt := 174) hx hb d_Mo_expression_166 (by decide) (fun c23 => absurd c23 (by decide)) (fun _ => ?_)
            refine lv_bipush (v := 21) hx hb d_Mo_expression_169 (by decide) ?_
            refine lv_goto (tgt := 176) hx hb d_Mo_expression_171 (by decide) ?_
            refine lv_iload hx hb d_Mo_expression_176 (lv_at hl 2 rfl) ?_
            have hFc := m_free hD hS hA
            refine va_callv (va_runV (As := [.int 21, .int (Int32.ofNat v9)]) (rest := []) ⟨hx, hb, hml, hown, hts⟩ (m_emit2 l dC dI ar N0 z h0 ad (upd I1 6 (Int32.ofNat (P1 + 1))) T A1 U a1 (21) ((Int32.ofNat v9)) H.size hE.1.2.1 (by omega)) (cwV 2 hts (x_goodV k_1152 k_1154 kp_56 k_9 k_1155) rfl rfl rfl (by decide +kernel) ⟨Nat.le_of_ble_eq_true rfl, Nat.le_of_ble_eq_true rfl⟩) ⟨x_blind, va_recv hK hP (ci := 6) (q0 := 0) rfl rfl, fun U9 hU9 hW9 => x_pre hU9 hW9 hP hD hU hZ hS hAN hN0⟩ rfl rfl hl.1 rfl (lv_room (Nat.le_of_ble_eq_true rfl)) d_Mo_expression_178 ⟨Nat.le_of_ble_eq_true rfl, Nat.le_of_ble_eq_true rfl⟩) hS (fun q _ h => hFc q h) hFc (fun u t H1 locs ht hvm hw hB hz1 hk1 hS => ?_)
            obtain ⟨I25, T25, A25, U25⟩ := u
            dsimp only at hw hB
            rw [ht] at hB
            have hP : va_P (dC, dI) x_cl (m_W h0 ad ar I25 T25 A25 U25) H1 := hB
            have hD : va_D Bq (m_W h0 ad ar I25 T25 A25 U25) := m_D hD
            generalize H1 = H at hP hS ⊢
            refine W.widen (k := 0) (n := 0) (Nat.le_of_ble_eq_true rfl) (Nat.le_of_ble_eq_true rfl) ?_
            cases hw
            have hE := hE.opnd (t := 21) (v := (Int32.ofNat v9)) (I2 := (upd (upd I1 6 (Int32.ofNat (P1 + 1))) 7 (Int32.ofNat (a1 + 2)))) (P2 := (P1 + 1)) (by omega) (by omega) (Or.inr ⟨rfl, v9, hv9, rfl⟩) rfl rfl hE.1.2.2 ((m_fr.rf.up (by decide) _).up (by decide) _)
            refine x_while (fun n H locs ls => ∃ (I2 : Nat → Int32) (A2 : Nat → Nat → Int32) (O2 dp2 a2 : Nat), n = O2 ∧ m_EX I A I2 A2 st b O2 dp2 1 1 P ((P1 + 1)) S a0 a2 ∧ va_P (dC, dI) x_cl (m_W h0 ad ar I2 T A2 U) H ∧ va_D Bq (m_W h0 ad ar I2 T A2 U) ∧ va_S Bq s.heap H locs ∧ lv_has ls 9 [(0, .ref h0), (1, .int (Int32.ofNat b)), (2, .int (Int32.ofNat dp2)), (4, .int (Int32.ofNat t1))]) (fun n ihI H locs ls h9 => ?_) ⟨(upd (upd I1 6 (Int32.ofNat (P1 + 1))) 7 (Int32.ofNat (a1 + 2))), (m_up A1 2 (upd (upd (A1 2) a1 21) (a1 + 1) (Int32.ofNat v9))), O, dp, (a1 + 2), rfl, hE, hP, hD, hS, lv_sub hl [4, 5, 6, 8] rfl⟩
            obtain ⟨I2, A2, O2, dp2, a2, hn8, hE, hP, hD, hS, hl⟩ := h9
            have hnum := hE.num
            refine lv_aload_n hx hb d_Mo_expression_181 rfl (lv_at hl 0 rfl) ?_
            refine m_g hx hb hts hown hK hP 10 (by decide) rfl (hts _ k_977) (v := .int (Int32.ofNat O2)) (congrArg Value.int hE.1.2.2) d_Mo_expression_182 ?_
            refine lv_aload_n hx hb d_Mo_expression_185 rfl (lv_at hl 0 rfl) ?_
            refine m_g hx hb hts hown hK hP 17 (by decide) rfl (hts _ k_984) (v := .ref (ad 17)) rfl d_Mo_expression_186 ?_
            refine lv_iload_n hx hb d_Mo_expression_189 rfl (lv_at hl 1 rfl) ?_
            refine m_ld hx hb hK hP 10 rfl (by decide) (j := (Int32.ofNat b)) (x_inN (by omega) (by decide)) d_Mo_expression_190 ?_
            refine W.eq (g2 := F0 m 191 ls [.int (Int32.ofNat (st b)), .int (Int32.ofNat O2)]) (by rw [x_nat (a := b) (by omega), hE.2.2.2.1 b (Nat.le_refl _)]) ?_
            refine lv_icmp_le (tgt := 231) hx hb d_Mo_expression_191 (by decide) (fun c26 => ?_) (fun c26 => ?_)
            · have c26 : O2 ≤ (st b) := (x_leN (a := O2) (b := (st b)) (by omega) (by omega)).mp c26
              have hE := hE.done (Or.inl c26)
              refine lv_iconst (v := 0) hx hb d_Mo_expression_231 (by decide) ?_
              refine lv_istore_n (lv' := [(3, .int 0), (0, .ref h0), (1, .int (Int32.ofNat b)), (2, .int (Int32.ofNat dp2)), (4, .int (Int32.ofNat t1))]) hx hb d_Mo_expression_232 rfl hl (by decide) rfl (fun ls hl => ?_)
              refine lv_goto (tgt := 489) hx hb d_Mo_expression_233 (by decide) ?_
              refine lv_iinc (v := (Int32.ofNat (t1 + 1))) (lv' := [(4, .int (Int32.ofNat (t1 + 1))), (3, .int 0), (0, .ref h0), (1, .int (Int32.ofNat b)), (2, .int (Int32.ofNat dp2))]) hx hb d_Mo_expression_489 hl (k := 4) rfl (x_incN t1) (by decide) rfl (fun ls hl => ?_)
              refine lv_goto (tgt := 28) hx hb d_Mo_expression_492 (by decide) ?_
              exact ihO (200 - (t1 + 1)) (by omega) H locs ls ⟨I2, A2, st, b, O2, dp2, 0, 1, (P1 + 1), a2, t1 + 1, rfl, by omega, Or.inr ⟨rfl, rfl⟩, hE, hP, hD, hS, lv_sub hl [2, 3, 4, 1, 0] rfl⟩
            · have c26 : ¬ O2 ≤ (st b) := fun h9 => c26 ((x_leN (a := O2) (b := (st b)) (by omega) (by omega)).mpr h9)
              refine lv_aload_n hx hb d_Mo_expression_194 rfl (lv_at hl 0 rfl) ?_
              refine m_g hx hb hts hown hK hP 16 (by decide) rfl (hts _ k_983) (v := .ref (ad 16)) rfl d_Mo_expression_195 ?_
              refine lv_aload_n hx hb d_Mo_expression_198 rfl (lv_at hl 0 rfl) ?_
              refine m_g hx hb hts hown hK hP 10 (by decide) rfl (hts _ k_977) (v := .int (Int32.ofNat O2)) (congrArg Value.int hE.1.2.2) d_Mo_expression_199 ?_
              refine lv_iconst (v := 1) hx hb d_Mo_expression_202 (by decide) ?_
              refine lv_isub hx hb d_Mo_expression_203 ?_
              refine W.eq (g2 := F0 m 204 ls [.int (Int32.ofNat (O2 - 1)), .ref (ad 16)]) (by rw [← x_subN (a := O2) (b := 1) (by omega)] <;> rfl) ?_
              refine m_ld hx hb hK hP 9 rfl (by decide) (j := (Int32.ofNat (O2 - 1))) (x_inN (by omega) (by decide)) d_Mo_expression_204 ?_
              refine W.eq (g2 := F0 m 205 ls [.int (A2 16 ((O2 - 1)))]) (by rw [x_nat (a := (O2 - 1)) (by omega)]) ?_
              refine lv_iconst (v := 4) hx hb d_Mo_expression_205 (by decide) ?_
              refine lv_icmp_ne (tgt := 231) hx hb d_Mo_expression_206 (by decide) (fun c27 => ?_) (fun c27 => ?_)
              · have hE := hE.done (Or.inr c27)
                refine lv_iconst (v := 0) hx hb d_Mo_expression_231 (by decide) ?_
                refine lv_istore_n (lv' := [(3, .int 0), (0, .ref h0), (1, .int (Int32.ofNat b)), (2, .int (Int32.ofNat dp2)), (4, .int (Int32.ofNat t1))]) hx hb d_Mo_expression_232 rfl hl (by decide) rfl (fun ls hl => ?_)
                refine lv_goto (tgt := 489) hx hb d_Mo_expression_233 (by decide) ?_
                refine lv_iinc (v := (Int32.ofNat (t1 + 1))) (lv' := [(4, .int (Int32.ofNat (t1 + 1))), (3, .int 0), (0, .ref h0), (1, .int (Int32.ofNat b)), (2, .int (Int32.ofNat dp2))]) hx hb d_Mo_expression_489 hl (k := 4) rfl (x_incN t1) (by decide) rfl (fun ls hl => ?_)
                refine lv_goto (tgt := 28) hx hb d_Mo_expression_492 (by decide) ?_
                exact ihO (200 - (t1 + 1)) (by omega) H locs ls ⟨I2, A2, st, b, O2, dp2, 0, 1, (P1 + 1), a2, t1 + 1, rfl, by omega, Or.inr ⟨rfl, rfl⟩, hE, hP, hD, hS, lv_sub hl [2, 3, 4, 1, 0] rfl⟩
              · refine lv_aload_n hx hb d_Mo_expression_209 rfl (lv_at hl 0 rfl) ?_
                refine lv_dup hx hb d_Mo_expression_210 rfl ?_
                refine m_g hx hb hts hown hK hP 10 (by decide) rfl (hts _ k_977) (v := .int (Int32.ofNat O2)) (congrArg Value.int hE.1.2.2) d_Mo_expression_211 ?_
                refine lv_iconst (v := 1) hx hb d_Mo_expression_214 (by decide) ?_
                refine lv_isub hx hb d_Mo_expression_215 ?_
                refine W.eq (g2 := F0 m 216 ls [.int (Int32.ofNat (O2 - 1)), .ref h0]) (by rw [← x_subN (a := O2) (b := 1) (by omega)] <;> rfl) ?_
                refine m_p hx hb hts hown hK hP hD hS 10 (by decide) rfl (hts _ k_977) rfl (by decide +kernel) rfl (by decide) (x := (Int32.ofNat (O2 - 1))) d_Mo_expression_216 (fun H locs hP hD hS => ?_)
                refine lv_iinc (v := (Int32.ofNat (dp2 - 1))) (lv' := [(2, .int (Int32.ofNat (dp2 - 1))), (0, .ref h0), (1, .int (Int32.ofNat b)), (4, .int (Int32.ofNat t1))]) hx hb d_Mo_expression_219 hl (k := 2) rfl (x_decN (a := dp2) (by omega)) (by decide) rfl (fun ls hl => ?_)
                refine lv_aload_n hx hb d_Mo_expression_222 rfl (lv_at hl 1 rfl) ?_
                refine lv_bipush (v := 23) hx hb d_Mo_expression_223 (by decide) ?_
                have hFc := m_free hD hS hA
                refine va_callv (va_runV (As := [.int 23]) (rest := []) ⟨hx, hb, hml, hown, hts⟩ (m_emit l dC dI ar N0 z h0 ad (upd I2 10 (Int32.ofNat (O2 - 1))) T A2 U a2 (23) H.size hE.1.2.1 (by omega)) (cwV 1 hts (x_goodV k_1148 k_1150 kp_55 k_9 k_1151) rfl rfl rfl (by decide +kernel) ⟨Nat.le_of_ble_eq_true rfl, Nat.le_of_ble_eq_true rfl⟩) ⟨x_blind, va_recv hK hP (ci := 6) (q0 := 0) rfl rfl, fun U9 hU9 hW9 => x_pre hU9 hW9 hP hD hU hZ hS hAN hN0⟩ rfl rfl hl.1 rfl (lv_room (Nat.le_of_ble_eq_true rfl)) d_Mo_expression_225 ⟨Nat.le_of_ble_eq_true rfl, Nat.le_of_ble_eq_true rfl⟩) hS (fun q _ h => hFc q h) hFc (fun u t H1 locs ht hvm hw hB hz1 hk1 hS => ?_)
                obtain ⟨I29, T29, A29, U29⟩ := u
                dsimp only at hw hB
                rw [ht] at hB
                have hP : va_P (dC, dI) x_cl (m_W h0 ad ar I29 T29 A29 U29) H1 := hB
                have hD : va_D Bq (m_W h0 ad ar I29 T29 A29 U29) := m_D hD
                generalize H1 = H at hP hS ⊢
                refine W.widen (k := 0) (n := 0) (Nat.le_of_ble_eq_true rfl) (Nat.le_of_ble_eq_true rfl) ?_
                cases hw
                refine lv_goto (tgt := 181) hx hb d_Mo_expression_228 (by decide) ?_
                exact ihI (O2 - 1) (by omega) H locs ls ⟨(upd (upd I2 10 (Int32.ofNat (O2 - 1))) 7 (Int32.ofNat (a2 + 1))), (m_up A2 2 (upd (A2 2) a2 23)), O2 - 1, dp2 - 1, a2 + 1, rfl, hE.pop (by omega) c27 hE.1.1 rfl rfl ((m_fr.rf.up (by decide) _).up (by decide) _), hP, hD, hS, lv_sub hl [1, 2, 0, 3] rfl⟩
          · exact absurd v15 v20
        · exact absurd v10 v15
      · have v10 := v10
        refine lv_if_ne (tgt := 65) hx hb d_Mo_expression_50 (by decide) (fun c30 => absurd rfl c30) (fun _ => ?_)
        refine lv_iload hx hb d_Mo_expression_53 (lv_at hl 0 rfl) ?_
        refine lv_bipush (v := 48) hx hb d_Mo_expression_55 (by decide) ?_
        refine lv_bipush (v := 57) hx hb d_Mo_expression_57 (by decide) ?_
        have hFc := m_free hD hS hA
        refine va_calli (va_runS (As := [.int r2, .int 48, .int 57]) (rest := []) ⟨hx, hb, hml, hown, hts⟩ (c_Mo_in l dC dI ar N0 z (r2) (48) (57) H.size) (cwS 3 hts (x_goodS k_1113 k_1114 k_9 k_1115) rfl rfl rfl (by decide +kernel) ⟨Nat.le_of_ble_eq_true rfl, Nat.le_of_ble_eq_true rfl⟩) ⟨x_blind, fun U9 hU9 hW9 => x_pre (ws := []) hU9 hW9 (fun k q h => by simp at h) (⟨fun i j p q h => by simp at h, fun k q h => by simp at h⟩ : va_D Bq []) hU hZ hS hAN hN0⟩ rfl rfl hl.1 rfl (lv_room (Nat.le_of_ble_eq_true rfl)) d_Mo_expression_59 ⟨Nat.le_of_ble_eq_true rfl, Nat.le_of_ble_eq_true rfl⟩) hS (fun q _ h => hA q (Nat.le_trans hS.1 (h.elim (fun ⟨k, e9, hk⟩ => by simp at hk) id))) (fun q h => hA q (Nat.le_trans hS.1 (h.elim (fun ⟨k, e9, hk⟩ => by simp at hk) id))) (fun r31 u t H1 locs ht hvm hw hB hz1 hk1 hS => ?_)
        have hP : va_P (dC, dI) x_cl (m_W h0 ad ar I1 T A1 U) H1 := fun k q hk => (hP k q hk).kept (hk1 q.1 ((hP k q hk).lt) (fun h9 => h9.elim (fun ⟨k, e9, hk⟩ => by simp at hk) (fun h8 => absurd (hP k q hk).lt (Nat.not_lt.mpr h8))))
        generalize H1 = H at hP hS ⊢
        refine W.widen (k := 0) (n := 0) (Nat.le_of_ble_eq_true rfl) (Nat.le_of_ble_eq_true rfl) ?_
        rcases hw with ⟨i33, i33', rfl⟩ | ⟨i33, rfl⟩
        · have i33 := i33
          have hpsi33 : P1 < S := m_lk48 hk5 i33
          refine lv_if_eq (tgt := 236) hx hb d_Mo_expression_62 (by decide) (fun c34 => absurd c34 (by decide)) (fun _ => ?_)
          refine lv_aload_n hx hb d_Mo_expression_65 rfl (lv_at hl 1 rfl) ?_
          have hFc := m_free hD hS hA
          refine va_calli (va_runV (As := []) (rest := []) ⟨hx, hb, hml, hown, hts⟩ (m_isVariable l dC dI ar N0 z h0 ad I1 T A1 U P1 S H.size hE.1.1 ((hE.2.2.1.1 4 (by decide)).trans h4) (by omega) (by omega)) (cwV 0 hts (x_goodV k_1164 k_1166 kp_59 k_9 k_1167) rfl rfl rfl (by decide +kernel) ⟨Nat.le_of_ble_eq_true rfl, Nat.le_of_ble_eq_true rfl⟩) ⟨x_blind, va_recv hK hP (ci := 6) (q0 := 0) rfl rfl, fun U9 hU9 hW9 => x_pre hU9 hW9 hP hD hU hZ hS hAN hN0⟩ rfl rfl hl.1 rfl (lv_room (Nat.le_of_ble_eq_true rfl)) d_Mo_expression_66 ⟨Nat.le_of_ble_eq_true rfl, Nat.le_of_ble_eq_true rfl⟩) hS (fun q _ h => hFc q h) hFc (fun r35 u t H1 locs ht hvm hw hB hz1 hk1 hS => ?_)
          obtain ⟨I37, T37, A37, U37⟩ := u
          dsimp only at hw hB
          rw [ht] at hB
          have hP : va_P (dC, dI) x_cl (m_W h0 ad ar I37 T37 A37 U37) H1 := hB
          have hD : va_D Bq (m_W h0 ad ar I37 T37 A37 U37) := m_D hD
          generalize H1 = H at hP hS ⊢
          refine W.widen (k := 0) (n := 0) (Nat.le_of_ble_eq_true rfl) (Nat.le_of_ble_eq_true rfl) ?_
          obtain ⟨h9, hw⟩ := hw
          cases h9
          rcases hw with ⟨v38, rfl⟩ | ⟨v38, rfl⟩
          · exact absurd v38 v10
          · have v38 := v38
            refine lv_if_eq (tgt := 80) hx hb d_Mo_expression_69 (by decide) (fun _ => ?_) (fun c39 => absurd (by decide) c39)
            refine lv_iconst (v := 0) hx hb d_Mo_expression_80 (by decide) ?_
            refine lv_istore (lv' := [(6, .int 0), (5, .int r2), (0, .ref h0), (1, .int (Int32.ofNat b)), (2, .int (Int32.ofNat dp)), (3, .int 1), (4, .int (Int32.ofNat t1))]) hx hb d_Mo_expression_81 hl (by decide) rfl (fun ls hl => ?_)
            refine lv_aload_n hx hb d_Mo_expression_83 rfl (lv_at hl 2 rfl) ?_
            have hFc := m_free hD hS hA
            refine va_calli (va_runV (As := []) (rest := []) ⟨hx, hb, hml, hown, hts⟩ (m_isVariable l dC dI ar N0 z h0 ad I1 T A1 U P1 S H.size hE.1.1 ((hE.2.2.1.1 4 (by decide)).trans h4) (by omega) (by omega)) (cwV 0 hts (x_goodV k_1164 k_1166 kp_59 k_9 k_1167) rfl rfl rfl (by decide +kernel) ⟨Nat.le_of_ble_eq_true rfl, Nat.le_of_ble_eq_true rfl⟩) ⟨x_blind, va_recv hK hP (ci := 6) (q0 := 0) rfl rfl, fun U9 hU9 hW9 => x_pre hU9 hW9 hP hD hU hZ hS hAN hN0⟩ rfl rfl hl.1 rfl (lv_room (Nat.le_of_ble_eq_true rfl)) d_Mo_expression_84 ⟨Nat.le_of_ble_eq_true rfl, Nat.le_of_ble_eq_true rfl⟩) hS (fun q _ h => hFc q h) hFc (fun r40 u t H1 locs ht hvm hw hB hz1 hk1 hS => ?_)
            obtain ⟨I42, T42, A42, U42⟩ := u
            dsimp only at hw hB
            rw [ht] at hB
            have hP : va_P (dC, dI) x_cl (m_W h0 ad ar I42 T42 A42 U42) H1 := hB
            have hD : va_D Bq (m_W h0 ad ar I42 T42 A42 U42) := m_D hD
            generalize H1 = H at hP hS ⊢
            refine W.widen (k := 0) (n := 0) (Nat.le_of_ble_eq_true rfl) (Nat.le_of_ble_eq_true rfl) ?_
            obtain ⟨h9, hw⟩ := hw
            cases h9
            rcases hw with ⟨v43, rfl⟩ | ⟨v43, rfl⟩
            · exact absurd v43 v38
            · have v43 := v43
              refine lv_istore (lv' := [(7, .int 0), (6, .int 0), (5, .int r2), (0, .ref h0), (1, .int (Int32.ofNat b)), (2, .int (Int32.ofNat dp)), (3, .int 1), (4, .int (Int32.ofNat t1))]) hx hb d_Mo_expression_87 hl (by decide) rfl (fun ls hl => ?_)
              refine lv_iconst (v := 0) hx hb d_Mo_expression_89 (by decide) ?_
              refine lv_istore (lv' := [(8, .int 0), (7, .int 0), (6, .int 0), (5, .int r2), (0, .ref h0), (1, .int (Int32.ofNat b)), (2, .int (Int32.ofNat dp)), (3, .int 1), (4, .int (Int32.ofNat t1))]) hx hb d_Mo_expression_90 hl (by decide) rfl (fun ls hl => ?_)
              refine lv_iload hx hb d_Mo_expression_92 (lv_at hl 1 rfl) ?_
              refine lv_if_ne (tgt := 148) hx hb d_Mo_expression_94 (by decide) (fun c44 => absurd rfl c44) (fun _ => ?_)
              refine lv_iload hx hb d_Mo_expression_97 (lv_at hl 0 rfl) ?_
              refine lv_iconst (v := 3) hx hb d_Mo_expression_99 (by decide) ?_
              refine lv_icmp_ge (tgt := 148) hx hb d_Mo_expression_100 (by decide) (fun c45 => absurd c45 (by decide)) (fun _ => ?_)
              refine lv_aload_n hx hb d_Mo_expression_103 rfl (lv_at hl 4 rfl) ?_
              have hFc := m_free hD hS hA
              refine va_calli (va_runV (As := []) (rest := []) ⟨hx, hb, hml, hown, hts⟩ (m_look l dC dI ar N0 z h0 ad I1 T A1 U P1 S H.size hE.1.1 ((hE.2.2.1.1 4 (by decide)).trans h4) (by omega) (by omega)) (cwV 0 hts (x_goodV k_1140 k_1142 kp_53 k_9 k_1143) rfl rfl rfl (by decide +kernel) ⟨Nat.le_of_ble_eq_true rfl, Nat.le_of_ble_eq_true rfl⟩) ⟨x_blind, va_recv hK hP (ci := 6) (q0 := 0) rfl rfl, fun U9 hU9 hW9 => x_pre hU9 hW9 hP hD hU hZ hS hAN hN0⟩ rfl rfl hl.1 rfl (lv_room (Nat.le_of_ble_eq_true rfl)) d_Mo_expression_104 ⟨Nat.le_of_ble_eq_true rfl, Nat.le_of_ble_eq_true rfl⟩) hS (fun q _ h => hFc q h) hFc (fun r46 u t H1 locs ht hvm hw hB hz1 hk1 hS => ?_)
              obtain ⟨I48, T48, A48, U48⟩ := u
              dsimp only at hw hB
              rw [ht] at hB
              have hP : va_P (dC, dI) x_cl (m_W h0 ad ar I48 T48 A48 U48) H1 := hB
              have hD : va_D Bq (m_W h0 ad ar I48 T48 A48 U48) := m_D hD
              generalize H1 = H at hP hS ⊢
              refine W.widen (k := 0) (n := 0) (Nat.le_of_ble_eq_true rfl) (Nat.le_of_ble_eq_true rfl) ?_
              obtain ⟨h9, hk49⟩ := hw
              cases h9
              refine lv_bipush (v := 48) hx hb d_Mo_expression_107 (by decide) ?_
              refine lv_bipush (v := 57) hx hb d_Mo_expression_109 (by decide) ?_
              have hFc := m_free hD hS hA
              refine va_calli (va_runS (As := [.int r46, .int 48, .int 57]) (rest := []) ⟨hx, hb, hml, hown, hts⟩ (c_Mo_in l dC dI ar N0 z (r46) (48) (57) H.size) (cwS 3 hts (x_goodS k_1113 k_1114 k_9 k_1115) rfl rfl rfl (by decide +kernel) ⟨Nat.le_of_ble_eq_true rfl, Nat.le_of_ble_eq_true rfl⟩) ⟨x_blind, fun U9 hU9 hW9 => x_pre (ws := []) hU9 hW9 (fun k q h => by simp at h) (⟨fun i j p q h => by simp at h, fun k q h => by simp at h⟩ : va_D Bq []) hU hZ hS hAN hN0⟩ rfl rfl hl.1 rfl (lv_room (Nat.le_of_ble_eq_true rfl)) d_Mo_expression_111 ⟨Nat.le_of_ble_eq_true rfl, Nat.le_of_ble_eq_true rfl⟩) hS (fun q _ h => hA q (Nat.le_trans hS.1 (h.elim (fun ⟨k, e9, hk⟩ => by simp at hk) id))) (fun q h => hA q (Nat.le_trans hS.1 (h.elim (fun ⟨k, e9, hk⟩ => by simp at hk) id))) (fun r50 u t H1 locs ht hvm hw hB hz1 hk1 hS => ?_)
              have hP : va_P (dC, dI) x_cl (m_W h0 ad ar I1 T A1 U) H1 := fun k q hk => (hP k q hk).kept (hk1 q.1 ((hP k q hk).lt) (fun h9 => h9.elim (fun ⟨k, e9, hk⟩ => by simp at hk) (fun h8 => absurd (hP k q hk).lt (Nat.not_lt.mpr h8))))
              generalize H1 = H at hP hS ⊢
              refine W.widen (k := 0) (n := 0) (Nat.le_of_ble_eq_true rfl) (Nat.le_of_ble_eq_true rfl) ?_
              rcases hw with ⟨i52, i52', rfl⟩ | ⟨i52, rfl⟩
              · have i52 := i52
                have hpsi52 : P1 < S := m_lk48 hk49 i52
                refine lv_if_eq (tgt := 148) hx hb d_Mo_expression_114 (by decide) (fun c53 => absurd c53 (by decide)) (fun _ => ?_)
                refine lv_iload hx hb d_Mo_expression_117 (lv_at hl 2 rfl) ?_
                refine lv_bipush (v := 10) hx hb d_Mo_expression_119 (by decide) ?_
                refine lv_imul hx hb d_Mo_expression_121 ?_
                refine lv_aload_n hx hb d_Mo_expression_122 rfl (lv_at hl 4 rfl) ?_
                have hFc := m_free hD hS hA
                refine va_calli (va_runV (As := []) (rest := [.int (0 * 10)]) ⟨hx, hb, hml, hown, hts⟩ (m_look l dC dI ar N0 z h0 ad I1 T A1 U P1 S H.size hE.1.1 ((hE.2.2.1.1 4 (by decide)).trans h4) (by omega) (by omega)) (cwV 0 hts (x_goodV k_1140 k_1142 kp_53 k_9 k_1143) rfl rfl rfl (by decide +kernel) ⟨Nat.le_of_ble_eq_true rfl, Nat.le_of_ble_eq_true rfl⟩) ⟨x_blind, va_recv hK hP (ci := 6) (q0 := 0) rfl rfl, fun U9 hU9 hW9 => x_pre hU9 hW9 hP hD hU hZ hS hAN hN0⟩ rfl rfl hl.1 rfl (lv_room (Nat.le_of_ble_eq_true rfl)) d_Mo_expression_123 ⟨Nat.le_of_ble_eq_true rfl, Nat.le_of_ble_eq_true rfl⟩) hS (fun q _ h => hFc q h) hFc (fun r54 u t H1 locs ht hvm hw hB hz1 hk1 hS => ?_)
                obtain ⟨I56, T56, A56, U56⟩ := u
                dsimp only at hw hB
                rw [ht] at hB
                have hP : va_P (dC, dI) x_cl (m_W h0 ad ar I56 T56 A56 U56) H1 := hB
                have hD : va_D Bq (m_W h0 ad ar I56 T56 A56 U56) := m_D hD
                generalize H1 = H at hP hS ⊢
                refine W.widen (k := 0) (n := 0) (Nat.le_of_ble_eq_true rfl) (Nat.le_of_ble_eq_true rfl) ?_
                obtain ⟨h9, hk57⟩ := hw
                cases h9
                refine lv_iadd hx hb d_Mo_expression_126 ?_
                refine lv_bipush (v := 48) hx hb d_Mo_expression_127 (by decide) ?_
                refine lv_isub hx hb d_Mo_expression_129 ?_
                refine lv_topi (fun dv58 _ => ?_)
                refine lv_istore (lv' := [(6, .int dv58), (8, .int 0), (7, .int 0), (5, .int r2), (0, .ref h0), (1, .int (Int32.ofNat b)), (2, .int (Int32.ofNat dp)), (3, .int 1), (4, .int (Int32.ofNat t1))]) hx hb d_Mo_expression_130 hl (by decide) rfl (fun ls hl => ?_)
                refine lv_aload_n hx hb d_Mo_expression_132 rfl (lv_at hl 4 rfl) ?_
                refine lv_dup hx hb d_Mo_expression_133 rfl ?_
                refine m_g hx hb hts hown hK hP 6 (by decide) rfl (hts _ k_973) (v := .int (Int32.ofNat P1)) (congrArg Value.int hE.1.1) d_Mo_expression_134 ?_
                refine lv_iconst (v := 1) hx hb d_Mo_expression_137 (by decide) ?_
                refine lv_iadd hx hb d_Mo_expression_138 ?_
                refine W.eq (g2 := F0 m 139 ls [.int (Int32.ofNat (P1 + 1)), .ref h0]) (by rw [← x_addN (a := P1) (b := 1)] <;> rfl) ?_
                refine m_p hx hb hts hown hK hP hD hS 6 (by decide) rfl (hts _ k_973) rfl (by decide +kernel) rfl (by decide) (x := (Int32.ofNat (P1 + 1))) d_Mo_expression_139 (fun H locs hP hD hS => ?_)
                refine lv_iinc (v := 1) (lv' := [(8, .int 1), (6, .int dv58), (7, .int 0), (5, .int r2), (0, .ref h0), (1, .int (Int32.ofNat b)), (2, .int (Int32.ofNat dp)), (3, .int 1), (4, .int (Int32.ofNat t1))]) hx hb d_Mo_expression_142 hl (k := 1) rfl (by decide) (by decide) rfl (fun ls hl => ?_)
                refine lv_goto (tgt := 92) hx hb d_Mo_expression_145 (by decide) ?_
                refine lv_iload hx hb d_Mo_expression_92 (lv_at hl 2 rfl) ?_
                refine lv_if_ne (tgt := 148) hx hb d_Mo_expression_94 (by decide) (fun c59 => absurd rfl c59) (fun _ => ?_)
                refine lv_iload hx hb d_Mo_expression_97 (lv_at hl 0 rfl) ?_
                refine lv_iconst (v := 3) hx hb d_Mo_expression_99 (by decide) ?_
                refine lv_icmp_ge (tgt := 148) hx hb d_Mo_expression_100 (by decide) (fun c60 => absurd c60 (by decide)) (fun _ => ?_)
                refine lv_aload_n hx hb d_Mo_expression_103 rfl (lv_at hl 4 rfl) ?_
                have hFc := m_free hD hS hA
                refine va_calli (va_runV (As := []) (rest := []) ⟨hx, hb, hml, hown, hts⟩ (m_look l dC dI ar N0 z h0 ad (upd I1 6 (Int32.ofNat (P1 + 1))) T A1 U ((P1 + 1)) S H.size rfl ((hE.2.2.1.1 4 (by decide)).trans h4) (by omega) (by omega)) (cwV 0 hts (x_goodV k_1140 k_1142 kp_53 k_9 k_1143) rfl rfl rfl (by decide +kernel) ⟨Nat.le_of_ble_eq_true rfl, Nat.le_of_ble_eq_true rfl⟩) ⟨x_blind, va_recv hK hP (ci := 6) (q0 := 0) rfl rfl, fun U9 hU9 hW9 => x_pre hU9 hW9 hP hD hU hZ hS hAN hN0⟩ rfl rfl hl.1 rfl (lv_room (Nat.le_of_ble_eq_true rfl)) d_Mo_expression_104 ⟨Nat.le_of_ble_eq_true rfl, Nat.le_of_ble_eq_true rfl⟩) hS (fun q _ h => hFc q h) hFc (fun r61 u t H1 locs ht hvm hw hB hz1 hk1 hS => ?_)
                obtain ⟨I63, T63, A63, U63⟩ := u
                dsimp only at hw hB
                rw [ht] at hB
                have hP : va_P (dC, dI) x_cl (m_W h0 ad ar I63 T63 A63 U63) H1 := hB
                have hD : va_D Bq (m_W h0 ad ar I63 T63 A63 U63) := m_D hD
                generalize H1 = H at hP hS ⊢
                refine W.widen (k := 0) (n := 0) (Nat.le_of_ble_eq_true rfl) (Nat.le_of_ble_eq_true rfl) ?_
                obtain ⟨h9, hk64⟩ := hw
                cases h9
                refine lv_bipush (v := 48) hx hb d_Mo_expression_107 (by decide) ?_
                refine lv_bipush (v := 57) hx hb d_Mo_expression_109 (by decide) ?_
                have hFc := m_free hD hS hA
                refine va_calli (va_runS (As := [.int r61, .int 48, .int 57]) (rest := []) ⟨hx, hb, hml, hown, hts⟩ (c_Mo_in l dC dI ar N0 z (r61) (48) (57) H.size) (cwS 3 hts (x_goodS k_1113 k_1114 k_9 k_1115) rfl rfl rfl (by decide +kernel) ⟨Nat.le_of_ble_eq_true rfl, Nat.le_of_ble_eq_true rfl⟩) ⟨x_blind, fun U9 hU9 hW9 => x_pre (ws := []) hU9 hW9 (fun k q h => by simp at h) (⟨fun i j p q h => by simp at h, fun k q h => by simp at h⟩ : va_D Bq []) hU hZ hS hAN hN0⟩ rfl rfl hl.1 rfl (lv_room (Nat.le_of_ble_eq_true rfl)) d_Mo_expression_111 ⟨Nat.le_of_ble_eq_true rfl, Nat.le_of_ble_eq_true rfl⟩) hS (fun q _ h => hA q (Nat.le_trans hS.1 (h.elim (fun ⟨k, e9, hk⟩ => by simp at hk) id))) (fun q h => hA q (Nat.le_trans hS.1 (h.elim (fun ⟨k, e9, hk⟩ => by simp at hk) id))) (fun r65 u t H1 locs ht hvm hw hB hz1 hk1 hS => ?_)
                have hP : va_P (dC, dI) x_cl (m_W h0 ad ar (upd I1 6 (Int32.ofNat (P1 + 1))) T A1 U) H1 := fun k q hk => (hP k q hk).kept (hk1 q.1 ((hP k q hk).lt) (fun h9 => h9.elim (fun ⟨k, e9, hk⟩ => by simp at hk) (fun h8 => absurd (hP k q hk).lt (Nat.not_lt.mpr h8))))
                generalize H1 = H at hP hS ⊢
                refine W.widen (k := 0) (n := 0) (Nat.le_of_ble_eq_true rfl) (Nat.le_of_ble_eq_true rfl) ?_
                rcases hw with ⟨i67, i67', rfl⟩ | ⟨i67, rfl⟩
                · have i67 := i67
                  have hpsi67 : (P1 + 1) < S := m_lk48 hk64 i67
                  refine lv_if_eq (tgt := 148) hx hb d_Mo_expression_114 (by decide) (fun c68 => absurd c68 (by decide)) (fun _ => ?_)
                  refine lv_iload hx hb d_Mo_expression_117 (lv_at hl 1 rfl) ?_
                  refine lv_bipush (v := 10) hx hb d_Mo_expression_119 (by decide) ?_
                  refine lv_imul hx hb d_Mo_expression_121 ?_
                  refine lv_aload_n hx hb d_Mo_expression_122 rfl (lv_at hl 4 rfl) ?_
                  have hFc := m_free hD hS hA
                  refine va_calli (va_runV (As := []) (rest := [.int (dv58 * 10)]) ⟨hx, hb, hml, hown, hts⟩ (m_look l dC dI ar N0 z h0 ad (upd I1 6 (Int32.ofNat (P1 + 1))) T A1 U ((P1 + 1)) S H.size rfl ((hE.2.2.1.1 4 (by decide)).trans h4) (by omega) (by omega)) (cwV 0 hts (x_goodV k_1140 k_1142 kp_53 k_9 k_1143) rfl rfl rfl (by decide +kernel) ⟨Nat.le_of_ble_eq_true rfl, Nat.le_of_ble_eq_true rfl⟩) ⟨x_blind, va_recv hK hP (ci := 6) (q0 := 0) rfl rfl, fun U9 hU9 hW9 => x_pre hU9 hW9 hP hD hU hZ hS hAN hN0⟩ rfl rfl hl.1 rfl (lv_room (Nat.le_of_ble_eq_true rfl)) d_Mo_expression_123 ⟨Nat.le_of_ble_eq_true rfl, Nat.le_of_ble_eq_true rfl⟩) hS (fun q _ h => hFc q h) hFc (fun r69 u t H1 locs ht hvm hw hB hz1 hk1 hS => ?_)
                  obtain ⟨I71, T71, A71, U71⟩ := u
                  dsimp only at hw hB
                  rw [ht] at hB
                  have hP : va_P (dC, dI) x_cl (m_W h0 ad ar I71 T71 A71 U71) H1 := hB
                  have hD : va_D Bq (m_W h0 ad ar I71 T71 A71 U71) := m_D hD
                  generalize H1 = H at hP hS ⊢
                  refine W.widen (k := 0) (n := 0) (Nat.le_of_ble_eq_true rfl) (Nat.le_of_ble_eq_true rfl) ?_
                  obtain ⟨h9, hk72⟩ := hw
                  cases h9
                  refine lv_iadd hx hb d_Mo_expression_126 ?_
                  refine lv_bipush (v := 48) hx hb d_Mo_expression_127 (by decide) ?_
                  refine lv_isub hx hb d_Mo_expression_129 ?_
                  refine lv_topi (fun dv73 _ => ?_)
                  refine lv_istore (lv' := [(6, .int dv73), (8, .int 1), (7, .int 0), (5, .int r2), (0, .ref h0), (1, .int (Int32.ofNat b)), (2, .int (Int32.ofNat dp)), (3, .int 1), (4, .int (Int32.ofNat t1))]) hx hb d_Mo_expression_130 hl (by decide) rfl (fun ls hl => ?_)
                  refine lv_aload_n hx hb d_Mo_expression_132 rfl (lv_at hl 4 rfl) ?_
                  refine lv_dup hx hb d_Mo_expression_133 rfl ?_
                  refine m_g hx hb hts hown hK hP 6 (by decide) rfl (hts _ k_973) (v := .int (Int32.ofNat (P1 + 1))) rfl d_Mo_expression_134 ?_
                  refine lv_iconst (v := 1) hx hb d_Mo_expression_137 (by decide) ?_
                  refine lv_iadd hx hb d_Mo_expression_138 ?_
                  refine W.eq (g2 := F0 m 139 ls [.int (Int32.ofNat ((P1 + 1) + 1)), .ref h0]) (by rw [← x_addN (a := (P1 + 1)) (b := 1)] <;> rfl) ?_
                  refine m_p hx hb hts hown hK hP hD hS 6 (by decide) rfl (hts _ k_973) rfl (by decide +kernel) rfl (by decide) (x := (Int32.ofNat ((P1 + 1) + 1))) d_Mo_expression_139 (fun H locs hP hD hS => ?_)
                  refine lv_iinc (v := 2) (lv' := [(8, .int 2), (6, .int dv73), (7, .int 0), (5, .int r2), (0, .ref h0), (1, .int (Int32.ofNat b)), (2, .int (Int32.ofNat dp)), (3, .int 1), (4, .int (Int32.ofNat t1))]) hx hb d_Mo_expression_142 hl (k := 1) rfl (by decide) (by decide) rfl (fun ls hl => ?_)
                  refine lv_goto (tgt := 92) hx hb d_Mo_expression_145 (by decide) ?_
                  refine lv_iload hx hb d_Mo_expression_92 (lv_at hl 2 rfl) ?_
                  refine lv_if_ne (tgt := 148) hx hb d_Mo_expression_94 (by decide) (fun c74 => absurd rfl c74) (fun _ => ?_)
                  refine lv_iload hx hb d_Mo_expression_97 (lv_at hl 0 rfl) ?_
                  refine lv_iconst (v := 3) hx hb d_Mo_expression_99 (by decide) ?_
                  refine lv_icmp_ge (tgt := 148) hx hb d_Mo_expression_100 (by decide) (fun c75 => absurd c75 (by decide)) (fun _ => ?_)
                  refine lv_aload_n hx hb d_Mo_expression_103 rfl (lv_at hl 4 rfl) ?_
                  have hFc := m_free hD hS hA
                  refine va_calli (va_runV (As := []) (rest := []) ⟨hx, hb, hml, hown, hts⟩ (m_look l dC dI ar N0 z h0 ad (upd (upd I1 6 (Int32.ofNat (P1 + 1))) 6 (Int32.ofNat ((P1 + 1) + 1))) T A1 U (((P1 + 1) + 1)) S H.size rfl ((hE.2.2.1.1 4 (by decide)).trans h4) (by omega) (by omega)) (cwV 0 hts (x_goodV k_1140 k_1142 kp_53 k_9 k_1143) rfl rfl rfl (by decide +kernel) ⟨Nat.le_of_ble_eq_true rfl, Nat.le_of_ble_eq_true rfl⟩) ⟨x_blind, va_recv hK hP (ci := 6) (q0 := 0) rfl rfl, fun U9 hU9 hW9 => x_pre hU9 hW9 hP hD hU hZ hS hAN hN0⟩ rfl rfl hl.1 rfl (lv_room (Nat.le_of_ble_eq_true rfl)) d_Mo_expression_104 ⟨Nat.le_of_ble_eq_true rfl, Nat.le_of_ble_eq_true rfl⟩) hS (fun q _ h => hFc q h) hFc (fun r76 u t H1 locs ht hvm hw hB hz1 hk1 hS => ?_)
                  obtain ⟨I78, T78, A78, U78⟩ := u
                  dsimp only at hw hB
                  rw [ht] at hB
                  have hP : va_P (dC, dI) x_cl (m_W h0 ad ar I78 T78 A78 U78) H1 := hB
                  have hD : va_D Bq (m_W h0 ad ar I78 T78 A78 U78) := m_D hD
                  generalize H1 = H at hP hS ⊢
                  refine W.widen (k := 0) (n := 0) (Nat.le_of_ble_eq_true rfl) (Nat.le_of_ble_eq_true rfl) ?_
                  obtain ⟨h9, hk79⟩ := hw
                  cases h9
                  refine lv_bipush (v := 48) hx hb d_Mo_expression_107 (by decide) ?_
                  refine lv_bipush (v := 57) hx hb d_Mo_expression_109 (by decide) ?_
                  have hFc := m_free hD hS hA
                  refine va_calli (va_runS (As := [.int r76, .int 48, .int 57]) (rest := []) ⟨hx, hb, hml, hown, hts⟩ (c_Mo_in l dC dI ar N0 z (r76) (48) (57) H.size) (cwS 3 hts (x_goodS k_1113 k_1114 k_9 k_1115) rfl rfl rfl (by decide +kernel) ⟨Nat.le_of_ble_eq_true rfl, Nat.le_of_ble_eq_true rfl⟩) ⟨x_blind, fun U9 hU9 hW9 => x_pre (ws := []) hU9 hW9 (fun k q h => by simp at h) (⟨fun i j p q h => by simp at h, fun k q h => by simp at h⟩ : va_D Bq []) hU hZ hS hAN hN0⟩ rfl rfl hl.1 rfl (lv_room (Nat.le_of_ble_eq_true rfl)) d_Mo_expression_111 ⟨Nat.le_of_ble_eq_true rfl, Nat.le_of_ble_eq_true rfl⟩) hS (fun q _ h => hA q (Nat.le_trans hS.1 (h.elim (fun ⟨k, e9, hk⟩ => by simp at hk) id))) (fun q h => hA q (Nat.le_trans hS.1 (h.elim (fun ⟨k, e9, hk⟩ => by simp at hk) id))) (fun r80 u t H1 locs ht hvm hw hB hz1 hk1 hS => ?_)
                  have hP : va_P (dC, dI) x_cl (m_W h0 ad ar (upd (upd I1 6 (Int32.ofNat (P1 + 1))) 6 (Int32.ofNat ((P1 + 1) + 1))) T A1 U) H1 := fun k q hk => (hP k q hk).kept (hk1 q.1 ((hP k q hk).lt) (fun h9 => h9.elim (fun ⟨k, e9, hk⟩ => by simp at hk) (fun h8 => absurd (hP k q hk).lt (Nat.not_lt.mpr h8))))
                  generalize H1 = H at hP hS ⊢
                  refine W.widen (k := 0) (n := 0) (Nat.le_of_ble_eq_true rfl) (Nat.le_of_ble_eq_true rfl) ?_
                  rcases hw with ⟨i82, i82', rfl⟩ | ⟨i82, rfl⟩
                  · have i82 := i82
                    have hpsi82 : ((P1 + 1) + 1) < S := m_lk48 hk79 i82
                    refine lv_if_eq (tgt := 148) hx hb d_Mo_expression_114 (by decide) (fun c83 => absurd c83 (by decide)) (fun _ => ?_)
                    refine lv_iload hx hb d_Mo_expression_117 (lv_at hl 1 rfl) ?_
                    refine lv_bipush (v := 10) hx hb d_Mo_expression_119 (by decide) ?_
                    refine lv_imul hx hb d_Mo_expression_121 ?_
                    refine lv_aload_n hx hb d_Mo_expression_122 rfl (lv_at hl 4 rfl) ?_
                    have hFc := m_free hD hS hA
                    refine va_calli (va_runV (As := []) (rest := [.int (dv73 * 10)]) ⟨hx, hb, hml, hown, hts⟩ (m_look l dC dI ar N0 z h0 ad (upd (upd I1 6 (Int32.ofNat (P1 + 1))) 6 (Int32.ofNat ((P1 + 1) + 1))) T A1 U (((P1 + 1) + 1)) S H.size rfl ((hE.2.2.1.1 4 (by decide)).trans h4) (by omega) (by omega)) (cwV 0 hts (x_goodV k_1140 k_1142 kp_53 k_9 k_1143) rfl rfl rfl (by decide +kernel) ⟨Nat.le_of_ble_eq_true rfl, Nat.le_of_ble_eq_true rfl⟩) ⟨x_blind, va_recv hK hP (ci := 6) (q0 := 0) rfl rfl, fun U9 hU9 hW9 => x_pre hU9 hW9 hP hD hU hZ hS hAN hN0⟩ rfl rfl hl.1 rfl (lv_room (Nat.le_of_ble_eq_true rfl)) d_Mo_expression_123 ⟨Nat.le_of_ble_eq_true rfl, Nat.le_of_ble_eq_true rfl⟩) hS (fun q _ h => hFc q h) hFc (fun r84 u t H1 locs ht hvm hw hB hz1 hk1 hS => ?_)
                    obtain ⟨I86, T86, A86, U86⟩ := u
                    dsimp only at hw hB
                    rw [ht] at hB
                    have hP : va_P (dC, dI) x_cl (m_W h0 ad ar I86 T86 A86 U86) H1 := hB
                    have hD : va_D Bq (m_W h0 ad ar I86 T86 A86 U86) := m_D hD
                    generalize H1 = H at hP hS ⊢
                    refine W.widen (k := 0) (n := 0) (Nat.le_of_ble_eq_true rfl) (Nat.le_of_ble_eq_true rfl) ?_
                    obtain ⟨h9, hk87⟩ := hw
                    cases h9
                    refine lv_iadd hx hb d_Mo_expression_126 ?_
                    refine lv_bipush (v := 48) hx hb d_Mo_expression_127 (by decide) ?_
                    refine lv_isub hx hb d_Mo_expression_129 ?_
                    refine lv_topi (fun dv88 _ => ?_)
                    refine lv_istore (lv' := [(6, .int dv88), (8, .int 2), (7, .int 0), (5, .int r2), (0, .ref h0), (1, .int (Int32.ofNat b)), (2, .int (Int32.ofNat dp)), (3, .int 1), (4, .int (Int32.ofNat t1))]) hx hb d_Mo_expression_130 hl (by decide) rfl (fun ls hl => ?_)
                    refine lv_aload_n hx hb d_Mo_expression_132 rfl (lv_at hl 4 rfl) ?_
                    refine lv_dup hx hb d_Mo_expression_133 rfl ?_
                    refine m_g hx hb hts hown hK hP 6 (by decide) rfl (hts _ k_973) (v := .int (Int32.ofNat ((P1 + 1) + 1))) rfl d_Mo_expression_134 ?_
                    refine lv_iconst (v := 1) hx hb d_Mo_expression_137 (by decide) ?_
                    refine lv_iadd hx hb d_Mo_expression_138 ?_
                    refine W.eq (g2 := F0 m 139 ls [.int (Int32.ofNat (((P1 + 1) + 1) + 1)), .ref h0]) (by rw [← x_addN (a := ((P1 + 1) + 1)) (b := 1)] <;> rfl) ?_
                    refine m_p hx hb hts hown hK hP hD hS 6 (by decide) rfl (hts _ k_973) rfl (by decide +kernel) rfl (by decide) (x := (Int32.ofNat (((P1 + 1) + 1) + 1))) d_Mo_expression_139 (fun H locs hP hD hS => ?_)
                    refine lv_iinc (v := 3) (lv' := [(8, .int 3), (6, .int dv88), (7, .int 0), (5, .int r2), (0, .ref h0), (1, .int (Int32.ofNat b)), (2, .int (Int32.ofNat dp)), (3, .int 1), (4, .int (Int32.ofNat t1))]) hx hb d_Mo_expression_142 hl (k := 1) rfl (by decide) (by decide) rfl (fun ls hl => ?_)
                    refine lv_goto (tgt := 92) hx hb d_Mo_expression_145 (by decide) ?_
                    refine lv_iload hx hb d_Mo_expression_92 (lv_at hl 2 rfl) ?_
                    refine lv_if_ne (tgt := 148) hx hb d_Mo_expression_94 (by decide) (fun c89 => absurd rfl c89) (fun _ => ?_)
                    refine lv_iload hx hb d_Mo_expression_97 (lv_at hl 0 rfl) ?_
                    refine lv_iconst (v := 3) hx hb d_Mo_expression_99 (by decide) ?_
                    refine lv_icmp_ge (tgt := 148) hx hb d_Mo_expression_100 (by decide) (fun _ => ?_) (fun c90 => absurd (by decide) c90)
                    refine lv_iload hx hb d_Mo_expression_148 (lv_at hl 2 rfl) ?_
                    refine lv_if_eq (tgt := 163) hx hb d_Mo_expression_150 (by decide) (fun _ => ?_) (fun c91 => absurd (by decide) c91)
                    refine lv_aload_n hx hb d_Mo_expression_163 rfl (lv_at hl 4 rfl) ?_
                    refine lv_iload hx hb d_Mo_expression_164 (lv_at hl 2 rfl) ?_
                    refine lv_if_eq (tgt := 174) hx hb d_Mo_expression_166 (by decide) (fun _ => ?_) (fun c92 => absurd (by decide) c92)
                    refine lv_bipush (v := 20) hx hb d_Mo_expression_174 (by decide) ?_
                    refine lv_iload hx hb d_Mo_expression_176 (lv_at hl 1 rfl) ?_
                    have hFc := m_free hD hS hA
                    refine va_callv (va_runV (As := [.int 20, .int dv88]) (rest := []) ⟨hx, hb, hml, hown, hts⟩ (m_emit2 l dC dI ar N0 z h0 ad (upd (upd (upd I1 6 (Int32.ofNat (P1 + 1))) 6 (Int32.ofNat ((P1 + 1) + 1))) 6 (Int32.ofNat (((P1 + 1) + 1) + 1))) T A1 U a1 (20) (dv88) H.size hE.1.2.1 (by omega)) (cwV 2 hts (x_goodV k_1152 k_1154 kp_56 k_9 k_1155) rfl rfl rfl (by decide +kernel) ⟨Nat.le_of_ble_eq_true rfl, Nat.le_of_ble_eq_true rfl⟩) ⟨x_blind, va_recv hK hP (ci := 6) (q0 := 0) rfl rfl, fun U9 hU9 hW9 => x_pre hU9 hW9 hP hD hU hZ hS hAN hN0⟩ rfl rfl hl.1 rfl (lv_room (Nat.le_of_ble_eq_true rfl)) d_Mo_expression_178 ⟨Nat.le_of_ble_eq_true rfl, Nat.le_of_ble_eq_true rfl⟩) hS (fun q _ h => hFc q h) hFc (fun u t H1 locs ht hvm hw hB hz1 hk1 hS => ?_)
                    obtain ⟨I94, T94, A94, U94⟩ := u
                    dsimp only at hw hB
                    rw [ht] at hB
                    have hP : va_P (dC, dI) x_cl (m_W h0 ad ar I94 T94 A94 U94) H1 := hB
                    have hD : va_D Bq (m_W h0 ad ar I94 T94 A94 U94) := m_D hD
                    generalize H1 = H at hP hS ⊢
                    refine W.widen (k := 0) (n := 0) (Nat.le_of_ble_eq_true rfl) (Nat.le_of_ble_eq_true rfl) ?_
                    cases hw
                    have hE := hE.opnd (t := 20) (v := dv88) (I2 := (upd (upd (upd (upd I1 6 (Int32.ofNat (P1 + 1))) 6 (Int32.ofNat ((P1 + 1) + 1))) 6 (Int32.ofNat (((P1 + 1) + 1) + 1))) 7 (Int32.ofNat (a1 + 2)))) (P2 := (((P1 + 1) + 1) + 1)) (by omega) (by omega) (Or.inl rfl) rfl rfl hE.1.2.2 ((((m_fr.rf.up (by decide) _).up (by decide) _).up (by decide) _).up (by decide) _)
                    refine x_while (fun n H locs ls => ∃ (I2 : Nat → Int32) (A2 : Nat → Nat → Int32) (O2 dp2 a2 : Nat), n = O2 ∧ m_EX I A I2 A2 st b O2 dp2 1 1 P ((((P1 + 1) + 1) + 1)) S a0 a2 ∧ va_P (dC, dI) x_cl (m_W h0 ad ar I2 T A2 U) H ∧ va_D Bq (m_W h0 ad ar I2 T A2 U) ∧ va_S Bq s.heap H locs ∧ lv_has ls 9 [(0, .ref h0), (1, .int (Int32.ofNat b)), (2, .int (Int32.ofNat dp2)), (4, .int (Int32.ofNat t1))]) (fun n ihI H locs ls h9 => ?_) ⟨(upd (upd (upd (upd I1 6 (Int32.ofNat (P1 + 1))) 6 (Int32.ofNat ((P1 + 1) + 1))) 6 (Int32.ofNat (((P1 + 1) + 1) + 1))) 7 (Int32.ofNat (a1 + 2))), (m_up A1 2 (upd (upd (A1 2) a1 20) (a1 + 1) dv88)), O, dp, (a1 + 2), rfl, hE, hP, hD, hS, lv_sub hl [4, 5, 6, 8] rfl⟩
                    obtain ⟨I2, A2, O2, dp2, a2, hn8, hE, hP, hD, hS, hl⟩ := h9
                    have hnum := hE.num
                    refine lv_aload_n hx hb d_Mo_expression_181 rfl (lv_at hl 0 rfl) ?_
                    refine m_g hx hb hts hown hK hP 10 (by decide) rfl (hts _ k_977) (v := .int (Int32.ofNat O2)) (congrArg Value.int hE.1.2.2) d_Mo_expression_182 ?_
                    refine lv_aload_n hx hb d_Mo_expression_185 rfl (lv_at hl 0 rfl) ?_
                    refine m_g hx hb hts hown hK hP 17 (by decide) rfl (hts _ k_984) (v := .ref (ad 17)) rfl d_Mo_expression_186 ?_
                    refine lv_iload_n hx hb d_Mo_expression_189 rfl (lv_at hl 1 rfl) ?_
                    refine m_ld hx hb hK hP 10 rfl (by decide) (j := (Int32.ofNat b)) (x_inN (by omega) (by decide)) d_Mo_expression_190 ?_
                    refine W.eq (g2 := F0 m 191 ls [.int (Int32.ofNat (st b)), .int (Int32.ofNat O2)]) (by rw [x_nat (a := b) (by omega), hE.2.2.2.1 b (Nat.le_refl _)]) ?_
                    refine lv_icmp_le (tgt := 231) hx hb d_Mo_expression_191 (by decide) (fun c95 => ?_) (fun c95 => ?_)
                    · have c95 : O2 ≤ (st b) := (x_leN (a := O2) (b := (st b)) (by omega) (by omega)).mp c95
                      have hE := hE.done (Or.inl c95)
                      refine lv_iconst (v := 0) hx hb d_Mo_expression_231 (by decide) ?_
                      refine lv_istore_n (lv' := [(3, .int 0), (0, .ref h0), (1, .int (Int32.ofNat b)), (2, .int (Int32.ofNat dp2)), (4, .int (Int32.ofNat t1))]) hx hb d_Mo_expression_232 rfl hl (by decide) rfl (fun ls hl => ?_)
                      refine lv_goto (tgt := 489) hx hb d_Mo_expression_233 (by decide) ?_
                      refine lv_iinc (v := (Int32.ofNat (t1 + 1))) (lv' := [(4, .int (Int32.ofNat (t1 + 1))), (3, .int 0), (0, .ref h0), (1, .int (Int32.ofNat b)), (2, .int (Int32.ofNat dp2))]) hx hb d_Mo_expression_489 hl (k := 4) rfl (x_incN t1) (by decide) rfl (fun ls hl => ?_)
                      refine lv_goto (tgt := 28) hx hb d_Mo_expression_492 (by decide) ?_
                      exact ihO (200 - (t1 + 1)) (by omega) H locs ls ⟨I2, A2, st, b, O2, dp2, 0, 1, (((P1 + 1) + 1) + 1), a2, t1 + 1, rfl, by omega, Or.inr ⟨rfl, rfl⟩, hE, hP, hD, hS, lv_sub hl [2, 3, 4, 1, 0] rfl⟩
                    · have c95 : ¬ O2 ≤ (st b) := fun h9 => c95 ((x_leN (a := O2) (b := (st b)) (by omega) (by omega)).mpr h9)
                      refine lv_aload_n hx hb d_Mo_expression_194 rfl (lv_at hl 0 rfl) ?_
                      refine m_g hx hb hts hown hK hP 16 (by decide) rfl (hts _ k_983) (v := .ref (ad 16)) rfl d_Mo_expression_195 ?_
                      refine lv_aload_n hx hb d_Mo_expression_198 rfl (lv_at hl 0 rfl) ?_
                      refine m_g hx hb hts hown hK hP 10 (by decide) rfl (hts _ k_977) (v := .int (Int32.ofNat O2)) (congrArg Value.int hE.1.2.2) d_Mo_expression_199 ?_
                      refine lv_iconst (v := 1) hx hb d_Mo_expression_202 (by decide) ?_
                      refine lv_isub hx hb d_Mo_expression_203 ?_
                      refine W.eq (g2 := F0 m 204 ls [.int (Int32.ofNat (O2 - 1)), .ref (ad 16)]) (by rw [← x_subN (a := O2) (b := 1) (by omega)] <;> rfl) ?_
                      refine m_ld hx hb hK hP 9 rfl (by decide) (j := (Int32.ofNat (O2 - 1))) (x_inN (by omega) (by decide)) d_Mo_expression_204 ?_
                      refine W.eq (g2 := F0 m 205 ls [.int (A2 16 ((O2 - 1)))]) (by rw [x_nat (a := (O2 - 1)) (by omega)]) ?_
                      refine lv_iconst (v := 4) hx hb d_Mo_expression_205 (by decide) ?_
                      refine lv_icmp_ne (tgt := 231) hx hb d_Mo_expression_206 (by decide) (fun c96 => ?_) (fun c96 => ?_)
                      · have hE := hE.done (Or.inr c96)
                        refine lv_iconst (v := 0) hx hb d_Mo_expression_231 (by decide) ?_
                        refine lv_istore_n (lv' := [(3, .int 0), (0, .ref h0), (1, .int (Int32.ofNat b)), (2, .int (Int32.ofNat dp2)), (4, .int (Int32.ofNat t1))]) hx hb d_Mo_expression_232 rfl hl (by decide) rfl (fun ls hl => ?_)
                        refine lv_goto (tgt := 489) hx hb d_Mo_expression_233 (by decide) ?_
                        refine lv_iinc (v := (Int32.ofNat (t1 + 1))) (lv' := [(4, .int (Int32.ofNat (t1 + 1))), (3, .int 0), (0, .ref h0), (1, .int (Int32.ofNat b)), (2, .int (Int32.ofNat dp2))]) hx hb d_Mo_expression_489 hl (k := 4) rfl (x_incN t1) (by decide) rfl (fun ls hl => ?_)
                        refine lv_goto (tgt := 28) hx hb d_Mo_expression_492 (by decide) ?_
                        exact ihO (200 - (t1 + 1)) (by omega) H locs ls ⟨I2, A2, st, b, O2, dp2, 0, 1, (((P1 + 1) + 1) + 1), a2, t1 + 1, rfl, by omega, Or.inr ⟨rfl, rfl⟩, hE, hP, hD, hS, lv_sub hl [2, 3, 4, 1, 0] rfl⟩
                      · refine lv_aload_n hx hb d_Mo_expression_209 rfl (lv_at hl 0 rfl) ?_
                        refine lv_dup hx hb d_Mo_expression_210 rfl ?_
                        refine m_g hx hb hts hown hK hP 10 (by decide) rfl (hts _ k_977) (v := .int (Int32.ofNat O2)) (congrArg Value.int hE.1.2.2) d_Mo_expression_211 ?_
                        refine lv_iconst (v := 1) hx hb d_Mo_expression_214 (by decide) ?_
                        refine lv_isub hx hb d_Mo_expression_215 ?_
                        refine W.eq (g2 := F0 m 216 ls [.int (Int32.ofNat (O2 - 1)), .ref h0]) (by rw [← x_subN (a := O2) (b := 1) (by omega)] <;> rfl) ?_
                        refine m_p hx hb hts hown hK hP hD hS 10 (by decide) rfl (hts _ k_977) rfl (by decide +kernel) rfl (by decide) (x := (Int32.ofNat (O2 - 1))) d_Mo_expression_216 (fun H locs hP hD hS => ?_)
                        refine lv_iinc (v := (Int32.ofNat (dp2 - 1))) (lv' := [(2, .int (Int32.ofNat (dp2 - 1))), (0, .ref h0), (1, .int (Int32.ofNat b)), (4, .int (Int32.ofNat t1))]) hx hb d_Mo_expression_219 hl (k := 2) rfl (x_decN (a := dp2) (by omega)) (by decide) rfl (fun ls hl => ?_)
                        refine lv_aload_n hx hb d_Mo_expression_222 rfl (lv_at hl 1 rfl) ?_
                        refine lv_bipush (v := 23) hx hb d_Mo_expression_223 (by decide) ?_
                        have hFc := m_free hD hS hA
                        refine va_callv (va_runV (As := [.int 23]) (rest := []) ⟨hx, hb, hml, hown, hts⟩ (m_emit l dC dI ar N0 z h0 ad (upd I2 10 (Int32.ofNat (O2 - 1))) T A2 U a2 (23) H.size hE.1.2.1 (by omega)) (cwV 1 hts (x_goodV k_1148 k_1150 kp_55 k_9 k_1151) rfl rfl rfl (by decide +kernel) ⟨Nat.le_of_ble_eq_true rfl, Nat.le_of_ble_eq_true rfl⟩) ⟨x_blind, va_recv hK hP (ci := 6) (q0 := 0) rfl rfl, fun U9 hU9 hW9 => x_pre hU9 hW9 hP hD hU hZ hS hAN hN0⟩ rfl rfl hl.1 rfl (lv_room (Nat.le_of_ble_eq_true rfl)) d_Mo_expression_225 ⟨Nat.le_of_ble_eq_true rfl, Nat.le_of_ble_eq_true rfl⟩) hS (fun q _ h => hFc q h) hFc (fun u t H1 locs ht hvm hw hB hz1 hk1 hS => ?_)
                        obtain ⟨I98, T98, A98, U98⟩ := u
                        dsimp only at hw hB
                        rw [ht] at hB
                        have hP : va_P (dC, dI) x_cl (m_W h0 ad ar I98 T98 A98 U98) H1 := hB
                        have hD : va_D Bq (m_W h0 ad ar I98 T98 A98 U98) := m_D hD
                        generalize H1 = H at hP hS ⊢
                        refine W.widen (k := 0) (n := 0) (Nat.le_of_ble_eq_true rfl) (Nat.le_of_ble_eq_true rfl) ?_
                        cases hw
                        refine lv_goto (tgt := 181) hx hb d_Mo_expression_228 (by decide) ?_
                        exact ihI (O2 - 1) (by omega) H locs ls ⟨(upd (upd I2 10 (Int32.ofNat (O2 - 1))) 7 (Int32.ofNat (a2 + 1))), (m_up A2 2 (upd (A2 2) a2 23)), O2 - 1, dp2 - 1, a2 + 1, rfl, hE.pop (by omega) c96 hE.1.1 rfl rfl ((m_fr.rf.up (by decide) _).up (by decide) _), hP, hD, hS, lv_sub hl [1, 2, 0, 3] rfl⟩
                  · have i82 := i82
                    refine lv_if_eq (tgt := 148) hx hb d_Mo_expression_114 (by decide) (fun _ => ?_) (fun c99 => absurd (by decide) c99)
                    refine lv_iload hx hb d_Mo_expression_148 (lv_at hl 2 rfl) ?_
                    refine lv_if_eq (tgt := 163) hx hb d_Mo_expression_150 (by decide) (fun _ => ?_) (fun c100 => absurd (by decide) c100)
                    refine lv_aload_n hx hb d_Mo_expression_163 rfl (lv_at hl 4 rfl) ?_
                    refine lv_iload hx hb d_Mo_expression_164 (lv_at hl 2 rfl) ?_
                    refine lv_if_eq (tgt := 174) hx hb d_Mo_expression_166 (by decide) (fun _ => ?_) (fun c101 => absurd (by decide) c101)
                    refine lv_bipush (v := 20) hx hb d_Mo_expression_174 (by decide) ?_
                    refine lv_iload hx hb d_Mo_expression_176 (lv_at hl 1 rfl) ?_
                    have hFc := m_free hD hS hA
                    refine va_callv (va_runV (As := [.int 20, .int dv73]) (rest := []) ⟨hx, hb, hml, hown, hts⟩ (m_emit2 l dC dI ar N0 z h0 ad (upd (upd I1 6 (Int32.ofNat (P1 + 1))) 6 (Int32.ofNat ((P1 + 1) + 1))) T A1 U a1 (20) (dv73) H.size hE.1.2.1 (by omega)) (cwV 2 hts (x_goodV k_1152 k_1154 kp_56 k_9 k_1155) rfl rfl rfl (by decide +kernel) ⟨Nat.le_of_ble_eq_true rfl, Nat.le_of_ble_eq_true rfl⟩) ⟨x_blind, va_recv hK hP (ci := 6) (q0 := 0) rfl rfl, fun U9 hU9 hW9 => x_pre hU9 hW9 hP hD hU hZ hS hAN hN0⟩ rfl rfl hl.1 rfl (lv_room (Nat.le_of_ble_eq_true rfl)) d_Mo_expression_178 ⟨Nat.le_of_ble_eq_true rfl, Nat.le_of_ble_eq_true rfl⟩) hS (fun q _ h => hFc q h) hFc (fun u t H1 locs ht hvm hw hB hz1 hk1 hS => ?_)
                    obtain ⟨I103, T103, A103, U103⟩ := u
                    dsimp only at hw hB
                    rw [ht] at hB
                    have hP : va_P (dC, dI) x_cl (m_W h0 ad ar I103 T103 A103 U103) H1 := hB
                    have hD : va_D Bq (m_W h0 ad ar I103 T103 A103 U103) := m_D hD
                    generalize H1 = H at hP hS ⊢
                    refine W.widen (k := 0) (n := 0) (Nat.le_of_ble_eq_true rfl) (Nat.le_of_ble_eq_true rfl) ?_
                    cases hw
                    have hE := hE.opnd (t := 20) (v := dv73) (I2 := (upd (upd (upd I1 6 (Int32.ofNat (P1 + 1))) 6 (Int32.ofNat ((P1 + 1) + 1))) 7 (Int32.ofNat (a1 + 2)))) (P2 := ((P1 + 1) + 1)) (by omega) (by omega) (Or.inl rfl) rfl rfl hE.1.2.2 (((m_fr.rf.up (by decide) _).up (by decide) _).up (by decide) _)
                    refine x_while (fun n H locs ls => ∃ (I2 : Nat → Int32) (A2 : Nat → Nat → Int32) (O2 dp2 a2 : Nat), n = O2 ∧ m_EX I A I2 A2 st b O2 dp2 1 1 P (((P1 + 1) + 1)) S a0 a2 ∧ va_P (dC, dI) x_cl (m_W h0 ad ar I2 T A2 U) H ∧ va_D Bq (m_W h0 ad ar I2 T A2 U) ∧ va_S Bq s.heap H locs ∧ lv_has ls 9 [(0, .ref h0), (1, .int (Int32.ofNat b)), (2, .int (Int32.ofNat dp2)), (4, .int (Int32.ofNat t1))]) (fun n ihI H locs ls h9 => ?_) ⟨(upd (upd (upd I1 6 (Int32.ofNat (P1 + 1))) 6 (Int32.ofNat ((P1 + 1) + 1))) 7 (Int32.ofNat (a1 + 2))), (m_up A1 2 (upd (upd (A1 2) a1 20) (a1 + 1) dv73)), O, dp, (a1 + 2), rfl, hE, hP, hD, hS, lv_sub hl [4, 5, 6, 8] rfl⟩
                    obtain ⟨I2, A2, O2, dp2, a2, hn8, hE, hP, hD, hS, hl⟩ := h9
                    have hnum := hE.num
                    refine lv_aload_n hx hb d_Mo_expression_181 rfl (lv_at hl 0 rfl) ?_
                    refine m_g hx hb hts hown hK hP 10 (by decide) rfl (hts _ k_977) (v := .int (Int32.ofNat O2)) (congrArg Value.int hE.1.2.2) d_Mo_expression_182 ?_
                    refine lv_aload_n hx hb d_Mo_expression_185 rfl (lv_at hl 0 rfl) ?_
                    refine m_g hx hb hts hown hK hP 17 (by decide) rfl (hts _ k_984) (v := .ref (ad 17)) rfl d_Mo_expression_186 ?_
                    refine lv_iload_n hx hb d_Mo_expression_189 rfl (lv_at hl 1 rfl) ?_
                    refine m_ld hx hb hK hP 10 rfl (by decide) (j := (Int32.ofNat b)) (x_inN (by omega) (by decide)) d_Mo_expression_190 ?_
                    refine W.eq (g2 := F0 m 191 ls [.int (Int32.ofNat (st b)), .int (Int32.ofNat O2)]) (by rw [x_nat (a := b) (by omega), hE.2.2.2.1 b (Nat.le_refl _)]) ?_
                    refine lv_icmp_le (tgt := 231) hx hb d_Mo_expression_191 (by decide) (fun c104 => ?_) (fun c104 => ?_)
                    · have c104 : O2 ≤ (st b) := (x_leN (a := O2) (b := (st b)) (by omega) (by omega)).mp c104
                      have hE := hE.done (Or.inl c104)
                      refine lv_iconst (v := 0) hx hb d_Mo_expression_231 (by decide) ?_
                      refine lv_istore_n (lv' := [(3, .int 0), (0, .ref h0), (1, .int (Int32.ofNat b)), (2, .int (Int32.ofNat dp2)), (4, .int (Int32.ofNat t1))]) hx hb d_Mo_expression_232 rfl hl (by decide) rfl (fun ls hl => ?_)
                      refine lv_goto (tgt := 489) hx hb d_Mo_expression_233 (by decide) ?_
                      refine lv_iinc (v := (Int32.ofNat (t1 + 1))) (lv' := [(4, .int (Int32.ofNat (t1 + 1))), (3, .int 0), (0, .ref h0), (1, .int (Int32.ofNat b)), (2, .int (Int32.ofNat dp2))]) hx hb d_Mo_expression_489 hl (k := 4) rfl (x_incN t1) (by decide) rfl (fun ls hl => ?_)
                      refine lv_goto (tgt := 28) hx hb d_Mo_expression_492 (by decide) ?_
                      exact ihO (200 - (t1 + 1)) (by omega) H locs ls ⟨I2, A2, st, b, O2, dp2, 0, 1, ((P1 + 1) + 1), a2, t1 + 1, rfl, by omega, Or.inr ⟨rfl, rfl⟩, hE, hP, hD, hS, lv_sub hl [2, 3, 4, 1, 0] rfl⟩
                    · have c104 : ¬ O2 ≤ (st b) := fun h9 => c104 ((x_leN (a := O2) (b := (st b)) (by omega) (by omega)).mpr h9)
                      refine lv_aload_n hx hb d_Mo_expression_194 rfl (lv_at hl 0 rfl) ?_
                      refine m_g hx hb hts hown hK hP 16 (by decide) rfl (hts _ k_983) (v := .ref (ad 16)) rfl d_Mo_expression_195 ?_
                      refine lv_aload_n hx hb d_Mo_expression_198 rfl (lv_at hl 0 rfl) ?_
                      refine m_g hx hb hts hown hK hP 10 (by decide) rfl (hts _ k_977) (v := .int (Int32.ofNat O2)) (congrArg Value.int hE.1.2.2) d_Mo_expression_199 ?_
                      refine lv_iconst (v := 1) hx hb d_Mo_expression_202 (by decide) ?_
                      refine lv_isub hx hb d_Mo_expression_203 ?_
                      refine W.eq (g2 := F0 m 204 ls [.int (Int32.ofNat (O2 - 1)), .ref (ad 16)]) (by rw [← x_subN (a := O2) (b := 1) (by omega)] <;> rfl) ?_
                      refine m_ld hx hb hK hP 9 rfl (by decide) (j := (Int32.ofNat (O2 - 1))) (x_inN (by omega) (by decide)) d_Mo_expression_204 ?_
                      refine W.eq (g2 := F0 m 205 ls [.int (A2 16 ((O2 - 1)))]) (by rw [x_nat (a := (O2 - 1)) (by omega)]) ?_
                      refine lv_iconst (v := 4) hx hb d_Mo_expression_205 (by decide) ?_
                      refine lv_icmp_ne (tgt := 231) hx hb d_Mo_expression_206 (by decide) (fun c105 => ?_) (fun c105 => ?_)
                      · have hE := hE.done (Or.inr c105)
                        refine lv_iconst (v := 0) hx hb d_Mo_expression_231 (by decide) ?_
                        refine lv_istore_n (lv' := [(3, .int 0), (0, .ref h0), (1, .int (Int32.ofNat b)), (2, .int (Int32.ofNat dp2)), (4, .int (Int32.ofNat t1))]) hx hb d_Mo_expression_232 rfl hl (by decide) rfl (fun ls hl => ?_)
                        refine lv_goto (tgt := 489) hx hb d_Mo_expression_233 (by decide) ?_
                        refine lv_iinc (v := (Int32.ofNat (t1 + 1))) (lv' := [(4, .int (Int32.ofNat (t1 + 1))), (3, .int 0), (0, .ref h0), (1, .int (Int32.ofNat b)), (2, .int (Int32.ofNat dp2))]) hx hb d_Mo_expression_489 hl (k := 4) rfl (x_incN t1) (by decide) rfl (fun ls hl => ?_)
                        refine lv_goto (tgt := 28) hx hb d_Mo_expression_492 (by decide) ?_
                        exact ihO (200 - (t1 + 1)) (by omega) H locs ls ⟨I2, A2, st, b, O2, dp2, 0, 1, ((P1 + 1) + 1), a2, t1 + 1, rfl, by omega, Or.inr ⟨rfl, rfl⟩, hE, hP, hD, hS, lv_sub hl [2, 3, 4, 1, 0] rfl⟩
                      · refine lv_aload_n hx hb d_Mo_expression_209 rfl (lv_at hl 0 rfl) ?_
                        refine lv_dup hx hb d_Mo_expression_210 rfl ?_
                        refine m_g hx hb hts hown hK hP 10 (by decide) rfl (hts _ k_977) (v := .int (Int32.ofNat O2)) (congrArg Value.int hE.1.2.2) d_Mo_expression_211 ?_
                        refine lv_iconst (v := 1) hx hb d_Mo_expression_214 (by decide) ?_
                        refine lv_isub hx hb d_Mo_expression_215 ?_
                        refine W.eq (g2 := F0 m 216 ls [.int (Int32.ofNat (O2 - 1)), .ref h0]) (by rw [← x_subN (a := O2) (b := 1) (by omega)] <;> rfl) ?_
                        refine m_p hx hb hts hown hK hP hD hS 10 (by decide) rfl (hts _ k_977) rfl (by decide +kernel) rfl (by decide) (x := (Int32.ofNat (O2 - 1))) d_Mo_expression_216 (fun H locs hP hD hS => ?_)
                        refine lv_iinc (v := (Int32.ofNat (dp2 - 1))) (lv' := [(2, .int (Int32.ofNat (dp2 - 1))), (0, .ref h0), (1, .int (Int32.ofNat b)), (4, .int (Int32.ofNat t1))]) hx hb d_Mo_expression_219 hl (k := 2) rfl (x_decN (a := dp2) (by omega)) (by decide) rfl (fun ls hl => ?_)
                        refine lv_aload_n hx hb d_Mo_expression_222 rfl (lv_at hl 1 rfl) ?_
                        refine lv_bipush (v := 23) hx hb d_Mo_expression_223 (by decide) ?_
                        have hFc := m_free hD hS hA
                        refine va_callv (va_runV (As := [.int 23]) (rest := []) ⟨hx, hb, hml, hown, hts⟩ (m_emit l dC dI ar N0 z h0 ad (upd I2 10 (Int32.ofNat (O2 - 1))) T A2 U a2 (23) H.size hE.1.2.1 (by omega)) (cwV 1 hts (x_goodV k_1148 k_1150 kp_55 k_9 k_1151) rfl rfl rfl (by decide +kernel) ⟨Nat.le_of_ble_eq_true rfl, Nat.le_of_ble_eq_true rfl⟩) ⟨x_blind, va_recv hK hP (ci := 6) (q0 := 0) rfl rfl, fun U9 hU9 hW9 => x_pre hU9 hW9 hP hD hU hZ hS hAN hN0⟩ rfl rfl hl.1 rfl (lv_room (Nat.le_of_ble_eq_true rfl)) d_Mo_expression_225 ⟨Nat.le_of_ble_eq_true rfl, Nat.le_of_ble_eq_true rfl⟩) hS (fun q _ h => hFc q h) hFc (fun u t H1 locs ht hvm hw hB hz1 hk1 hS => ?_)
                        obtain ⟨I107, T107, A107, U107⟩ := u
                        dsimp only at hw hB
                        rw [ht] at hB
                        have hP : va_P (dC, dI) x_cl (m_W h0 ad ar I107 T107 A107 U107) H1 := hB
                        have hD : va_D Bq (m_W h0 ad ar I107 T107 A107 U107) := m_D hD
                        generalize H1 = H at hP hS ⊢
                        refine W.widen (k := 0) (n := 0) (Nat.le_of_ble_eq_true rfl) (Nat.le_of_ble_eq_true rfl) ?_
                        cases hw
                        refine lv_goto (tgt := 181) hx hb d_Mo_expression_228 (by decide) ?_
                        exact ihI (O2 - 1) (by omega) H locs ls ⟨(upd (upd I2 10 (Int32.ofNat (O2 - 1))) 7 (Int32.ofNat (a2 + 1))), (m_up A2 2 (upd (A2 2) a2 23)), O2 - 1, dp2 - 1, a2 + 1, rfl, hE.pop (by omega) c105 hE.1.1 rfl rfl ((m_fr.rf.up (by decide) _).up (by decide) _), hP, hD, hS, lv_sub hl [1, 2, 0, 3] rfl⟩
                · have i67 := i67
                  refine lv_if_eq (tgt := 148) hx hb d_Mo_expression_114 (by decide) (fun _ => ?_) (fun c108 => absurd (by decide) c108)
                  refine lv_iload hx hb d_Mo_expression_148 (lv_at hl 2 rfl) ?_
                  refine lv_if_eq (tgt := 163) hx hb d_Mo_expression_150 (by decide) (fun _ => ?_) (fun c109 => absurd (by decide) c109)
                  refine lv_aload_n hx hb d_Mo_expression_163 rfl (lv_at hl 4 rfl) ?_
                  refine lv_iload hx hb d_Mo_expression_164 (lv_at hl 2 rfl) ?_
                  refine lv_if_eq (tgt := 174) hx hb d_Mo_expression_166 (by decide) (fun _ => ?_) (fun c110 => absurd (by decide) c110)
                  refine lv_bipush (v := 20) hx hb d_Mo_expression_174 (by decide) ?_
                  refine lv_iload hx hb d_Mo_expression_176 (lv_at hl 1 rfl) ?_
                  have hFc := m_free hD hS hA
                  refine va_callv (va_runV (As := [.int 20, .int dv58]) (rest := []) ⟨hx, hb, hml, hown, hts⟩ (m_emit2 l dC dI ar N0 z h0 ad (upd I1 6 (Int32.ofNat (P1 + 1))) T A1 U a1 (20) (dv58) H.size hE.1.2.1 (by omega)) (cwV 2 hts (x_goodV k_1152 k_1154 kp_56 k_9 k_1155) rfl rfl rfl (by decide +kernel) ⟨Nat.le_of_ble_eq_true rfl, Nat.le_of_ble_eq_true rfl⟩) ⟨x_blind, va_recv hK hP (ci := 6) (q0 := 0) rfl rfl, fun U9 hU9 hW9 => x_pre hU9 hW9 hP hD hU hZ hS hAN hN0⟩ rfl rfl hl.1 rfl (lv_room (Nat.le_of_ble_eq_true rfl)) d_Mo_expression_178 ⟨Nat.le_of_ble_eq_true rfl, Nat.le_of_ble_eq_true rfl⟩) hS (fun q _ h => hFc q h) hFc (fun u t H1 locs ht hvm hw hB hz1 hk1 hS => ?_)
                  obtain ⟨I112, T112, A112, U112⟩ := u
                  dsimp only at hw hB
                  rw [ht] at hB
                  have hP : va_P (dC, dI) x_cl (m_W h0 ad ar I112 T112 A112 U112) H1 := hB
                  have hD : va_D Bq (m_W h0 ad ar I112 T112 A112 U112) := m_D hD
                  generalize H1 = H at hP hS ⊢
                  refine W.widen (k := 0) (n := 0) (Nat.le_of_ble_eq_true rfl) (Nat.le_of_ble_eq_true rfl) ?_
                  cases hw
                  have hE := hE.opnd (t := 20) (v := dv58) (I2 := (upd (upd I1 6 (Int32.ofNat (P1 + 1))) 7 (Int32.ofNat (a1 + 2)))) (P2 := (P1 + 1)) (by omega) (by omega) (Or.inl rfl) rfl rfl hE.1.2.2 ((m_fr.rf.up (by decide) _).up (by decide) _)
                  refine x_while (fun n H locs ls => ∃ (I2 : Nat → Int32) (A2 : Nat → Nat → Int32) (O2 dp2 a2 : Nat), n = O2 ∧ m_EX I A I2 A2 st b O2 dp2 1 1 P ((P1 + 1)) S a0 a2 ∧ va_P (dC, dI) x_cl (m_W h0 ad ar I2 T A2 U) H ∧ va_D Bq (m_W h0 ad ar I2 T A2 U) ∧ va_S Bq s.heap H locs ∧ lv_has ls 9 [(0, .ref h0), (1, .int (Int32.ofNat b)), (2, .int (Int32.ofNat dp2)), (4, .int (Int32.ofNat t1))]) (fun n ihI H locs ls h9 => ?_) ⟨(upd (upd I1 6 (Int32.ofNat (P1 + 1))) 7 (Int32.ofNat (a1 + 2))), (m_up A1 2 (upd (upd (A1 2) a1 20) (a1 + 1) dv58)), O, dp, (a1 + 2), rfl, hE, hP, hD, hS, lv_sub hl [4, 5, 6, 8] rfl⟩
                  obtain ⟨I2, A2, O2, dp2, a2, hn8, hE, hP, hD, hS, hl⟩ := h9
                  have hnum := hE.num
                  refine lv_aload_n hx hb d_Mo_expression_181 rfl (lv_at hl 0 rfl) ?_
                  refine m_g hx hb hts hown hK hP 10 (by decide) rfl (hts _ k_977) (v := .int (Int32.ofNat O2)) (congrArg Value.int hE.1.2.2) d_Mo_expression_182 ?_
                  refine lv_aload_n hx hb d_Mo_expression_185 rfl (lv_at hl 0 rfl) ?_
                  refine m_g hx hb hts hown hK hP 17 (by decide) rfl (hts _ k_984) (v := .ref (ad 17)) rfl d_Mo_expression_186 ?_
                  refine lv_iload_n hx hb d_Mo_expression_189 rfl (lv_at hl 1 rfl) ?_
                  refine m_ld hx hb hK hP 10 rfl (by decide) (j := (Int32.ofNat b)) (x_inN (by omega) (by decide)) d_Mo_expression_190 ?_
                  refine W.eq (g2 := F0 m 191 ls [.int (Int32.ofNat (st b)), .int (Int32.ofNat O2)]) (by rw [x_nat (a := b) (by omega), hE.2.2.2.1 b (Nat.le_refl _)]) ?_
                  refine lv_icmp_le (tgt := 231) hx hb d_Mo_expression_191 (by decide) (fun c113 => ?_) (fun c113 => ?_)
                  · have c113 : O2 ≤ (st b) := (x_leN (a := O2) (b := (st b)) (by omega) (by omega)).mp c113
                    have hE := hE.done (Or.inl c113)
                    refine lv_iconst (v := 0) hx hb d_Mo_expression_231 (by decide) ?_
                    refine lv_istore_n (lv' := [(3, .int 0), (0, .ref h0), (1, .int (Int32.ofNat b)), (2, .int (Int32.ofNat dp2)), (4, .int (Int32.ofNat t1))]) hx hb d_Mo_expression_232 rfl hl (by decide) rfl (fun ls hl => ?_)
                    refine lv_goto (tgt := 489) hx hb d_Mo_expression_233 (by decide) ?_
                    refine lv_iinc (v := (Int32.ofNat (t1 + 1))) (lv' := [(4, .int (Int32.ofNat (t1 + 1))), (3, .int 0), (0, .ref h0), (1, .int (Int32.ofNat b)), (2, .int (Int32.ofNat dp2))]) hx hb d_Mo_expression_489 hl (k := 4) rfl (x_incN t1) (by decide) rfl (fun ls hl => ?_)
                    refine lv_goto (tgt := 28) hx hb d_Mo_expression_492 (by decide) ?_
                    exact ihO (200 - (t1 + 1)) (by omega) H locs ls ⟨I2, A2, st, b, O2, dp2, 0, 1, (P1 + 1), a2, t1 + 1, rfl, by omega, Or.inr ⟨rfl, rfl⟩, hE, hP, hD, hS, lv_sub hl [2, 3, 4, 1, 0] rfl⟩
                  · have c113 : ¬ O2 ≤ (st b) := fun h9 => c113 ((x_leN (a := O2) (b := (st b)) (by omega) (by omega)).mpr h9)
                    refine lv_aload_n hx hb d_Mo_expression_194 rfl (lv_at hl 0 rfl) ?_
                    refine m_g hx hb hts hown hK hP 16 (by decide) rfl (hts _ k_983) (v := .ref (ad 16)) rfl d_Mo_expression_195 ?_
                    refine lv_aload_n hx hb d_Mo_expression_198 rfl (lv_at hl 0 rfl) ?_
                    refine m_g hx hb hts hown hK hP 10 (by decide) rfl (hts _ k_977) (v := .int (Int32.ofNat O2)) (congrArg Value.int hE.1.2.2) d_Mo_expression_199 ?_
                    refine lv_iconst (v := 1) hx hb d_Mo_expression_202 (by decide) ?_
                    refine lv_isub hx hb d_Mo_expression_203 ?_
                    refine W.eq (g2 := F0 m 204 ls [.int (Int32.ofNat (O2 - 1)), .ref (ad 16)]) (by rw [← x_subN (a := O2) (b := 1) (by omega)] <;> rfl) ?_
                    refine m_ld hx hb hK hP 9 rfl (by decide) (j := (Int32.ofNat (O2 - 1))) (x_inN (by omega) (by decide)) d_Mo_expression_204 ?_
                    refine W.eq (g2 := F0 m 205 ls [.int (A2 16 ((O2 - 1)))]) (by rw [x_nat (a := (O2 - 1)) (by omega)]) ?_
                    refine lv_iconst (v := 4) hx hb d_Mo_expression_205 (by decide) ?_
                    refine lv_icmp_ne (tgt := 231) hx hb d_Mo_expression_206 (by decide) (fun c114 => ?_) (fun c114 => ?_)
                    · have hE := hE.done (Or.inr c114)
                      refine lv_iconst (v := 0) hx hb d_Mo_expression_231 (by decide) ?_
                      refine lv_istore_n (lv' := [(3, .int 0), (0, .ref h0), (1, .int (Int32.ofNat b)), (2, .int (Int32.ofNat dp2)), (4, .int (Int32.ofNat t1))]) hx hb d_Mo_expression_232 rfl hl (by decide) rfl (fun ls hl => ?_)
                      refine lv_goto (tgt := 489) hx hb d_Mo_expression_233 (by decide) ?_
                      refine lv_iinc (v := (Int32.ofNat (t1 + 1))) (lv' := [(4, .int (Int32.ofNat (t1 + 1))), (3, .int 0), (0, .ref h0), (1, .int (Int32.ofNat b)), (2, .int (Int32.ofNat dp2))]) hx hb d_Mo_expression_489 hl (k := 4) rfl (x_incN t1) (by decide) rfl (fun ls hl => ?_)
                      refine lv_goto (tgt := 28) hx hb d_Mo_expression_492 (by decide) ?_
                      exact ihO (200 - (t1 + 1)) (by omega) H locs ls ⟨I2, A2, st, b, O2, dp2, 0, 1, (P1 + 1), a2, t1 + 1, rfl, by omega, Or.inr ⟨rfl, rfl⟩, hE, hP, hD, hS, lv_sub hl [2, 3, 4, 1, 0] rfl⟩
                    · refine lv_aload_n hx hb d_Mo_expression_209 rfl (lv_at hl 0 rfl) ?_
                      refine lv_dup hx hb d_Mo_expression_210 rfl ?_
                      refine m_g hx hb hts hown hK hP 10 (by decide) rfl (hts _ k_977) (v := .int (Int32.ofNat O2)) (congrArg Value.int hE.1.2.2) d_Mo_expression_211 ?_
                      refine lv_iconst (v := 1) hx hb d_Mo_expression_214 (by decide) ?_
                      refine lv_isub hx hb d_Mo_expression_215 ?_
                      refine W.eq (g2 := F0 m 216 ls [.int (Int32.ofNat (O2 - 1)), .ref h0]) (by rw [← x_subN (a := O2) (b := 1) (by omega)] <;> rfl) ?_
                      refine m_p hx hb hts hown hK hP hD hS 10 (by decide) rfl (hts _ k_977) rfl (by decide +kernel) rfl (by decide) (x := (Int32.ofNat (O2 - 1))) d_Mo_expression_216 (fun H locs hP hD hS => ?_)
                      refine lv_iinc (v := (Int32.ofNat (dp2 - 1))) (lv' := [(2, .int (Int32.ofNat (dp2 - 1))), (0, .ref h0), (1, .int (Int32.ofNat b)), (4, .int (Int32.ofNat t1))]) hx hb d_Mo_expression_219 hl (k := 2) rfl (x_decN (a := dp2) (by omega)) (by decide) rfl (fun ls hl => ?_)
                      refine lv_aload_n hx hb d_Mo_expression_222 rfl (lv_at hl 1 rfl) ?_
                      refine lv_bipush (v := 23) hx hb d_Mo_expression_223 (by decide) ?_
                      have hFc := m_free hD hS hA
                      refine va_callv (va_runV (As := [.int 23]) (rest := []) ⟨hx, hb, hml, hown, hts⟩ (m_emit l dC dI ar N0 z h0 ad (upd I2 10 (Int32.ofNat (O2 - 1))) T A2 U a2 (23) H.size hE.1.2.1 (by omega)) (cwV 1 hts (x_goodV k_1148 k_1150 kp_55 k_9 k_1151) rfl rfl rfl (by decide +kernel) ⟨Nat.le_of_ble_eq_true rfl, Nat.le_of_ble_eq_true rfl⟩) ⟨x_blind, va_recv hK hP (ci := 6) (q0 := 0) rfl rfl, fun U9 hU9 hW9 => x_pre hU9 hW9 hP hD hU hZ hS hAN hN0⟩ rfl rfl hl.1 rfl (lv_room (Nat.le_of_ble_eq_true rfl)) d_Mo_expression_225 ⟨Nat.le_of_ble_eq_true rfl, Nat.le_of_ble_eq_true rfl⟩) hS (fun q _ h => hFc q h) hFc (fun u t H1 locs ht hvm hw hB hz1 hk1 hS => ?_)
                      obtain ⟨I116, T116, A116, U116⟩ := u
                      dsimp only at hw hB
                      rw [ht] at hB
                      have hP : va_P (dC, dI) x_cl (m_W h0 ad ar I116 T116 A116 U116) H1 := hB
                      have hD : va_D Bq (m_W h0 ad ar I116 T116 A116 U116) := m_D hD
                      generalize H1 = H at hP hS ⊢
                      refine W.widen (k := 0) (n := 0) (Nat.le_of_ble_eq_true rfl) (Nat.le_of_ble_eq_true rfl) ?_
                      cases hw
                      refine lv_goto (tgt := 181) hx hb d_Mo_expression_228 (by decide) ?_
                      exact ihI (O2 - 1) (by omega) H locs ls ⟨(upd (upd I2 10 (Int32.ofNat (O2 - 1))) 7 (Int32.ofNat (a2 + 1))), (m_up A2 2 (upd (A2 2) a2 23)), O2 - 1, dp2 - 1, a2 + 1, rfl, hE.pop (by omega) c114 hE.1.1 rfl rfl ((m_fr.rf.up (by decide) _).up (by decide) _), hP, hD, hS, lv_sub hl [1, 2, 0, 3] rfl⟩
              · exact absurd i52 (by rw [hk49, ← hk5]; exact fun h => h.elim i33 i33')
        · have i33 := i33
          refine lv_if_eq (tgt := 236) hx hb d_Mo_expression_62 (by decide) (fun _ => ?_) (fun c117 => absurd (by decide) c117)
          refine lv_iload_n hx hb d_Mo_expression_236 rfl (lv_at hl 4 rfl) ?_
          refine lv_if_eq (tgt := 314) hx hb d_Mo_expression_237 (by decide) (fun c118 => absurd c118 (by decide)) (fun _ => ?_)
          refine lv_iload_n hx hb d_Mo_expression_240 rfl (lv_at hl 3 rfl) ?_
          refine lv_iconst (v := 5) hx hb d_Mo_expression_241 (by decide) ?_
          refine lv_icmp_eq (tgt := 259) hx hb d_Mo_expression_242 (by decide) (fun c119 => ?_) (fun c119 => ?_)
          · have c119 : dp = 5 := (x_eqN (a := dp) (b := 5) (by omega) (by omega)).mp c119
            refine lv_iconst (v := 0) hx hb d_Mo_expression_259 (by decide) ?_
            refine W.widen (k := 0) (n := 0) (Nat.le_of_ble_eq_true rfl) (Nat.le_of_ble_eq_true rfl) ?_
            exact W.zret (v := 0) hx hb hr (rfl) (fun t ht hW => ⟨⟨0, (I1, T, A1, U), rfl, ⟨P1, 0, hE.1.1, by omega, by omega, hE.2.2.1.1, hE.2.2.1.2.1, rfl, rfl, Or.inl rfl⟩, by dsimp only; rw [ht]; exact hP⟩, hS.F ht⟩) hS.2.2 d_Mo_expression_260
          · have c119 : ¬ dp = 5 := fun h9 => c119 ((x_eqN (a := dp) (b := 5) (by omega) (by omega)).mpr h9)
            refine lv_iload hx hb d_Mo_expression_245 (lv_at hl 0 rfl) ?_
            refine lv_bipush (v := 45) hx hb d_Mo_expression_247 (by decide) ?_
            refine lv_icmp_eq (tgt := 261) hx hb d_Mo_expression_249 (by decide) (fun c120 => ?_) (fun c120 => ?_)
            · have hps : P1 < S := m_lke hk5 c120 (by decide)
              refine lv_aload_n hx hb d_Mo_expression_261 rfl (lv_at hl 1 rfl) ?_
              refine lv_dup hx hb d_Mo_expression_262 rfl ?_
              refine m_g hx hb hts hown hK hP 6 (by decide) rfl (hts _ k_973) (v := .int (Int32.ofNat P1)) (congrArg Value.int hE.1.1) d_Mo_expression_263 ?_
              refine lv_iconst (v := 1) hx hb d_Mo_expression_266 (by decide) ?_
              refine lv_iadd hx hb d_Mo_expression_267 ?_
              refine W.eq (g2 := F0 m 268 ls [.int (Int32.ofNat (P1 + 1)), .ref h0]) (by rw [← x_addN (a := P1) (b := 1)] <;> rfl) ?_
              refine m_p hx hb hts hown hK hP hD hS 6 (by decide) rfl (hts _ k_973) rfl (by decide +kernel) rfl (by decide) (x := (Int32.ofNat (P1 + 1))) d_Mo_expression_268 (fun H locs hP hD hS => ?_)
              refine lv_iinc (v := (Int32.ofNat (dp + 1))) (lv' := [(2, .int (Int32.ofNat (dp + 1))), (5, .int r2), (0, .ref h0), (1, .int (Int32.ofNat b)), (3, .int 1), (4, .int (Int32.ofNat t1))]) hx hb d_Mo_expression_271 hl (k := 3) rfl (x_incN dp) (by decide) rfl (fun ls hl => ?_)
              refine lv_iload hx hb d_Mo_expression_274 (lv_at hl 1 rfl) ?_
              refine lv_bipush (v := 45) hx hb d_Mo_expression_276 (by decide) ?_
              refine lv_icmp_ne (tgt := 291) hx hb d_Mo_expression_278 (by decide) (fun c121 => absurd c120 c121) (fun _ => ?_)
              refine lv_aload_n hx hb d_Mo_expression_281 rfl (lv_at hl 2 rfl) ?_
              refine lv_iload hx hb d_Mo_expression_282 (lv_at hl 1 rfl) ?_
              refine lv_iconst (v := 4) hx hb d_Mo_expression_284 (by decide) ?_
              have hFc := m_free hD hS hA
              refine va_callv (va_runV (As := [.int r2, .int 4]) (rest := []) ⟨hx, hb, hml, hown, hts⟩ (m_push l dC dI ar N0 z h0 ad (upd I1 6 (Int32.ofNat (P1 + 1))) T A1 U O (r2) (4) H.size hE.1.2.2 (by omega)) (cwV 2 hts (x_goodV k_1168 k_1170 kp_60 k_9 k_1171) rfl rfl rfl (by decide +kernel) ⟨Nat.le_of_ble_eq_true rfl, Nat.le_of_ble_eq_true rfl⟩) ⟨x_blind, va_recv hK hP (ci := 6) (q0 := 0) rfl rfl, fun U9 hU9 hW9 => x_pre hU9 hW9 hP hD hU hZ hS hAN hN0⟩ rfl rfl hl.1 rfl (lv_room (Nat.le_of_ble_eq_true rfl)) d_Mo_expression_285 ⟨Nat.le_of_ble_eq_true rfl, Nat.le_of_ble_eq_true rfl⟩) hS (fun q _ h => hFc q h) hFc (fun u t H1 locs ht hvm hw hB hz1 hk1 hS => ?_)
              obtain ⟨I123, T123, A123, U123⟩ := u
              dsimp only at hw hB
              rw [ht] at hB
              have hP : va_P (dC, dI) x_cl (m_W h0 ad ar I123 T123 A123 U123) H1 := hB
              have hD : va_D Bq (m_W h0 ad ar I123 T123 A123 U123) := m_D hD
              generalize H1 = H at hP hS ⊢
              refine W.widen (k := 0) (n := 0) (Nat.le_of_ble_eq_true rfl) (Nat.le_of_ble_eq_true rfl) ?_
              cases hw
              refine lv_goto (tgt := 489) hx hb d_Mo_expression_288 (by decide) ?_
              refine lv_iinc (v := (Int32.ofNat (t1 + 1))) (lv' := [(4, .int (Int32.ofNat (t1 + 1))), (2, .int (Int32.ofNat (dp + 1))), (5, .int r2), (0, .ref h0), (1, .int (Int32.ofNat b)), (3, .int 1)]) hx hb d_Mo_expression_489 hl (k := 5) rfl (x_incN t1) (by decide) rfl (fun ls hl => ?_)
              refine lv_goto (tgt := 28) hx hb d_Mo_expression_492 (by decide) ?_
              exact ihO (200 - (t1 + 1)) (by omega) H locs ls ⟨(upd (upd I1 6 (Int32.ofNat (P1 + 1))) 10 (Int32.ofNat (O + 1))), (m_up (m_up A1 15 (upd (A1 15) O r2)) 16 (upd (A1 16) O 4)), st, b, (O + 1), (dp + 1), 1, 0, (P1 + 1), a1, t1 + 1, rfl, by omega, Or.inl ⟨rfl, rfl⟩, hE.neg (by omega) hps rfl hE.1.2.1 rfl ((m_fr.rf.up (by decide) _).up (by decide) _), hP, hD, hS, lv_sub hl [3, 4, 1, 5, 0] rfl⟩
            · refine lv_iload hx hb d_Mo_expression_252 (lv_at hl 0 rfl) ?_
              refine lv_bipush (v := 40) hx hb d_Mo_expression_254 (by decide) ?_
              refine lv_icmp_eq (tgt := 261) hx hb d_Mo_expression_256 (by decide) (fun c124 => ?_) (fun c124 => ?_)
              · have hps : P1 < S := m_lke hk5 c124 (by decide)
                refine lv_aload_n hx hb d_Mo_expression_261 rfl (lv_at hl 1 rfl) ?_
                refine lv_dup hx hb d_Mo_expression_262 rfl ?_
                refine m_g hx hb hts hown hK hP 6 (by decide) rfl (hts _ k_973) (v := .int (Int32.ofNat P1)) (congrArg Value.int hE.1.1) d_Mo_expression_263 ?_
                refine lv_iconst (v := 1) hx hb d_Mo_expression_266 (by decide) ?_
                refine lv_iadd hx hb d_Mo_expression_267 ?_
                refine W.eq (g2 := F0 m 268 ls [.int (Int32.ofNat (P1 + 1)), .ref h0]) (by rw [← x_addN (a := P1) (b := 1)] <;> rfl) ?_
                refine m_p hx hb hts hown hK hP hD hS 6 (by decide) rfl (hts _ k_973) rfl (by decide +kernel) rfl (by decide) (x := (Int32.ofNat (P1 + 1))) d_Mo_expression_268 (fun H locs hP hD hS => ?_)
                refine lv_iinc (v := (Int32.ofNat (dp + 1))) (lv' := [(2, .int (Int32.ofNat (dp + 1))), (5, .int r2), (0, .ref h0), (1, .int (Int32.ofNat b)), (3, .int 1), (4, .int (Int32.ofNat t1))]) hx hb d_Mo_expression_271 hl (k := 3) rfl (x_incN dp) (by decide) rfl (fun ls hl => ?_)
                refine lv_iload hx hb d_Mo_expression_274 (lv_at hl 1 rfl) ?_
                refine lv_bipush (v := 45) hx hb d_Mo_expression_276 (by decide) ?_
                refine lv_icmp_ne (tgt := 291) hx hb d_Mo_expression_278 (by decide) (fun _ => ?_) (fun c125 => absurd c125 c120)
                refine lv_iinc (v := (Int32.ofNat (b + 1))) (lv' := [(1, .int (Int32.ofNat (b + 1))), (2, .int (Int32.ofNat (dp + 1))), (5, .int r2), (0, .ref h0), (3, .int 1), (4, .int (Int32.ofNat t1))]) hx hb d_Mo_expression_291 hl (k := 3) rfl (x_incN b) (by decide) rfl (fun ls hl => ?_)
                refine lv_aload_n hx hb d_Mo_expression_294 rfl (lv_at hl 3 rfl) ?_
                refine m_g hx hb hts hown hK hP 17 (by decide) rfl (hts _ k_984) (v := .ref (ad 17)) rfl d_Mo_expression_295 ?_
                refine lv_iload_n hx hb d_Mo_expression_298 rfl (lv_at hl 0 rfl) ?_
                refine lv_aload_n hx hb d_Mo_expression_299 rfl (lv_at hl 3 rfl) ?_
                refine m_g hx hb hts hown hK hP 10 (by decide) rfl (hts _ k_977) (v := .int (Int32.ofNat O)) (congrArg Value.int hE.1.2.2) d_Mo_expression_300 ?_
                refine m_st hx hb hK hP hD hS 10 rfl (by decide) (j := (Int32.ofNat (b + 1))) (x := (Int32.ofNat O)) (x_inN (by omega) (by decide)) d_Mo_expression_303 (fun H locs hP hD hS => ?_)
                rw [x_nat (a := (b + 1)) (by omega)] at hP hD
                refine lv_aload_n hx hb d_Mo_expression_304 rfl (lv_at hl 3 rfl) ?_
                refine m_g hx hb hts hown hK hP 19 (by decide) rfl (hts _ k_986) (v := .ref (ad 19)) rfl d_Mo_expression_305 ?_
                refine lv_iload_n hx hb d_Mo_expression_308 rfl (lv_at hl 0 rfl) ?_
                refine lv_iconst (v := 0) hx hb d_Mo_expression_309 (by decide) ?_
                refine m_zst hx hb hK hP hD hS 11 rfl (by decide) (j := (Int32.ofNat (b + 1))) (x := 0) (x_inN (by omega) (by decide)) d_Mo_expression_310 (fun H locs hP hD hS => ?_)
                rw [x_nat (a := (b + 1)) (by omega)] at hP hD
                rw [show vp_nar .boolean 0 = 0 from rfl] at hP hD
                refine lv_goto (tgt := 489) hx hb d_Mo_expression_311 (by decide) ?_
                refine lv_iinc (v := (Int32.ofNat (t1 + 1))) (lv' := [(4, .int (Int32.ofNat (t1 + 1))), (1, .int (Int32.ofNat (b + 1))), (2, .int (Int32.ofNat (dp + 1))), (5, .int r2), (0, .ref h0), (3, .int 1)]) hx hb d_Mo_expression_489 hl (k := 5) rfl (x_incN t1) (by decide) rfl (fun ls hl => ?_)
                refine lv_goto (tgt := 28) hx hb d_Mo_expression_492 (by decide) ?_
                exact ihO (200 - (t1 + 1)) (by omega) H locs ls ⟨(upd I1 6 (Int32.ofNat (P1 + 1))), (m_up (m_up A1 17 (upd (A1 17) ((b + 1)) (Int32.ofNat O))) 19 (upd ((m_up A1 17 (upd (A1 17) ((b + 1)) (Int32.ofNat O))) 19) ((b + 1)) 0)), (m_us st (b + 1) O), (b + 1), O, (dp + 1), 1, 0, (P1 + 1), a1, t1 + 1, rfl, by omega, Or.inl ⟨rfl, rfl⟩, hE.opn (by omega) hps rfl hE.1.2.1 hE.1.2.2 (m_fr.rf.up (by decide) _), hP, hD, hS, lv_sub hl [4, 1, 2, 5, 0] rfl⟩
              · refine lv_iconst (v := 0) hx hb d_Mo_expression_259 (by decide) ?_
                refine W.widen (k := 0) (n := 0) (Nat.le_of_ble_eq_true rfl) (Nat.le_of_ble_eq_true rfl) ?_
                exact W.zret (v := 0) hx hb hr (rfl) (fun t ht hW => ⟨⟨0, (I1, T, A1, U), rfl, ⟨P1, 0, hE.1.1, by omega, by omega, hE.2.2.1.1, hE.2.2.1.2.1, rfl, rfl, Or.inl rfl⟩, by dsimp only; rw [ht]; exact hP⟩, hS.F ht⟩) hS.2.2 d_Mo_expression_260
  · have hnum := hE.num
    have hl : lv_has ls 9 [(0, .ref h0), (1, .int (Int32.ofNat b)), (2, .int (Int32.ofNat dp)), (3, .int 0), (4, .int (Int32.ofNat t1))] := hl
    refine lv_iload hx hb d_Mo_expression_28 (lv_at hl 4 rfl) ?_
    refine lv_sipush (v := 200) hx hb d_Mo_expression_30 (by decide) ?_
    refine lv_icmp_ge (tgt := 495) hx hb d_Mo_expression_33 (by decide) (fun c126 => ?_) (fun c126 => ?_)
    · have c126 : 200 ≤ t1 := (x_leN (a := 200) (b := t1) (by omega) (by omega)).mp c126
      refine lv_iconst (v := 0) hx hb d_Mo_expression_495 (by decide) ?_
      refine W.widen (k := 0) (n := 0) (Nat.le_of_ble_eq_true rfl) (Nat.le_of_ble_eq_true rfl) ?_
      exact W.zret (v := 0) hx hb hr (rfl) (fun t ht hW => ⟨⟨0, (I1, T, A1, U), rfl, ⟨P1, 0, hE.1.1, by omega, by omega, hE.2.2.1.1, hE.2.2.1.2.1, rfl, rfl, Or.inl rfl⟩, by dsimp only; rw [ht]; exact hP⟩, hS.F ht⟩) hS.2.2 d_Mo_expression_496
    · have c126 : ¬ 200 ≤ t1 := fun h9 => c126 ((x_leN (a := 200) (b := t1) (by omega) (by omega)).mpr h9)
      refine lv_aload_n hx hb d_Mo_expression_36 rfl (lv_at hl 0 rfl) ?_
      have hFc := m_free hD hS hA
      refine va_calli (va_runV (As := []) (rest := []) ⟨hx, hb, hml, hown, hts⟩ (m_look l dC dI ar N0 z h0 ad I1 T A1 U P1 S H.size hE.1.1 ((hE.2.2.1.1 4 (by decide)).trans h4) (by omega) (by omega)) (cwV 0 hts (x_goodV k_1140 k_1142 kp_53 k_9 k_1143) rfl rfl rfl (by decide +kernel) ⟨Nat.le_of_ble_eq_true rfl, Nat.le_of_ble_eq_true rfl⟩) ⟨x_blind, va_recv hK hP (ci := 6) (q0 := 0) rfl rfl, fun U9 hU9 hW9 => x_pre hU9 hW9 hP hD hU hZ hS hAN hN0⟩ rfl rfl hl.1 rfl (lv_room (Nat.le_of_ble_eq_true rfl)) d_Mo_expression_37 ⟨Nat.le_of_ble_eq_true rfl, Nat.le_of_ble_eq_true rfl⟩) hS (fun q _ h => hFc q h) hFc (fun r127 u t H1 locs ht hvm hw hB hz1 hk1 hS => ?_)
      obtain ⟨I129, T129, A129, U129⟩ := u
      dsimp only at hw hB
      rw [ht] at hB
      have hP : va_P (dC, dI) x_cl (m_W h0 ad ar I129 T129 A129 U129) H1 := hB
      have hD : va_D Bq (m_W h0 ad ar I129 T129 A129 U129) := m_D hD
      generalize H1 = H at hP hS ⊢
      refine W.widen (k := 0) (n := 0) (Nat.le_of_ble_eq_true rfl) (Nat.le_of_ble_eq_true rfl) ?_
      obtain ⟨h9, hk130⟩ := hw
      cases h9
      refine lv_istore (lv' := [(5, .int r127), (0, .ref h0), (1, .int (Int32.ofNat b)), (2, .int (Int32.ofNat dp)), (3, .int 0), (4, .int (Int32.ofNat t1))]) hx hb d_Mo_expression_40 hl (by decide) rfl (fun ls hl => ?_)
      refine lv_iload_n hx hb d_Mo_expression_42 rfl (lv_at hl 4 rfl) ?_
      refine lv_if_eq (tgt := 236) hx hb d_Mo_expression_43 (by decide) (fun _ => ?_) (fun c131 => absurd (by decide) c131)
      refine lv_iload_n hx hb d_Mo_expression_236 rfl (lv_at hl 4 rfl) ?_
      refine lv_if_eq (tgt := 314) hx hb d_Mo_expression_237 (by decide) (fun _ => ?_) (fun c132 => absurd (by decide) c132)
      refine lv_iload hx hb d_Mo_expression_314 (lv_at hl 0 rfl) ?_
      have hFc := m_free hD hS hA
      refine va_calli (va_runS (As := [.int r127]) (rest := []) ⟨hx, hb, hml, hown, hts⟩ (c_Mo_rank l dC dI ar N0 z (r127) H.size) (cwS 1 hts (x_goodS k_1172 k_1173 k_9 k_1174) rfl rfl rfl (by decide +kernel) ⟨Nat.le_of_ble_eq_true rfl, Nat.le_of_ble_eq_true rfl⟩) ⟨x_blind, fun U9 hU9 hW9 => x_pre (ws := []) hU9 hW9 (fun k q h => by simp at h) (⟨fun i j p q h => by simp at h, fun k q h => by simp at h⟩ : va_D Bq []) hU hZ hS hAN hN0⟩ rfl rfl hl.1 rfl (lv_room (Nat.le_of_ble_eq_true rfl)) d_Mo_expression_316 ⟨Nat.le_of_ble_eq_true rfl, Nat.le_of_ble_eq_true rfl⟩) hS (fun q _ h => hA q (Nat.le_trans hS.1 (h.elim (fun ⟨k, e9, hk⟩ => by simp at hk) id))) (fun q h => hA q (Nat.le_trans hS.1 (h.elim (fun ⟨k, e9, hk⟩ => by simp at hk) id))) (fun r133 u t H1 locs ht hvm hw hB hz1 hk1 hS => ?_)
      have hP : va_P (dC, dI) x_cl (m_W h0 ad ar I1 T A1 U) H1 := fun k q hk => (hP k q hk).kept (hk1 q.1 ((hP k q hk).lt) (fun h9 => h9.elim (fun ⟨k, e9, hk⟩ => by simp at hk) (fun h8 => absurd (hP k q hk).lt (Nat.not_lt.mpr h8))))
      generalize H1 = H at hP hS ⊢
      refine W.widen (k := 0) (n := 0) (Nat.le_of_ble_eq_true rfl) (Nat.le_of_ble_eq_true rfl) ?_
      obtain rfl := hw
      refine lv_if_le (tgt := 399) hx hb d_Mo_expression_319 (by decide) (fun c135 => ?_) (fun c135 => ?_)
      · refine lv_aload_n hx hb d_Mo_expression_399 rfl (lv_at hl 1 rfl) ?_
        refine lv_aload_n hx hb d_Mo_expression_400 rfl (lv_at hl 1 rfl) ?_
        refine m_g hx hb hts hown hK hP 17 (by decide) rfl (hts _ k_984) (v := .ref (ad 17)) rfl d_Mo_expression_401 ?_
        refine lv_iload_n hx hb d_Mo_expression_404 rfl (lv_at hl 2 rfl) ?_
        refine m_ld hx hb hK hP 10 rfl (by decide) (j := (Int32.ofNat b)) (x_inN (by omega) (by decide)) d_Mo_expression_405 ?_
        refine W.eq (g2 := F0 m 406 ls [.int (Int32.ofNat (st b)), .ref h0]) (by rw [x_nat (a := b) (by omega), hE.2.2.2.1 b (Nat.le_refl _)]) ?_
        refine lv_iconst (v := 1) hx hb d_Mo_expression_406 (by decide) ?_
        have hFc := m_free hD hS hA
        refine va_callv (va_runV (As := [.int (Int32.ofNat (st b)), .int 1]) (rest := []) ⟨hx, hb, hml, hown, hts⟩ (m_write l dC dI ar N0 z h0 ad I1 T A1 U O a1 (st b) a0 (P1 - P) (1) H.size hE.1.2.2 hE.1.2.1 (by omega) (by omega) (by omega) hE.tk1) (cwV 2 hts (x_goodV k_1175 k_1177 kp_61 k_9 k_1178) rfl rfl rfl (by decide +kernel) ⟨Nat.le_of_ble_eq_true rfl, Nat.le_of_ble_eq_true rfl⟩) ⟨x_blind, va_recv hK hP (ci := 6) (q0 := 0) rfl rfl, fun U9 hU9 hW9 => x_pre hU9 hW9 hP hD hU hZ hS hAN hN0⟩ rfl rfl hl.1 rfl (lv_room (Nat.le_of_ble_eq_true rfl)) d_Mo_expression_407 ⟨Nat.le_of_ble_eq_true rfl, Nat.le_of_ble_eq_true rfl⟩) hS (fun q _ h => hFc q h) hFc (fun u t H1 locs ht hvm hw hB hz1 hk1 hS => ?_)
        obtain ⟨I137, T137, A137, U137⟩ := u
        dsimp only at hw hB
        rw [ht] at hB
        have hP : va_P (dC, dI) x_cl (m_W h0 ad ar I137 T137 A137 U137) H1 := hB
        have hD : va_D Bq (m_W h0 ad ar I137 T137 A137 U137) := m_D hD
        generalize H1 = H at hP hS ⊢
        refine W.widen (k := 0) (n := 0) (Nat.le_of_ble_eq_true rfl) (Nat.le_of_ble_eq_true rfl) ?_
        obtain ⟨o1, a2, l1, l2, i10, i7, l3, l4, hpot, hf2, hfa2, e1, e2, hlow, htk2, ht2⟩ := hw
        cases e1
        cases e2
        obtain ⟨⟨w1, w2, w3, w4, w5⟩, w16, w6, w7⟩ := hE.wr l1 l2 i10 i7 l3 hpot hf2 hfa2 hlow htk2
        refine lv_iload_n hx hb d_Mo_expression_410 rfl (lv_at hl 2 rfl) ?_
        refine lv_if_ne (tgt := 422) hx hb d_Mo_expression_411 (by decide) (fun c138 => ?_) (fun c138 => ?_)
        · have c138 : ¬ b = 0 := fun h9 => c138 ((x_eqN (a := b) (b := 0) (by omega) (by omega)).mpr h9)
          refine lv_aload_n hx hb d_Mo_expression_422 rfl (lv_at hl 1 rfl) ?_
          refine lv_bipush (v := 41) hx hb d_Mo_expression_423 (by decide) ?_
          have hFc := m_free hD hS hA
          refine va_calli (va_runV (As := [.int 41]) (rest := []) ⟨hx, hb, hml, hown, hts⟩ (m_passes l dC dI ar N0 z h0 ad I137 T A137 U P1 S (41) H.size ((hf2 6 (by decide)).trans hE.1.1) ((hf2 4 (by decide)).trans ((hE.2.2.1.1 4 (by decide)).trans h4)) (by omega) (by omega)) (cwV 1 hts (x_goodV k_1136 k_1138 kp_52 k_9 k_1139) rfl rfl rfl (by decide +kernel) ⟨Nat.le_of_ble_eq_true rfl, Nat.le_of_ble_eq_true rfl⟩) ⟨x_blind, va_recv hK hP (ci := 6) (q0 := 0) rfl rfl, fun U9 hU9 hW9 => x_pre hU9 hW9 hP hD hU hZ hS hAN hN0⟩ rfl rfl hl.1 rfl (lv_room (Nat.le_of_ble_eq_true rfl)) d_Mo_expression_425 ⟨Nat.le_of_ble_eq_true rfl, Nat.le_of_ble_eq_true rfl⟩) hS (fun q _ h => hFc q h) hFc (fun r139 u t H1 locs ht hvm hw hB hz1 hk1 hS => ?_)
          obtain ⟨I141, T141, A141, U141⟩ := u
          dsimp only at hw hB
          rw [ht] at hB
          have hP : va_P (dC, dI) x_cl (m_W h0 ad ar I141 T141 A141 U141) H1 := hB
          have hD : va_D Bq (m_W h0 ad ar I141 T141 A141 U141) := m_D hD
          generalize H1 = H at hP hS ⊢
          refine W.widen (k := 0) (n := 0) (Nat.le_of_ble_eq_true rfl) (Nat.le_of_ble_eq_true rfl) ?_
          rcases hw with ⟨p142, rfl, h9⟩ | ⟨p142, rfl, h9⟩
          · cases h9
            refine lv_if_ne (tgt := 433) hx hb d_Mo_expression_428 (by decide) (fun _ => ?_) (fun c143 => absurd c143 (by decide))
            have hps41 : P1 < S := m_lk0 (by rw [p142]; decide)
            refine lv_iinc (v := (Int32.ofNat (b - 1))) (lv' := [(1, .int (Int32.ofNat (b - 1))), (5, .int r127), (0, .ref h0), (2, .int (Int32.ofNat dp)), (3, .int 0), (4, .int (Int32.ofNat t1))]) hx hb d_Mo_expression_433 hl (k := 2) rfl (x_decN (a := b) (by omega)) (by decide) rfl (fun ls hl => ?_)
            refine lv_iinc (v := (Int32.ofNat (dp - 1))) (lv' := [(2, .int (Int32.ofNat (dp - 1))), (1, .int (Int32.ofNat (b - 1))), (5, .int r127), (0, .ref h0), (3, .int 0), (4, .int (Int32.ofNat t1))]) hx hb d_Mo_expression_436 hl (k := 3) rfl (x_decN (a := dp) (by omega)) (by decide) rfl (fun ls hl => ?_)
            have hE := hE.cls (I3 := (upd I137 6 (Int32.ofNat (P1 + 1)))) (by omega) l1 l2 i10 i7 l3 hpot hf2 hfa2 hlow htk2 ht2 hps41 rfl i7 i10 (m_fr.rf.up (by decide) _)
            refine x_while (fun n H locs ls => ∃ (I2 : Nat → Int32) (A2 : Nat → Nat → Int32) (O2 dp2 a2 : Nat), n = O2 ∧ m_EX I A I2 A2 st ((b - 1)) O2 dp2 1 1 P ((P1 + 1)) S a0 a2 ∧ va_P (dC, dI) x_cl (m_W h0 ad ar I2 T A2 U) H ∧ va_D Bq (m_W h0 ad ar I2 T A2 U) ∧ va_S Bq s.heap H locs ∧ lv_has ls 9 [(0, .ref h0), (1, .int (Int32.ofNat ((b - 1)))), (2, .int (Int32.ofNat dp2)), (3, .int 0), (4, .int (Int32.ofNat t1))]) (fun n ihI H locs ls h9 => ?_) ⟨(upd I137 6 (Int32.ofNat (P1 + 1))), A137, o1, (dp - 1), a2, rfl, hE, hP, hD, hS, lv_sub hl [3, 1, 0, 4, 5] rfl⟩
            obtain ⟨I2, A2, O2, dp2, a2, hn8, hE, hP, hD, hS, hl⟩ := h9
            have hnum := hE.num
            refine lv_aload_n hx hb d_Mo_expression_439 rfl (lv_at hl 0 rfl) ?_
            refine m_g hx hb hts hown hK hP 10 (by decide) rfl (hts _ k_977) (v := .int (Int32.ofNat O2)) (congrArg Value.int hE.1.2.2) d_Mo_expression_440 ?_
            refine lv_aload_n hx hb d_Mo_expression_443 rfl (lv_at hl 0 rfl) ?_
            refine m_g hx hb hts hown hK hP 17 (by decide) rfl (hts _ k_984) (v := .ref (ad 17)) rfl d_Mo_expression_444 ?_
            refine lv_iload_n hx hb d_Mo_expression_447 rfl (lv_at hl 1 rfl) ?_
            refine m_ld hx hb hK hP 10 rfl (by decide) (j := (Int32.ofNat ((b - 1)))) (x_inN (by omega) (by decide)) d_Mo_expression_448 ?_
            refine W.eq (g2 := F0 m 449 ls [.int (Int32.ofNat (st (((b - 1))))), .int (Int32.ofNat O2)]) (by rw [x_nat (a := ((b - 1))) (by omega), hE.2.2.2.1 (((b - 1))) (Nat.le_refl _)]) ?_
            refine lv_icmp_le (tgt := 489) hx hb d_Mo_expression_449 (by decide) (fun c144 => ?_) (fun c144 => ?_)
            · have c144 : O2 ≤ (st (((b - 1)))) := (x_leN (a := O2) (b := (st (((b - 1))))) (by omega) (by omega)).mp c144
              have hE := hE.done (Or.inl c144)
              refine lv_iinc (v := (Int32.ofNat (t1 + 1))) (lv' := [(4, .int (Int32.ofNat (t1 + 1))), (0, .ref h0), (1, .int (Int32.ofNat ((b - 1)))), (2, .int (Int32.ofNat dp2)), (3, .int 0)]) hx hb d_Mo_expression_489 hl (k := 4) rfl (x_incN t1) (by decide) rfl (fun ls hl => ?_)
              refine lv_goto (tgt := 28) hx hb d_Mo_expression_492 (by decide) ?_
              exact ihO (200 - (t1 + 1)) (by omega) H locs ls ⟨I2, A2, st, (b - 1), O2, dp2, 0, 1, (P1 + 1), a2, t1 + 1, rfl, by omega, Or.inr ⟨rfl, rfl⟩, hE, hP, hD, hS, lv_sub hl [1, 2, 3, 4, 0] rfl⟩
            · have c144 : ¬ O2 ≤ (st (((b - 1)))) := fun h9 => c144 ((x_leN (a := O2) (b := (st (((b - 1))))) (by omega) (by omega)).mpr h9)
              refine lv_aload_n hx hb d_Mo_expression_452 rfl (lv_at hl 0 rfl) ?_
              refine m_g hx hb hts hown hK hP 16 (by decide) rfl (hts _ k_983) (v := .ref (ad 16)) rfl d_Mo_expression_453 ?_
              refine lv_aload_n hx hb d_Mo_expression_456 rfl (lv_at hl 0 rfl) ?_
              refine m_g hx hb hts hown hK hP 10 (by decide) rfl (hts _ k_977) (v := .int (Int32.ofNat O2)) (congrArg Value.int hE.1.2.2) d_Mo_expression_457 ?_
              refine lv_iconst (v := 1) hx hb d_Mo_expression_460 (by decide) ?_
              refine lv_isub hx hb d_Mo_expression_461 ?_
              refine W.eq (g2 := F0 m 462 ls [.int (Int32.ofNat (O2 - 1)), .ref (ad 16)]) (by rw [← x_subN (a := O2) (b := 1) (by omega)] <;> rfl) ?_
              refine m_ld hx hb hK hP 9 rfl (by decide) (j := (Int32.ofNat (O2 - 1))) (x_inN (by omega) (by decide)) d_Mo_expression_462 ?_
              refine W.eq (g2 := F0 m 463 ls [.int (A2 16 ((O2 - 1)))]) (by rw [x_nat (a := (O2 - 1)) (by omega)]) ?_
              refine lv_iconst (v := 4) hx hb d_Mo_expression_463 (by decide) ?_
              refine lv_icmp_ne (tgt := 489) hx hb d_Mo_expression_464 (by decide) (fun c145 => ?_) (fun c145 => ?_)
              · have hE := hE.done (Or.inr c145)
                refine lv_iinc (v := (Int32.ofNat (t1 + 1))) (lv' := [(4, .int (Int32.ofNat (t1 + 1))), (0, .ref h0), (1, .int (Int32.ofNat ((b - 1)))), (2, .int (Int32.ofNat dp2)), (3, .int 0)]) hx hb d_Mo_expression_489 hl (k := 4) rfl (x_incN t1) (by decide) rfl (fun ls hl => ?_)
                refine lv_goto (tgt := 28) hx hb d_Mo_expression_492 (by decide) ?_
                exact ihO (200 - (t1 + 1)) (by omega) H locs ls ⟨I2, A2, st, (b - 1), O2, dp2, 0, 1, (P1 + 1), a2, t1 + 1, rfl, by omega, Or.inr ⟨rfl, rfl⟩, hE, hP, hD, hS, lv_sub hl [1, 2, 3, 4, 0] rfl⟩
              · refine lv_aload_n hx hb d_Mo_expression_467 rfl (lv_at hl 0 rfl) ?_
                refine lv_dup hx hb d_Mo_expression_468 rfl ?_
                refine m_g hx hb hts hown hK hP 10 (by decide) rfl (hts _ k_977) (v := .int (Int32.ofNat O2)) (congrArg Value.int hE.1.2.2) d_Mo_expression_469 ?_
                refine lv_iconst (v := 1) hx hb d_Mo_expression_472 (by decide) ?_
                refine lv_isub hx hb d_Mo_expression_473 ?_
                refine W.eq (g2 := F0 m 474 ls [.int (Int32.ofNat (O2 - 1)), .ref h0]) (by rw [← x_subN (a := O2) (b := 1) (by omega)] <;> rfl) ?_
                refine m_p hx hb hts hown hK hP hD hS 10 (by decide) rfl (hts _ k_977) rfl (by decide +kernel) rfl (by decide) (x := (Int32.ofNat (O2 - 1))) d_Mo_expression_474 (fun H locs hP hD hS => ?_)
                refine lv_iinc (v := (Int32.ofNat (dp2 - 1))) (lv' := [(2, .int (Int32.ofNat (dp2 - 1))), (0, .ref h0), (1, .int (Int32.ofNat ((b - 1)))), (3, .int 0), (4, .int (Int32.ofNat t1))]) hx hb d_Mo_expression_477 hl (k := 2) rfl (x_decN (a := dp2) (by omega)) (by decide) rfl (fun ls hl => ?_)
                refine lv_aload_n hx hb d_Mo_expression_480 rfl (lv_at hl 1 rfl) ?_
                refine lv_bipush (v := 23) hx hb d_Mo_expression_481 (by decide) ?_
                have hFc := m_free hD hS hA
                refine va_callv (va_runV (As := [.int 23]) (rest := []) ⟨hx, hb, hml, hown, hts⟩ (m_emit l dC dI ar N0 z h0 ad (upd I2 10 (Int32.ofNat (O2 - 1))) T A2 U a2 (23) H.size hE.1.2.1 (by omega)) (cwV 1 hts (x_goodV k_1148 k_1150 kp_55 k_9 k_1151) rfl rfl rfl (by decide +kernel) ⟨Nat.le_of_ble_eq_true rfl, Nat.le_of_ble_eq_true rfl⟩) ⟨x_blind, va_recv hK hP (ci := 6) (q0 := 0) rfl rfl, fun U9 hU9 hW9 => x_pre hU9 hW9 hP hD hU hZ hS hAN hN0⟩ rfl rfl hl.1 rfl (lv_room (Nat.le_of_ble_eq_true rfl)) d_Mo_expression_483 ⟨Nat.le_of_ble_eq_true rfl, Nat.le_of_ble_eq_true rfl⟩) hS (fun q _ h => hFc q h) hFc (fun u t H1 locs ht hvm hw hB hz1 hk1 hS => ?_)
                obtain ⟨I147, T147, A147, U147⟩ := u
                dsimp only at hw hB
                rw [ht] at hB
                have hP : va_P (dC, dI) x_cl (m_W h0 ad ar I147 T147 A147 U147) H1 := hB
                have hD : va_D Bq (m_W h0 ad ar I147 T147 A147 U147) := m_D hD
                generalize H1 = H at hP hS ⊢
                refine W.widen (k := 0) (n := 0) (Nat.le_of_ble_eq_true rfl) (Nat.le_of_ble_eq_true rfl) ?_
                cases hw
                refine lv_goto (tgt := 439) hx hb d_Mo_expression_486 (by decide) ?_
                exact ihI (O2 - 1) (by omega) H locs ls ⟨(upd (upd I2 10 (Int32.ofNat (O2 - 1))) 7 (Int32.ofNat (a2 + 1))), (m_up A2 2 (upd (A2 2) a2 23)), O2 - 1, dp2 - 1, a2 + 1, rfl, hE.pop (by omega) c145 hE.1.1 rfl rfl ((m_fr.rf.up (by decide) _).up (by decide) _), hP, hD, hS, lv_sub hl [1, 2, 0, 3, 4] rfl⟩
          · cases h9
            refine lv_if_ne (tgt := 433) hx hb d_Mo_expression_428 (by decide) (fun c148 => absurd rfl c148) (fun _ => ?_)
            refine lv_iconst (v := 0) hx hb d_Mo_expression_431 (by decide) ?_
            refine W.widen (k := 0) (n := 0) (Nat.le_of_ble_eq_true rfl) (Nat.le_of_ble_eq_true rfl) ?_
            exact W.zret (v := 0) hx hb hr (rfl) (fun t ht hW => ⟨⟨0, (I137, T, A137, U), rfl, ⟨P1, 0, ((hf2 6 (by decide)).trans hE.1.1), by omega, by omega, w2, w3, rfl, rfl, Or.inl rfl⟩, by dsimp only; rw [ht]; exact hP⟩, hS.F ht⟩) hS.2.2 d_Mo_expression_432
        · have c138 : b = 0 := (x_eqN (a := b) (b := 0) (by omega) (by omega)).mp c138
          subst c138
          obtain ⟨f1, f2, f3⟩ := hE.fin l2 i10 i7 l3 hpot hf2 hfa2 hlow htk2 ht2
          refine lv_aload_n hx hb d_Mo_expression_414 rfl (lv_at hl 1 rfl) ?_
          refine lv_bipush (v := 24) hx hb d_Mo_expression_415 (by decide) ?_
          have hFc := m_free hD hS hA
          refine va_callv (va_runV (As := [.int 24]) (rest := []) ⟨hx, hb, hml, hown, hts⟩ (m_emit l dC dI ar N0 z h0 ad I137 T A137 U a2 (24) H.size i7 (by omega)) (cwV 1 hts (x_goodV k_1148 k_1150 kp_55 k_9 k_1151) rfl rfl rfl (by decide +kernel) ⟨Nat.le_of_ble_eq_true rfl, Nat.le_of_ble_eq_true rfl⟩) ⟨x_blind, va_recv hK hP (ci := 6) (q0 := 0) rfl rfl, fun U9 hU9 hW9 => x_pre hU9 hW9 hP hD hU hZ hS hAN hN0⟩ rfl rfl hl.1 rfl (lv_room (Nat.le_of_ble_eq_true rfl)) d_Mo_expression_417 ⟨Nat.le_of_ble_eq_true rfl, Nat.le_of_ble_eq_true rfl⟩) hS (fun q _ h => hFc q h) hFc (fun u t H1 locs ht hvm hw hB hz1 hk1 hS => ?_)
          obtain ⟨I150, T150, A150, U150⟩ := u
          dsimp only at hw hB
          rw [ht] at hB
          have hP : va_P (dC, dI) x_cl (m_W h0 ad ar I150 T150 A150 U150) H1 := hB
          have hD : va_D Bq (m_W h0 ad ar I150 T150 A150 U150) := m_D hD
          generalize H1 = H at hP hS ⊢
          refine W.widen (k := 0) (n := 0) (Nat.le_of_ble_eq_true rfl) (Nat.le_of_ble_eq_true rfl) ?_
          cases hw
          refine lv_iconst (v := 1) hx hb d_Mo_expression_420 (by decide) ?_
          refine W.widen (k := 0) (n := 0) (Nat.le_of_ble_eq_true rfl) (Nat.le_of_ble_eq_true rfl) ?_
          exact W.zret (v := 1) hx hb hr (rfl) (fun t ht hW => ⟨⟨1, ((upd I137 7 (Int32.ofNat (a2 + 1))), T, (m_up A137 2 (upd (A137 2) a2 24)), U), rfl, ⟨P1, a2, w1, by omega, by omega, w2.up (by decide) _, w3.up (by decide) _, rfl, rfl, Or.inr ⟨rfl, f3, rfl, by omega, f2, by dsimp only; rw [m_up_s]; exact f1.same (fun j hj => upd_n (by omega)), by dsimp only; rw [m_up_s, upd_s], fun j hj => by dsimp only; rw [m_up_s, upd_n (by omega)]; exact w4 j hj⟩⟩, by dsimp only; rw [ht]; exact hP⟩, hS.F ht⟩) hS.2.2 d_Mo_expression_421
      · obtain ⟨q9, hq9, q91, q93⟩ := m_rk c135
        have hps : P1 < S := m_lkr hk130 c135
        refine lv_iload hx hb d_Mo_expression_322 (lv_at hl 0 rfl) ?_
        have hFc := m_free hD hS hA
        refine va_calli (va_runS (As := [.int r127]) (rest := []) ⟨hx, hb, hml, hown, hts⟩ (c_Mo_rank l dC dI ar N0 z (r127) H.size) (cwS 1 hts (x_goodS k_1172 k_1173 k_9 k_1174) rfl rfl rfl (by decide +kernel) ⟨Nat.le_of_ble_eq_true rfl, Nat.le_of_ble_eq_true rfl⟩) ⟨x_blind, fun U9 hU9 hW9 => x_pre (ws := []) hU9 hW9 (fun k q h => by simp at h) (⟨fun i j p q h => by simp at h, fun k q h => by simp at h⟩ : va_D Bq []) hU hZ hS hAN hN0⟩ rfl rfl hl.1 rfl (lv_room (Nat.le_of_ble_eq_true rfl)) d_Mo_expression_324 ⟨Nat.le_of_ble_eq_true rfl, Nat.le_of_ble_eq_true rfl⟩) hS (fun q _ h => hA q (Nat.le_trans hS.1 (h.elim (fun ⟨k, e9, hk⟩ => by simp at hk) id))) (fun q h => hA q (Nat.le_trans hS.1 (h.elim (fun ⟨k, e9, hk⟩ => by simp at hk) id))) (fun r151 u t H1 locs ht hvm hw hB hz1 hk1 hS => ?_)
        have hP : va_P (dC, dI) x_cl (m_W h0 ad ar I1 T A1 U) H1 := fun k q hk => (hP k q hk).kept (hk1 q.1 ((hP k q hk).lt) (fun h9 => h9.elim (fun ⟨k, e9, hk⟩ => by simp at hk) (fun h8 => absurd (hP k q hk).lt (Nat.not_lt.mpr h8))))
        generalize H1 = H at hP hS ⊢
        refine W.widen (k := 0) (n := 0) (Nat.le_of_ble_eq_true rfl) (Nat.le_of_ble_eq_true rfl) ?_
        obtain rfl := hw
        refine W.eq (g2 := F0 m 327 ls [.int (Int32.ofNat q9)]) (by rw [hq9]) ?_
        refine lv_iconst (v := 1) hx hb d_Mo_expression_327 (by decide) ?_
        refine lv_icmp_ne (tgt := 342) hx hb d_Mo_expression_328 (by decide) (fun c153 => ?_) (fun c153 => ?_)
        · have c153 : ¬ q9 = 1 := fun h9 => c153 ((x_eqN (a := q9) (b := 1) (by omega) (by omega)).mpr h9)
          refine lv_iload hx hb d_Mo_expression_342 (lv_at hl 0 rfl) ?_
          have hFc := m_free hD hS hA
          refine va_calli (va_runS (As := [.int r127]) (rest := []) ⟨hx, hb, hml, hown, hts⟩ (c_Mo_rank l dC dI ar N0 z (r127) H.size) (cwS 1 hts (x_goodS k_1172 k_1173 k_9 k_1174) rfl rfl rfl (by decide +kernel) ⟨Nat.le_of_ble_eq_true rfl, Nat.le_of_ble_eq_true rfl⟩) ⟨x_blind, fun U9 hU9 hW9 => x_pre (ws := []) hU9 hW9 (fun k q h => by simp at h) (⟨fun i j p q h => by simp at h, fun k q h => by simp at h⟩ : va_D Bq []) hU hZ hS hAN hN0⟩ rfl rfl hl.1 rfl (lv_room (Nat.le_of_ble_eq_true rfl)) d_Mo_expression_344 ⟨Nat.le_of_ble_eq_true rfl, Nat.le_of_ble_eq_true rfl⟩) hS (fun q _ h => hA q (Nat.le_trans hS.1 (h.elim (fun ⟨k, e9, hk⟩ => by simp at hk) id))) (fun q h => hA q (Nat.le_trans hS.1 (h.elim (fun ⟨k, e9, hk⟩ => by simp at hk) id))) (fun r154 u t H1 locs ht hvm hw hB hz1 hk1 hS => ?_)
          have hP : va_P (dC, dI) x_cl (m_W h0 ad ar I1 T A1 U) H1 := fun k q hk => (hP k q hk).kept (hk1 q.1 ((hP k q hk).lt) (fun h9 => h9.elim (fun ⟨k, e9, hk⟩ => by simp at hk) (fun h8 => absurd (hP k q hk).lt (Nat.not_lt.mpr h8))))
          generalize H1 = H at hP hS ⊢
          refine W.widen (k := 0) (n := 0) (Nat.le_of_ble_eq_true rfl) (Nat.le_of_ble_eq_true rfl) ?_
          obtain rfl := hw
          refine W.eq (g2 := F0 m 347 ls [.int (Int32.ofNat q9)]) (by rw [hq9]) ?_
          refine lv_iconst (v := 1) hx hb d_Mo_expression_347 (by decide) ?_
          refine lv_icmp_ne (tgt := 358) hx hb d_Mo_expression_348 (by decide) (fun _ => ?_) (fun c156 => absurd ((x_eqN (a := q9) (b := 1) (by omega) (by omega)).mp c156) c153)
          refine lv_aload_n hx hb d_Mo_expression_358 rfl (lv_at hl 1 rfl) ?_
          refine lv_aload_n hx hb d_Mo_expression_359 rfl (lv_at hl 1 rfl) ?_
          refine m_g hx hb hts hown hK hP 17 (by decide) rfl (hts _ k_984) (v := .ref (ad 17)) rfl d_Mo_expression_360 ?_
          refine lv_iload_n hx hb d_Mo_expression_363 rfl (lv_at hl 2 rfl) ?_
          refine m_ld hx hb hK hP 10 rfl (by decide) (j := (Int32.ofNat b)) (x_inN (by omega) (by decide)) d_Mo_expression_364 ?_
          refine W.eq (g2 := F0 m 365 ls [.int (Int32.ofNat (st b)), .ref h0]) (by rw [x_nat (a := b) (by omega), hE.2.2.2.1 b (Nat.le_refl _)]) ?_
          refine lv_iload hx hb d_Mo_expression_365 (lv_at hl 0 rfl) ?_
          have hFc := m_free hD hS hA
          refine va_calli (va_runS (As := [.int r127]) (rest := [.int (Int32.ofNat (st b)), .ref h0]) ⟨hx, hb, hml, hown, hts⟩ (c_Mo_rank l dC dI ar N0 z (r127) H.size) (cwS 1 hts (x_goodS k_1172 k_1173 k_9 k_1174) rfl rfl rfl (by decide +kernel) ⟨Nat.le_of_ble_eq_true rfl, Nat.le_of_ble_eq_true rfl⟩) ⟨x_blind, fun U9 hU9 hW9 => x_pre (ws := []) hU9 hW9 (fun k q h => by simp at h) (⟨fun i j p q h => by simp at h, fun k q h => by simp at h⟩ : va_D Bq []) hU hZ hS hAN hN0⟩ rfl rfl hl.1 rfl (lv_room (Nat.le_of_ble_eq_true rfl)) d_Mo_expression_367 ⟨Nat.le_of_ble_eq_true rfl, Nat.le_of_ble_eq_true rfl⟩) hS (fun q _ h => hA q (Nat.le_trans hS.1 (h.elim (fun ⟨k, e9, hk⟩ => by simp at hk) id))) (fun q h => hA q (Nat.le_trans hS.1 (h.elim (fun ⟨k, e9, hk⟩ => by simp at hk) id))) (fun r157 u t H1 locs ht hvm hw hB hz1 hk1 hS => ?_)
          have hP : va_P (dC, dI) x_cl (m_W h0 ad ar I1 T A1 U) H1 := fun k q hk => (hP k q hk).kept (hk1 q.1 ((hP k q hk).lt) (fun h9 => h9.elim (fun ⟨k, e9, hk⟩ => by simp at hk) (fun h8 => absurd (hP k q hk).lt (Nat.not_lt.mpr h8))))
          generalize H1 = H at hP hS ⊢
          refine W.widen (k := 0) (n := 0) (Nat.le_of_ble_eq_true rfl) (Nat.le_of_ble_eq_true rfl) ?_
          obtain rfl := hw
          refine W.eq (g2 := F0 m 370 ls [.int (Int32.ofNat q9), .int (Int32.ofNat (st b)), .ref h0]) (by rw [hq9]) ?_
          have hFc := m_free hD hS hA
          refine va_callv (va_runV (As := [.int (Int32.ofNat (st b)), .int (Int32.ofNat q9)]) (rest := []) ⟨hx, hb, hml, hown, hts⟩ (m_write l dC dI ar N0 z h0 ad I1 T A1 U O a1 (st b) a0 (P1 - P) ((Int32.ofNat q9)) H.size hE.1.2.2 hE.1.2.1 (by omega) (by omega) (by omega) hE.tk1) (cwV 2 hts (x_goodV k_1175 k_1177 kp_61 k_9 k_1178) rfl rfl rfl (by decide +kernel) ⟨Nat.le_of_ble_eq_true rfl, Nat.le_of_ble_eq_true rfl⟩) ⟨x_blind, va_recv hK hP (ci := 6) (q0 := 0) rfl rfl, fun U9 hU9 hW9 => x_pre hU9 hW9 hP hD hU hZ hS hAN hN0⟩ rfl rfl hl.1 rfl (lv_room (Nat.le_of_ble_eq_true rfl)) d_Mo_expression_370 ⟨Nat.le_of_ble_eq_true rfl, Nat.le_of_ble_eq_true rfl⟩) hS (fun q _ h => hFc q h) hFc (fun u t H1 locs ht hvm hw hB hz1 hk1 hS => ?_)
          obtain ⟨I160, T160, A160, U160⟩ := u
          dsimp only at hw hB
          rw [ht] at hB
          have hP : va_P (dC, dI) x_cl (m_W h0 ad ar I160 T160 A160 U160) H1 := hB
          have hD : va_D Bq (m_W h0 ad ar I160 T160 A160 U160) := m_D hD
          generalize H1 = H at hP hS ⊢
          refine W.widen (k := 0) (n := 0) (Nat.le_of_ble_eq_true rfl) (Nat.le_of_ble_eq_true rfl) ?_
          obtain ⟨o1, a2, l1, l2, i10, i7, l3, l4, hpot, hf2, hfa2, e1, e2, hlow, htk2, ht2⟩ := hw
          cases e1
          cases e2
          obtain ⟨⟨w1, w2, w3, w4, w5⟩, w16, w6, w7⟩ := hE.wr l1 l2 i10 i7 l3 hpot hf2 hfa2 hlow htk2
          refine lv_aload_n hx hb d_Mo_expression_373 rfl (lv_at hl 1 rfl) ?_
          refine lv_iload hx hb d_Mo_expression_374 (lv_at hl 0 rfl) ?_
          refine lv_iload hx hb d_Mo_expression_376 (lv_at hl 0 rfl) ?_
          have hFc := m_free hD hS hA
          refine va_calli (va_runS (As := [.int r127]) (rest := [.int r127, .ref h0]) ⟨hx, hb, hml, hown, hts⟩ (c_Mo_rank l dC dI ar N0 z (r127) H.size) (cwS 1 hts (x_goodS k_1172 k_1173 k_9 k_1174) rfl rfl rfl (by decide +kernel) ⟨Nat.le_of_ble_eq_true rfl, Nat.le_of_ble_eq_true rfl⟩) ⟨x_blind, fun U9 hU9 hW9 => x_pre (ws := []) hU9 hW9 (fun k q h => by simp at h) (⟨fun i j p q h => by simp at h, fun k q h => by simp at h⟩ : va_D Bq []) hU hZ hS hAN hN0⟩ rfl rfl hl.1 rfl (lv_room (Nat.le_of_ble_eq_true rfl)) d_Mo_expression_378 ⟨Nat.le_of_ble_eq_true rfl, Nat.le_of_ble_eq_true rfl⟩) hS (fun q _ h => hA q (Nat.le_trans hS.1 (h.elim (fun ⟨k, e9, hk⟩ => by simp at hk) id))) (fun q h => hA q (Nat.le_trans hS.1 (h.elim (fun ⟨k, e9, hk⟩ => by simp at hk) id))) (fun r161 u t H1 locs ht hvm hw hB hz1 hk1 hS => ?_)
          have hP : va_P (dC, dI) x_cl (m_W h0 ad ar I160 T A160 U) H1 := fun k q hk => (hP k q hk).kept (hk1 q.1 ((hP k q hk).lt) (fun h9 => h9.elim (fun ⟨k, e9, hk⟩ => by simp at hk) (fun h8 => absurd (hP k q hk).lt (Nat.not_lt.mpr h8))))
          generalize H1 = H at hP hS ⊢
          refine W.widen (k := 0) (n := 0) (Nat.le_of_ble_eq_true rfl) (Nat.le_of_ble_eq_true rfl) ?_
          obtain rfl := hw
          refine W.eq (g2 := F0 m 381 ls [.int (Int32.ofNat q9), .int r127, .ref h0]) (by rw [hq9]) ?_
          have hFc := m_free hD hS hA
          refine va_callv (va_runV (As := [.int r127, .int (Int32.ofNat q9)]) (rest := []) ⟨hx, hb, hml, hown, hts⟩ (m_push l dC dI ar N0 z h0 ad I160 T A160 U o1 (r127) ((Int32.ofNat q9)) H.size i10 (by omega)) (cwV 2 hts (x_goodV k_1168 k_1170 kp_60 k_9 k_1171) rfl rfl rfl (by decide +kernel) ⟨Nat.le_of_ble_eq_true rfl, Nat.le_of_ble_eq_true rfl⟩) ⟨x_blind, va_recv hK hP (ci := 6) (q0 := 0) rfl rfl, fun U9 hU9 hW9 => x_pre hU9 hW9 hP hD hU hZ hS hAN hN0⟩ rfl rfl hl.1 rfl (lv_room (Nat.le_of_ble_eq_true rfl)) d_Mo_expression_381 ⟨Nat.le_of_ble_eq_true rfl, Nat.le_of_ble_eq_true rfl⟩) hS (fun q _ h => hFc q h) hFc (fun u t H1 locs ht hvm hw hB hz1 hk1 hS => ?_)
          obtain ⟨I164, T164, A164, U164⟩ := u
          dsimp only at hw hB
          rw [ht] at hB
          have hP : va_P (dC, dI) x_cl (m_W h0 ad ar I164 T164 A164 U164) H1 := hB
          have hD : va_D Bq (m_W h0 ad ar I164 T164 A164 U164) := m_D hD
          generalize H1 = H at hP hS ⊢
          refine W.widen (k := 0) (n := 0) (Nat.le_of_ble_eq_true rfl) (Nat.le_of_ble_eq_true rfl) ?_
          cases hw
          refine lv_aload_n hx hb d_Mo_expression_384 rfl (lv_at hl 1 rfl) ?_
          refine lv_dup hx hb d_Mo_expression_385 rfl ?_
          refine m_g hx hb hts hown hK hP 6 (by decide) rfl (hts _ k_973) (v := .int (Int32.ofNat P1)) (congrArg Value.int ((hf2 6 (by decide)).trans hE.1.1)) d_Mo_expression_386 ?_
          refine lv_iconst (v := 1) hx hb d_Mo_expression_389 (by decide) ?_
          refine lv_iadd hx hb d_Mo_expression_390 ?_
          refine W.eq (g2 := F0 m 391 ls [.int (Int32.ofNat (P1 + 1)), .ref h0]) (by rw [← x_addN (a := P1) (b := 1)] <;> rfl) ?_
          refine m_p hx hb hts hown hK hP hD hS 6 (by decide) rfl (hts _ k_973) rfl (by decide +kernel) rfl (by decide) (x := (Int32.ofNat (P1 + 1))) d_Mo_expression_391 (fun H locs hP hD hS => ?_)
          refine lv_iconst (v := 1) hx hb d_Mo_expression_394 (by decide) ?_
          refine lv_istore_n (lv' := [(3, .int 1), (5, .int r127), (0, .ref h0), (1, .int (Int32.ofNat b)), (2, .int (Int32.ofNat dp)), (4, .int (Int32.ofNat t1))]) hx hb d_Mo_expression_395 rfl hl (by decide) rfl (fun ls hl => ?_)
          refine lv_goto (tgt := 489) hx hb d_Mo_expression_396 (by decide) ?_
          refine lv_iinc (v := (Int32.ofNat (t1 + 1))) (lv' := [(4, .int (Int32.ofNat (t1 + 1))), (3, .int 1), (5, .int r127), (0, .ref h0), (1, .int (Int32.ofNat b)), (2, .int (Int32.ofNat dp))]) hx hb d_Mo_expression_489 hl (k := 5) rfl (x_incN t1) (by decide) rfl (fun ls hl => ?_)
          refine lv_goto (tgt := 28) hx hb d_Mo_expression_492 (by decide) ?_
          exact ihO (200 - (t1 + 1)) (by omega) H locs ls ⟨(upd (upd I160 10 (Int32.ofNat (o1 + 1))) 6 (Int32.ofNat (P1 + 1))), (m_up (m_up A160 15 (upd (A160 15) o1 r127)) 16 (upd (A160 16) o1 (Int32.ofNat q9))), st, b, (o1 + 1), dp, 1, 0, (P1 + 1), a2, t1 + 1, rfl, by omega, Or.inl ⟨rfl, rfl⟩, hE.bin l1 l2 i10 i7 l3 hpot hf2 hfa2 hlow htk2 ht2 q91 q93 hps rfl i7 rfl ((m_fr.rf.up (by decide) _).up (by decide) _), hP, hD, hS, lv_sub hl [3, 4, 5, 1, 0] rfl⟩
        · have c153 : q9 = 1 := (x_eqN (a := q9) (b := 1) (by omega) (by omega)).mp c153
          refine lv_aload_n hx hb d_Mo_expression_331 rfl (lv_at hl 1 rfl) ?_
          refine m_g hx hb hts hown hK hP 19 (by decide) rfl (hts _ k_986) (v := .ref (ad 19)) rfl d_Mo_expression_332 ?_
          refine lv_iload_n hx hb d_Mo_expression_335 rfl (lv_at hl 2 rfl) ?_
          refine m_zld hx hb hK hP 11 rfl (by decide) (j := (Int32.ofNat b)) (x_inN (by omega) (by decide)) d_Mo_expression_336 ?_
          refine W.eq (g2 := F0 m 337 ls [.int (A1 19 (b))]) (by rw [x_nat (a := b) (by omega)]) ?_
          refine lv_if_eq (tgt := 342) hx hb d_Mo_expression_337 (by decide) (fun c165 => ?_) (fun c165 => ?_)
          · refine lv_iload hx hb d_Mo_expression_342 (lv_at hl 0 rfl) ?_
            have hFc := m_free hD hS hA
            refine va_calli (va_runS (As := [.int r127]) (rest := []) ⟨hx, hb, hml, hown, hts⟩ (c_Mo_rank l dC dI ar N0 z (r127) H.size) (cwS 1 hts (x_goodS k_1172 k_1173 k_9 k_1174) rfl rfl rfl (by decide +kernel) ⟨Nat.le_of_ble_eq_true rfl, Nat.le_of_ble_eq_true rfl⟩) ⟨x_blind, fun U9 hU9 hW9 => x_pre (ws := []) hU9 hW9 (fun k q h => by simp at h) (⟨fun i j p q h => by simp at h, fun k q h => by simp at h⟩ : va_D Bq []) hU hZ hS hAN hN0⟩ rfl rfl hl.1 rfl (lv_room (Nat.le_of_ble_eq_true rfl)) d_Mo_expression_344 ⟨Nat.le_of_ble_eq_true rfl, Nat.le_of_ble_eq_true rfl⟩) hS (fun q _ h => hA q (Nat.le_trans hS.1 (h.elim (fun ⟨k, e9, hk⟩ => by simp at hk) id))) (fun q h => hA q (Nat.le_trans hS.1 (h.elim (fun ⟨k, e9, hk⟩ => by simp at hk) id))) (fun r166 u t H1 locs ht hvm hw hB hz1 hk1 hS => ?_)
            have hP : va_P (dC, dI) x_cl (m_W h0 ad ar I1 T A1 U) H1 := fun k q hk => (hP k q hk).kept (hk1 q.1 ((hP k q hk).lt) (fun h9 => h9.elim (fun ⟨k, e9, hk⟩ => by simp at hk) (fun h8 => absurd (hP k q hk).lt (Nat.not_lt.mpr h8))))
            generalize H1 = H at hP hS ⊢
            refine W.widen (k := 0) (n := 0) (Nat.le_of_ble_eq_true rfl) (Nat.le_of_ble_eq_true rfl) ?_
            obtain rfl := hw
            refine W.eq (g2 := F0 m 347 ls [.int (Int32.ofNat q9)]) (by rw [hq9]) ?_
            refine lv_iconst (v := 1) hx hb d_Mo_expression_347 (by decide) ?_
            refine lv_icmp_ne (tgt := 358) hx hb d_Mo_expression_348 (by decide) (fun c168 => absurd (by rw [c153]; rfl) c168) (fun _ => ?_)
            refine lv_aload_n hx hb d_Mo_expression_351 rfl (lv_at hl 1 rfl) ?_
            refine m_g hx hb hts hown hK hP 19 (by decide) rfl (hts _ k_986) (v := .ref (ad 19)) rfl d_Mo_expression_352 ?_
            refine lv_iload_n hx hb d_Mo_expression_355 rfl (lv_at hl 2 rfl) ?_
            refine lv_iconst (v := 1) hx hb d_Mo_expression_356 (by decide) ?_
            refine m_zst hx hb hK hP hD hS 11 rfl (by decide) (j := (Int32.ofNat b)) (x := 1) (x_inN (by omega) (by decide)) d_Mo_expression_357 (fun H locs hP hD hS => ?_)
            rw [x_nat (a := b) (by omega)] at hP hD
            rw [show vp_nar .boolean 1 = 1 from rfl] at hP hD
            have hE := hE.cmp (f := (upd (A1 19) (b) 1))
            refine lv_aload_n hx hb d_Mo_expression_358 rfl (lv_at hl 1 rfl) ?_
            refine lv_aload_n hx hb d_Mo_expression_359 rfl (lv_at hl 1 rfl) ?_
            refine m_g hx hb hts hown hK hP 17 (by decide) rfl (hts _ k_984) (v := .ref (ad 17)) rfl d_Mo_expression_360 ?_
            refine lv_iload_n hx hb d_Mo_expression_363 rfl (lv_at hl 2 rfl) ?_
            refine m_ld hx hb hK hP 10 rfl (by decide) (j := (Int32.ofNat b)) (x_inN (by omega) (by decide)) d_Mo_expression_364 ?_
            refine W.eq (g2 := F0 m 365 ls [.int (Int32.ofNat (st b)), .ref h0]) (by rw [x_nat (a := b) (by omega), hE.2.2.2.1 b (Nat.le_refl _)]) ?_
            refine lv_iload hx hb d_Mo_expression_365 (lv_at hl 0 rfl) ?_
            have hFc := m_free hD hS hA
            refine va_calli (va_runS (As := [.int r127]) (rest := [.int (Int32.ofNat (st b)), .ref h0]) ⟨hx, hb, hml, hown, hts⟩ (c_Mo_rank l dC dI ar N0 z (r127) H.size) (cwS 1 hts (x_goodS k_1172 k_1173 k_9 k_1174) rfl rfl rfl (by decide +kernel) ⟨Nat.le_of_ble_eq_true rfl, Nat.le_of_ble_eq_true rfl⟩) ⟨x_blind, fun U9 hU9 hW9 => x_pre (ws := []) hU9 hW9 (fun k q h => by simp at h) (⟨fun i j p q h => by simp at h, fun k q h => by simp at h⟩ : va_D Bq []) hU hZ hS hAN hN0⟩ rfl rfl hl.1 rfl (lv_room (Nat.le_of_ble_eq_true rfl)) d_Mo_expression_367 ⟨Nat.le_of_ble_eq_true rfl, Nat.le_of_ble_eq_true rfl⟩) hS (fun q _ h => hA q (Nat.le_trans hS.1 (h.elim (fun ⟨k, e9, hk⟩ => by simp at hk) id))) (fun q h => hA q (Nat.le_trans hS.1 (h.elim (fun ⟨k, e9, hk⟩ => by simp at hk) id))) (fun r169 u t H1 locs ht hvm hw hB hz1 hk1 hS => ?_)
            have hP : va_P (dC, dI) x_cl (m_W h0 ad ar I1 T (m_up A1 19 (upd (A1 19) (b) 1)) U) H1 := fun k q hk => (hP k q hk).kept (hk1 q.1 ((hP k q hk).lt) (fun h9 => h9.elim (fun ⟨k, e9, hk⟩ => by simp at hk) (fun h8 => absurd (hP k q hk).lt (Nat.not_lt.mpr h8))))
            generalize H1 = H at hP hS ⊢
            refine W.widen (k := 0) (n := 0) (Nat.le_of_ble_eq_true rfl) (Nat.le_of_ble_eq_true rfl) ?_
            obtain rfl := hw
            refine W.eq (g2 := F0 m 370 ls [.int (Int32.ofNat q9), .int (Int32.ofNat (st b)), .ref h0]) (by rw [hq9]) ?_
            have hFc := m_free hD hS hA
            refine va_callv (va_runV (As := [.int (Int32.ofNat (st b)), .int (Int32.ofNat q9)]) (rest := []) ⟨hx, hb, hml, hown, hts⟩ (m_write l dC dI ar N0 z h0 ad I1 T (m_up A1 19 (upd (A1 19) (b) 1)) U O a1 (st b) a0 (P1 - P) ((Int32.ofNat q9)) H.size hE.1.2.2 hE.1.2.1 (by omega) (by omega) (by omega) hE.tk1) (cwV 2 hts (x_goodV k_1175 k_1177 kp_61 k_9 k_1178) rfl rfl rfl (by decide +kernel) ⟨Nat.le_of_ble_eq_true rfl, Nat.le_of_ble_eq_true rfl⟩) ⟨x_blind, va_recv hK hP (ci := 6) (q0 := 0) rfl rfl, fun U9 hU9 hW9 => x_pre hU9 hW9 hP hD hU hZ hS hAN hN0⟩ rfl rfl hl.1 rfl (lv_room (Nat.le_of_ble_eq_true rfl)) d_Mo_expression_370 ⟨Nat.le_of_ble_eq_true rfl, Nat.le_of_ble_eq_true rfl⟩) hS (fun q _ h => hFc q h) hFc (fun u t H1 locs ht hvm hw hB hz1 hk1 hS => ?_)
            obtain ⟨I172, T172, A172, U172⟩ := u
            dsimp only at hw hB
            rw [ht] at hB
            have hP : va_P (dC, dI) x_cl (m_W h0 ad ar I172 T172 A172 U172) H1 := hB
            have hD : va_D Bq (m_W h0 ad ar I172 T172 A172 U172) := m_D hD
            generalize H1 = H at hP hS ⊢
            refine W.widen (k := 0) (n := 0) (Nat.le_of_ble_eq_true rfl) (Nat.le_of_ble_eq_true rfl) ?_
            obtain ⟨o1, a2, l1, l2, i10, i7, l3, l4, hpot, hf2, hfa2, e1, e2, hlow, htk2, ht2⟩ := hw
            cases e1
            cases e2
            obtain ⟨⟨w1, w2, w3, w4, w5⟩, w16, w6, w7⟩ := hE.wr l1 l2 i10 i7 l3 hpot hf2 hfa2 hlow htk2
            refine lv_aload_n hx hb d_Mo_expression_373 rfl (lv_at hl 1 rfl) ?_
            refine lv_iload hx hb d_Mo_expression_374 (lv_at hl 0 rfl) ?_
            refine lv_iload hx hb d_Mo_expression_376 (lv_at hl 0 rfl) ?_
            have hFc := m_free hD hS hA
            refine va_calli (va_runS (As := [.int r127]) (rest := [.int r127, .ref h0]) ⟨hx, hb, hml, hown, hts⟩ (c_Mo_rank l dC dI ar N0 z (r127) H.size) (cwS 1 hts (x_goodS k_1172 k_1173 k_9 k_1174) rfl rfl rfl (by decide +kernel) ⟨Nat.le_of_ble_eq_true rfl, Nat.le_of_ble_eq_true rfl⟩) ⟨x_blind, fun U9 hU9 hW9 => x_pre (ws := []) hU9 hW9 (fun k q h => by simp at h) (⟨fun i j p q h => by simp at h, fun k q h => by simp at h⟩ : va_D Bq []) hU hZ hS hAN hN0⟩ rfl rfl hl.1 rfl (lv_room (Nat.le_of_ble_eq_true rfl)) d_Mo_expression_378 ⟨Nat.le_of_ble_eq_true rfl, Nat.le_of_ble_eq_true rfl⟩) hS (fun q _ h => hA q (Nat.le_trans hS.1 (h.elim (fun ⟨k, e9, hk⟩ => by simp at hk) id))) (fun q h => hA q (Nat.le_trans hS.1 (h.elim (fun ⟨k, e9, hk⟩ => by simp at hk) id))) (fun r173 u t H1 locs ht hvm hw hB hz1 hk1 hS => ?_)
            have hP : va_P (dC, dI) x_cl (m_W h0 ad ar I172 T A172 U) H1 := fun k q hk => (hP k q hk).kept (hk1 q.1 ((hP k q hk).lt) (fun h9 => h9.elim (fun ⟨k, e9, hk⟩ => by simp at hk) (fun h8 => absurd (hP k q hk).lt (Nat.not_lt.mpr h8))))
            generalize H1 = H at hP hS ⊢
            refine W.widen (k := 0) (n := 0) (Nat.le_of_ble_eq_true rfl) (Nat.le_of_ble_eq_true rfl) ?_
            obtain rfl := hw
            refine W.eq (g2 := F0 m 381 ls [.int (Int32.ofNat q9), .int r127, .ref h0]) (by rw [hq9]) ?_
            have hFc := m_free hD hS hA
            refine va_callv (va_runV (As := [.int r127, .int (Int32.ofNat q9)]) (rest := []) ⟨hx, hb, hml, hown, hts⟩ (m_push l dC dI ar N0 z h0 ad I172 T A172 U o1 (r127) ((Int32.ofNat q9)) H.size i10 (by omega)) (cwV 2 hts (x_goodV k_1168 k_1170 kp_60 k_9 k_1171) rfl rfl rfl (by decide +kernel) ⟨Nat.le_of_ble_eq_true rfl, Nat.le_of_ble_eq_true rfl⟩) ⟨x_blind, va_recv hK hP (ci := 6) (q0 := 0) rfl rfl, fun U9 hU9 hW9 => x_pre hU9 hW9 hP hD hU hZ hS hAN hN0⟩ rfl rfl hl.1 rfl (lv_room (Nat.le_of_ble_eq_true rfl)) d_Mo_expression_381 ⟨Nat.le_of_ble_eq_true rfl, Nat.le_of_ble_eq_true rfl⟩) hS (fun q _ h => hFc q h) hFc (fun u t H1 locs ht hvm hw hB hz1 hk1 hS => ?_)
            obtain ⟨I176, T176, A176, U176⟩ := u
            dsimp only at hw hB
            rw [ht] at hB
            have hP : va_P (dC, dI) x_cl (m_W h0 ad ar I176 T176 A176 U176) H1 := hB
            have hD : va_D Bq (m_W h0 ad ar I176 T176 A176 U176) := m_D hD
            generalize H1 = H at hP hS ⊢
            refine W.widen (k := 0) (n := 0) (Nat.le_of_ble_eq_true rfl) (Nat.le_of_ble_eq_true rfl) ?_
            cases hw
            refine lv_aload_n hx hb d_Mo_expression_384 rfl (lv_at hl 1 rfl) ?_
            refine lv_dup hx hb d_Mo_expression_385 rfl ?_
            refine m_g hx hb hts hown hK hP 6 (by decide) rfl (hts _ k_973) (v := .int (Int32.ofNat P1)) (congrArg Value.int ((hf2 6 (by decide)).trans hE.1.1)) d_Mo_expression_386 ?_
            refine lv_iconst (v := 1) hx hb d_Mo_expression_389 (by decide) ?_
            refine lv_iadd hx hb d_Mo_expression_390 ?_
            refine W.eq (g2 := F0 m 391 ls [.int (Int32.ofNat (P1 + 1)), .ref h0]) (by rw [← x_addN (a := P1) (b := 1)] <;> rfl) ?_
            refine m_p hx hb hts hown hK hP hD hS 6 (by decide) rfl (hts _ k_973) rfl (by decide +kernel) rfl (by decide) (x := (Int32.ofNat (P1 + 1))) d_Mo_expression_391 (fun H locs hP hD hS => ?_)
            refine lv_iconst (v := 1) hx hb d_Mo_expression_394 (by decide) ?_
            refine lv_istore_n (lv' := [(3, .int 1), (5, .int r127), (0, .ref h0), (1, .int (Int32.ofNat b)), (2, .int (Int32.ofNat dp)), (4, .int (Int32.ofNat t1))]) hx hb d_Mo_expression_395 rfl hl (by decide) rfl (fun ls hl => ?_)
            refine lv_goto (tgt := 489) hx hb d_Mo_expression_396 (by decide) ?_
            refine lv_iinc (v := (Int32.ofNat (t1 + 1))) (lv' := [(4, .int (Int32.ofNat (t1 + 1))), (3, .int 1), (5, .int r127), (0, .ref h0), (1, .int (Int32.ofNat b)), (2, .int (Int32.ofNat dp))]) hx hb d_Mo_expression_489 hl (k := 5) rfl (x_incN t1) (by decide) rfl (fun ls hl => ?_)
            refine lv_goto (tgt := 28) hx hb d_Mo_expression_492 (by decide) ?_
            exact ihO (200 - (t1 + 1)) (by omega) H locs ls ⟨(upd (upd I172 10 (Int32.ofNat (o1 + 1))) 6 (Int32.ofNat (P1 + 1))), (m_up (m_up A172 15 (upd (A172 15) o1 r127)) 16 (upd (A172 16) o1 (Int32.ofNat q9))), st, b, (o1 + 1), dp, 1, 0, (P1 + 1), a2, t1 + 1, rfl, by omega, Or.inl ⟨rfl, rfl⟩, hE.bin l1 l2 i10 i7 l3 hpot hf2 hfa2 hlow htk2 ht2 q91 q93 hps rfl i7 rfl ((m_fr.rf.up (by decide) _).up (by decide) _), hP, hD, hS, lv_sub hl [3, 4, 5, 1, 0] rfl⟩
          · refine lv_iconst (v := 0) hx hb d_Mo_expression_340 (by decide) ?_
            refine W.widen (k := 0) (n := 0) (Nat.le_of_ble_eq_true rfl) (Nat.le_of_ble_eq_true rfl) ?_
            exact W.zret (v := 0) hx hb hr (rfl) (fun t ht hW => ⟨⟨0, (I1, T, A1, U), rfl, ⟨P1, 0, hE.1.1, by omega, by omega, hE.2.2.1.1, hE.2.2.1.2.1, rfl, rfl, Or.inl rfl⟩, by dsimp only; rw [ht]; exact hP⟩, hS.F ht⟩) hS.2.2 d_Mo_expression_341
