-- ===== 60.alt: alternative of the reference, by program =====
theorem k_76 : (Jvm.Cond.arrayClass Jvm.ClassFile.FieldType.int) ∈ x_T := x_at 76 (by decide +kernel) (by decide +kernel)
theorem k_1230 : (Jvm.Cond.methodLink "ChannelMachineModel" (239 : Nat) ({ cls := "ChannelMachineModel", name := "value", desc := "(I)I" } : Jvm.MethodName)) ∈ x_T := x_at 1230 (by decide +kernel) (by decide +kernel)
theorem k_1232 : (Jvm.Cond.instanceMethod ({ cls := "ChannelMachineModel", name := "value", desc := "(I)I" } : Jvm.MethodName)) ∈ x_T := x_at 1232 (by decide +kernel) (by decide +kernel)
theorem k_1233 : (Jvm.Cond.code ({ cls := "ChannelMachineModel", name := "value", desc := "(I)I" } : Jvm.MethodName) prog_12_method_32_code (5 : Nat) (Option.some Jvm.ClassFile.FieldType.int)) ∈ x_T := x_at 1233 (by decide +kernel) (by decide +kernel)
theorem k_1250 : (Jvm.Cond.methodLink "ChannelMachineModel" (242 : Nat) ({ cls := "ChannelMachineModel", name := "ready", desc := "(I)Z" } : Jvm.MethodName)) ∈ x_T := x_at 1250 (by decide +kernel) (by decide +kernel)
theorem k_1252 : (Jvm.Cond.instanceMethod ({ cls := "ChannelMachineModel", name := "ready", desc := "(I)Z" } : Jvm.MethodName)) ∈ x_T := x_at 1252 (by decide +kernel) (by decide +kernel)
theorem k_1253 : (Jvm.Cond.code ({ cls := "ChannelMachineModel", name := "ready", desc := "(I)Z" } : Jvm.MethodName) prog_12_method_33_code (2 : Nat) (Option.some Jvm.ClassFile.FieldType.boolean)) ∈ x_T := x_at 1253 (by decide +kernel) (by decide +kernel)
theorem k_1254 : (Jvm.Cond.methodLink "ChannelMachineModel" (245 : Nat) ({ cls := "ChannelMachineModel", name := "input", desc := "(II)V" } : Jvm.MethodName)) ∈ x_T := x_at 1254 (by decide +kernel) (by decide +kernel)
theorem k_1256 : (Jvm.Cond.instanceMethod ({ cls := "ChannelMachineModel", name := "input", desc := "(II)V" } : Jvm.MethodName)) ∈ x_T := x_at 1256 (by decide +kernel) (by decide +kernel)
theorem k_1257 : (Jvm.Cond.code ({ cls := "ChannelMachineModel", name := "input", desc := "(II)V" } : Jvm.MethodName) prog_12_method_34_code (3 : Nat) (Option.none : Option Jvm.ClassFile.FieldType)) ∈ x_T := x_at 1257 (by decide +kernel) (by decide +kernel)
theorem k_1258 : (Jvm.Cond.methodLink "ChannelMachineModel" (248 : Nat) ({ cls := "ChannelMachineModel", name := "await", desc := "(IIII)V" } : Jvm.MethodName)) ∈ x_T := x_at 1258 (by decide +kernel) (by decide +kernel)
theorem k_1260 : (Jvm.Cond.instanceMethod ({ cls := "ChannelMachineModel", name := "await", desc := "(IIII)V" } : Jvm.MethodName)) ∈ x_T := x_at 1260 (by decide +kernel) (by decide +kernel)
theorem k_1261 : (Jvm.Cond.code ({ cls := "ChannelMachineModel", name := "await", desc := "(IIII)V" } : Jvm.MethodName) prog_12_method_35_code (5 : Nat) (Option.none : Option Jvm.ClassFile.FieldType)) ∈ x_T := x_at 1261 (by decide +kernel) (by decide +kernel)
theorem kp_72 : (Jvm.Cond.selects "ChannelMachineModel" ({ cls := "ChannelMachineModel", name := "value", desc := "(I)I" } : Jvm.MethodName) ({ cls := "ChannelMachineModel", name := "value", desc := "(I)I" } : Jvm.MethodName)) ∈ x_T := x_sel (q := (({ cls := "ChannelMachineModel", name := "value", desc := "(I)I" } : Jvm.MethodName), 45)) 72 (by decide +kernel) (by decide +kernel)
theorem kp_77 : (Jvm.Cond.selects "ChannelMachineModel" ({ cls := "ChannelMachineModel", name := "ready", desc := "(I)Z" } : Jvm.MethodName) ({ cls := "ChannelMachineModel", name := "ready", desc := "(I)Z" } : Jvm.MethodName)) ∈ x_T := x_sel (q := (({ cls := "ChannelMachineModel", name := "ready", desc := "(I)Z" } : Jvm.MethodName), 45)) 77 (by decide +kernel) (by decide +kernel)
theorem kp_78 : (Jvm.Cond.selects "ChannelMachineModel" ({ cls := "ChannelMachineModel", name := "input", desc := "(II)V" } : Jvm.MethodName) ({ cls := "ChannelMachineModel", name := "input", desc := "(II)V" } : Jvm.MethodName)) ∈ x_T := x_sel (q := (({ cls := "ChannelMachineModel", name := "input", desc := "(II)V" } : Jvm.MethodName), 45)) 78 (by decide +kernel) (by decide +kernel)
theorem kp_79 : (Jvm.Cond.selects "ChannelMachineModel" ({ cls := "ChannelMachineModel", name := "await", desc := "(IIII)V" } : Jvm.MethodName) ({ cls := "ChannelMachineModel", name := "await", desc := "(IIII)V" } : Jvm.MethodName)) ∈ x_T := x_sel (q := (({ cls := "ChannelMachineModel", name := "await", desc := "(IIII)V" } : Jvm.MethodName), 45)) 79 (by decide +kernel) (by decide +kernel)
theorem d_Mo_alternative_0 : decode prog_12_method_38_code 0 = .ok (.aload_n 0, 1) := by decide +kernel
theorem d_Mo_alternative_1 : decode prog_12_method_38_code 1 = .ok (.getfield 13, 3) := by decide +kernel
theorem d_Mo_alternative_4 : decode prog_12_method_38_code 4 = .ok (.iload_n 2, 1) := by decide +kernel
theorem d_Mo_alternative_5 : decode prog_12_method_38_code 5 = .ok (.iconst 1, 1) := by decide +kernel
theorem d_Mo_alternative_6 : decode prog_12_method_38_code 6 = .ok (.iadd, 1) := by decide +kernel
theorem d_Mo_alternative_7 : decode prog_12_method_38_code 7 = .ok (.iaload, 1) := by decide +kernel
theorem d_Mo_alternative_8 : decode prog_12_method_38_code 8 = .ok (.istore_n 3, 1) := by decide +kernel
theorem d_Mo_alternative_9 : decode prog_12_method_38_code 9 = .ok (.iconst 4, 1) := by decide +kernel
theorem d_Mo_alternative_10 : decode prog_12_method_38_code 10 = .ok (.newarray .int, 2) := by decide +kernel
theorem d_Mo_alternative_12 : decode prog_12_method_38_code 12 = .ok (.dup, 1) := by decide +kernel
theorem d_Mo_alternative_13 : decode prog_12_method_38_code 13 = .ok (.iconst 0, 1) := by decide +kernel
theorem d_Mo_alternative_14 : decode prog_12_method_38_code 14 = .ok (.iconst 0, 1) := by decide +kernel
theorem d_Mo_alternative_15 : decode prog_12_method_38_code 15 = .ok (.iastore, 1) := by decide +kernel
theorem d_Mo_alternative_16 : decode prog_12_method_38_code 16 = .ok (.dup, 1) := by decide +kernel
theorem d_Mo_alternative_17 : decode prog_12_method_38_code 17 = .ok (.iconst 1, 1) := by decide +kernel
theorem d_Mo_alternative_18 : decode prog_12_method_38_code 18 = .ok (.iconst 0, 1) := by decide +kernel
theorem d_Mo_alternative_19 : decode prog_12_method_38_code 19 = .ok (.iastore, 1) := by decide +kernel
theorem d_Mo_alternative_20 : decode prog_12_method_38_code 20 = .ok (.dup, 1) := by decide +kernel
theorem d_Mo_alternative_21 : decode prog_12_method_38_code 21 = .ok (.iconst 2, 1) := by decide +kernel
theorem d_Mo_alternative_22 : decode prog_12_method_38_code 22 = .ok (.iconst 0, 1) := by decide +kernel
theorem d_Mo_alternative_23 : decode prog_12_method_38_code 23 = .ok (.iastore, 1) := by decide +kernel
theorem d_Mo_alternative_24 : decode prog_12_method_38_code 24 = .ok (.dup, 1) := by decide +kernel
theorem d_Mo_alternative_25 : decode prog_12_method_38_code 25 = .ok (.iconst 3, 1) := by decide +kernel
theorem d_Mo_alternative_26 : decode prog_12_method_38_code 26 = .ok (.iconst 0, 1) := by decide +kernel
theorem d_Mo_alternative_27 : decode prog_12_method_38_code 27 = .ok (.iastore, 1) := by decide +kernel
theorem d_Mo_alternative_28 : decode prog_12_method_38_code 28 = .ok (.astore 4, 2) := by decide +kernel
theorem d_Mo_alternative_30 : decode prog_12_method_38_code 30 = .ok (.iconst 0, 1) := by decide +kernel
theorem d_Mo_alternative_31 : decode prog_12_method_38_code 31 = .ok (.istore 5, 2) := by decide +kernel
theorem d_Mo_alternative_33 : decode prog_12_method_38_code 33 = .ok (.iload 5, 2) := by decide +kernel
theorem d_Mo_alternative_35 : decode prog_12_method_38_code 35 = .ok (.iload_n 3, 1) := by decide +kernel
theorem d_Mo_alternative_36 : decode prog_12_method_38_code 36 = .ok (.if_icmp .ge 38, 3) := by decide +kernel
theorem d_Mo_alternative_39 : decode prog_12_method_38_code 39 = .ok (.aload_n 0, 1) := by decide +kernel
theorem d_Mo_alternative_40 : decode prog_12_method_38_code 40 = .ok (.getfield 103, 3) := by decide +kernel
theorem d_Mo_alternative_43 : decode prog_12_method_38_code 43 = .ok (.ifCond .ne 31, 3) := by decide +kernel
theorem d_Mo_alternative_46 : decode prog_12_method_38_code 46 = .ok (.aload 4, 2) := by decide +kernel
theorem d_Mo_alternative_48 : decode prog_12_method_38_code 48 = .ok (.iload 5, 2) := by decide +kernel
theorem d_Mo_alternative_50 : decode prog_12_method_38_code 50 = .ok (.aload_n 0, 1) := by decide +kernel
theorem d_Mo_alternative_51 : decode prog_12_method_38_code 51 = .ok (.aload_n 0, 1) := by decide +kernel
theorem d_Mo_alternative_52 : decode prog_12_method_38_code 52 = .ok (.getfield 13, 3) := by decide +kernel
theorem d_Mo_alternative_55 : decode prog_12_method_38_code 55 = .ok (.iload_n 2, 1) := by decide +kernel
theorem d_Mo_alternative_56 : decode prog_12_method_38_code 56 = .ok (.iconst 2, 1) := by decide +kernel
theorem d_Mo_alternative_57 : decode prog_12_method_38_code 57 = .ok (.iadd, 1) := by decide +kernel
theorem d_Mo_alternative_58 : decode prog_12_method_38_code 58 = .ok (.iload 5, 2) := by decide +kernel
theorem d_Mo_alternative_60 : decode prog_12_method_38_code 60 = .ok (.iconst 4, 1) := by decide +kernel
theorem d_Mo_alternative_61 : decode prog_12_method_38_code 61 = .ok (.imul, 1) := by decide +kernel
theorem d_Mo_alternative_62 : decode prog_12_method_38_code 62 = .ok (.iadd, 1) := by decide +kernel
theorem d_Mo_alternative_63 : decode prog_12_method_38_code 63 = .ok (.iaload, 1) := by decide +kernel
theorem d_Mo_alternative_64 : decode prog_12_method_38_code 64 = .ok (.invokevirtual 239, 3) := by decide +kernel
theorem d_Mo_alternative_67 : decode prog_12_method_38_code 67 = .ok (.iastore, 1) := by decide +kernel
theorem d_Mo_alternative_68 : decode prog_12_method_38_code 68 = .ok (.iinc 5 1, 3) := by decide +kernel
theorem d_Mo_alternative_71 : decode prog_12_method_38_code 71 = .ok (.goto (-38), 3) := by decide +kernel
theorem d_Mo_alternative_74 : decode prog_12_method_38_code 74 = .ok (.iconst 0, 1) := by decide +kernel
theorem d_Mo_alternative_75 : decode prog_12_method_38_code 75 = .ok (.istore 5, 2) := by decide +kernel
theorem d_Mo_alternative_77 : decode prog_12_method_38_code 77 = .ok (.iload 5, 2) := by decide +kernel
theorem d_Mo_alternative_79 : decode prog_12_method_38_code 79 = .ok (.iload_n 3, 1) := by decide +kernel
theorem d_Mo_alternative_80 : decode prog_12_method_38_code 80 = .ok (.if_icmp .ge 93, 3) := by decide +kernel
theorem d_Mo_alternative_83 : decode prog_12_method_38_code 83 = .ok (.aload_n 0, 1) := by decide +kernel
theorem d_Mo_alternative_84 : decode prog_12_method_38_code 84 = .ok (.getfield 103, 3) := by decide +kernel
theorem d_Mo_alternative_87 : decode prog_12_method_38_code 87 = .ok (.ifCond .ne 86, 3) := by decide +kernel
theorem d_Mo_alternative_90 : decode prog_12_method_38_code 90 = .ok (.iload_n 2, 1) := by decide +kernel
theorem d_Mo_alternative_91 : decode prog_12_method_38_code 91 = .ok (.iconst 2, 1) := by decide +kernel
theorem d_Mo_alternative_92 : decode prog_12_method_38_code 92 = .ok (.iadd, 1) := by decide +kernel
theorem d_Mo_alternative_93 : decode prog_12_method_38_code 93 = .ok (.iload 5, 2) := by decide +kernel
theorem d_Mo_alternative_95 : decode prog_12_method_38_code 95 = .ok (.iconst 4, 1) := by decide +kernel
theorem d_Mo_alternative_96 : decode prog_12_method_38_code 96 = .ok (.imul, 1) := by decide +kernel
theorem d_Mo_alternative_97 : decode prog_12_method_38_code 97 = .ok (.iadd, 1) := by decide +kernel
theorem d_Mo_alternative_98 : decode prog_12_method_38_code 98 = .ok (.istore 6, 2) := by decide +kernel
theorem d_Mo_alternative_100 : decode prog_12_method_38_code 100 = .ok (.aload_n 0, 1) := by decide +kernel
theorem d_Mo_alternative_101 : decode prog_12_method_38_code 101 = .ok (.getfield 13, 3) := by decide +kernel
theorem d_Mo_alternative_104 : decode prog_12_method_38_code 104 = .ok (.iload 6, 2) := by decide +kernel
theorem d_Mo_alternative_106 : decode prog_12_method_38_code 106 = .ok (.iconst 1, 1) := by decide +kernel
theorem d_Mo_alternative_107 : decode prog_12_method_38_code 107 = .ok (.iadd, 1) := by decide +kernel
theorem d_Mo_alternative_108 : decode prog_12_method_38_code 108 = .ok (.iaload, 1) := by decide +kernel
theorem d_Mo_alternative_109 : decode prog_12_method_38_code 109 = .ok (.istore 7, 2) := by decide +kernel
theorem d_Mo_alternative_111 : decode prog_12_method_38_code 111 = .ok (.aload 4, 2) := by decide +kernel
theorem d_Mo_alternative_113 : decode prog_12_method_38_code 113 = .ok (.iload 5, 2) := by decide +kernel
theorem d_Mo_alternative_115 : decode prog_12_method_38_code 115 = .ok (.iaload, 1) := by decide +kernel
theorem d_Mo_alternative_116 : decode prog_12_method_38_code 116 = .ok (.ifCond .eq 51, 3) := by decide +kernel
theorem d_Mo_alternative_119 : decode prog_12_method_38_code 119 = .ok (.aload_n 0, 1) := by decide +kernel
theorem d_Mo_alternative_120 : decode prog_12_method_38_code 120 = .ok (.iload 7, 2) := by decide +kernel
theorem d_Mo_alternative_122 : decode prog_12_method_38_code 122 = .ok (.invokevirtual 242, 3) := by decide +kernel
theorem d_Mo_alternative_125 : decode prog_12_method_38_code 125 = .ok (.ifCond .ne 6, 3) := by decide +kernel
theorem d_Mo_alternative_128 : decode prog_12_method_38_code 128 = .ok (.goto 39, 3) := by decide +kernel
theorem d_Mo_alternative_131 : decode prog_12_method_38_code 131 = .ok (.iload 7, 2) := by decide +kernel
theorem d_Mo_alternative_133 : decode prog_12_method_38_code 133 = .ok (.ifCond .lt 18, 3) := by decide +kernel
theorem d_Mo_alternative_136 : decode prog_12_method_38_code 136 = .ok (.aload_n 0, 1) := by decide +kernel
theorem d_Mo_alternative_137 : decode prog_12_method_38_code 137 = .ok (.iload 7, 2) := by decide +kernel
theorem d_Mo_alternative_139 : decode prog_12_method_38_code 139 = .ok (.aload_n 0, 1) := by decide +kernel
theorem d_Mo_alternative_140 : decode prog_12_method_38_code 140 = .ok (.getfield 13, 3) := by decide +kernel
theorem d_Mo_alternative_143 : decode prog_12_method_38_code 143 = .ok (.iload 6, 2) := by decide +kernel
theorem d_Mo_alternative_145 : decode prog_12_method_38_code 145 = .ok (.iconst 2, 1) := by decide +kernel
theorem d_Mo_alternative_146 : decode prog_12_method_38_code 146 = .ok (.iadd, 1) := by decide +kernel
theorem d_Mo_alternative_147 : decode prog_12_method_38_code 147 = .ok (.iaload, 1) := by decide +kernel
theorem d_Mo_alternative_148 : decode prog_12_method_38_code 148 = .ok (.invokevirtual 245, 3) := by decide +kernel
theorem d_Mo_alternative_151 : decode prog_12_method_38_code 151 = .ok (.aload_n 0, 1) := by decide +kernel
theorem d_Mo_alternative_152 : decode prog_12_method_38_code 152 = .ok (.getfield 51, 3) := by decide +kernel
theorem d_Mo_alternative_155 : decode prog_12_method_38_code 155 = .ok (.iload_n 1, 1) := by decide +kernel
theorem d_Mo_alternative_156 : decode prog_12_method_38_code 156 = .ok (.aload_n 0, 1) := by decide +kernel
theorem d_Mo_alternative_157 : decode prog_12_method_38_code 157 = .ok (.getfield 13, 3) := by decide +kernel
theorem d_Mo_alternative_160 : decode prog_12_method_38_code 160 = .ok (.iload 6, 2) := by decide +kernel
theorem d_Mo_alternative_162 : decode prog_12_method_38_code 162 = .ok (.iconst 3, 1) := by decide +kernel
theorem d_Mo_alternative_163 : decode prog_12_method_38_code 163 = .ok (.iadd, 1) := by decide +kernel
theorem d_Mo_alternative_164 : decode prog_12_method_38_code 164 = .ok (.iaload, 1) := by decide +kernel
theorem d_Mo_alternative_165 : decode prog_12_method_38_code 165 = .ok (.iastore, 1) := by decide +kernel
theorem d_Mo_alternative_166 : decode prog_12_method_38_code 166 = .ok (.return_, 1) := by decide +kernel
theorem d_Mo_alternative_167 : decode prog_12_method_38_code 167 = .ok (.iinc 5 1, 3) := by decide +kernel
theorem d_Mo_alternative_170 : decode prog_12_method_38_code 170 = .ok (.goto (-93), 3) := by decide +kernel
theorem d_Mo_alternative_173 : decode prog_12_method_38_code 173 = .ok (.iconst 0, 1) := by decide +kernel
theorem d_Mo_alternative_174 : decode prog_12_method_38_code 174 = .ok (.istore 5, 2) := by decide +kernel
theorem d_Mo_alternative_176 : decode prog_12_method_38_code 176 = .ok (.iload 5, 2) := by decide +kernel
theorem d_Mo_alternative_178 : decode prog_12_method_38_code 178 = .ok (.iload_n 3, 1) := by decide +kernel
theorem d_Mo_alternative_179 : decode prog_12_method_38_code 179 = .ok (.if_icmp .ge 66, 3) := by decide +kernel
theorem d_Mo_alternative_182 : decode prog_12_method_38_code 182 = .ok (.aload_n 0, 1) := by decide +kernel
theorem d_Mo_alternative_183 : decode prog_12_method_38_code 183 = .ok (.getfield 103, 3) := by decide +kernel
theorem d_Mo_alternative_186 : decode prog_12_method_38_code 186 = .ok (.ifCond .ne 59, 3) := by decide +kernel
theorem d_Mo_alternative_189 : decode prog_12_method_38_code 189 = .ok (.iload_n 2, 1) := by decide +kernel
theorem d_Mo_alternative_190 : decode prog_12_method_38_code 190 = .ok (.iconst 2, 1) := by decide +kernel
theorem d_Mo_alternative_191 : decode prog_12_method_38_code 191 = .ok (.iadd, 1) := by decide +kernel
theorem d_Mo_alternative_192 : decode prog_12_method_38_code 192 = .ok (.iload 5, 2) := by decide +kernel
theorem d_Mo_alternative_194 : decode prog_12_method_38_code 194 = .ok (.iconst 4, 1) := by decide +kernel
theorem d_Mo_alternative_195 : decode prog_12_method_38_code 195 = .ok (.imul, 1) := by decide +kernel
theorem d_Mo_alternative_196 : decode prog_12_method_38_code 196 = .ok (.iadd, 1) := by decide +kernel
theorem d_Mo_alternative_197 : decode prog_12_method_38_code 197 = .ok (.istore 6, 2) := by decide +kernel
theorem d_Mo_alternative_199 : decode prog_12_method_38_code 199 = .ok (.aload 4, 2) := by decide +kernel
theorem d_Mo_alternative_201 : decode prog_12_method_38_code 201 = .ok (.iload 5, 2) := by decide +kernel
theorem d_Mo_alternative_203 : decode prog_12_method_38_code 203 = .ok (.iaload, 1) := by decide +kernel
theorem d_Mo_alternative_204 : decode prog_12_method_38_code 204 = .ok (.ifCond .eq 35, 3) := by decide +kernel
theorem d_Mo_alternative_207 : decode prog_12_method_38_code 207 = .ok (.aload_n 0, 1) := by decide +kernel
theorem d_Mo_alternative_208 : decode prog_12_method_38_code 208 = .ok (.aload_n 0, 1) := by decide +kernel
theorem d_Mo_alternative_209 : decode prog_12_method_38_code 209 = .ok (.getfield 13, 3) := by decide +kernel
theorem d_Mo_alternative_212 : decode prog_12_method_38_code 212 = .ok (.iload 6, 2) := by decide +kernel
theorem d_Mo_alternative_214 : decode prog_12_method_38_code 214 = .ok (.iconst 1, 1) := by decide +kernel
theorem d_Mo_alternative_215 : decode prog_12_method_38_code 215 = .ok (.iadd, 1) := by decide +kernel
theorem d_Mo_alternative_216 : decode prog_12_method_38_code 216 = .ok (.iaload, 1) := by decide +kernel
theorem d_Mo_alternative_217 : decode prog_12_method_38_code 217 = .ok (.iload_n 1, 1) := by decide +kernel
theorem d_Mo_alternative_218 : decode prog_12_method_38_code 218 = .ok (.aload_n 0, 1) := by decide +kernel
theorem d_Mo_alternative_219 : decode prog_12_method_38_code 219 = .ok (.getfield 13, 3) := by decide +kernel
theorem d_Mo_alternative_222 : decode prog_12_method_38_code 222 = .ok (.iload 6, 2) := by decide +kernel
theorem d_Mo_alternative_224 : decode prog_12_method_38_code 224 = .ok (.iconst 2, 1) := by decide +kernel
theorem d_Mo_alternative_225 : decode prog_12_method_38_code 225 = .ok (.iadd, 1) := by decide +kernel
theorem d_Mo_alternative_226 : decode prog_12_method_38_code 226 = .ok (.iaload, 1) := by decide +kernel
theorem d_Mo_alternative_227 : decode prog_12_method_38_code 227 = .ok (.aload_n 0, 1) := by decide +kernel
theorem d_Mo_alternative_228 : decode prog_12_method_38_code 228 = .ok (.getfield 13, 3) := by decide +kernel
theorem d_Mo_alternative_231 : decode prog_12_method_38_code 231 = .ok (.iload 6, 2) := by decide +kernel
theorem d_Mo_alternative_233 : decode prog_12_method_38_code 233 = .ok (.iconst 3, 1) := by decide +kernel
theorem d_Mo_alternative_234 : decode prog_12_method_38_code 234 = .ok (.iadd, 1) := by decide +kernel
theorem d_Mo_alternative_235 : decode prog_12_method_38_code 235 = .ok (.iaload, 1) := by decide +kernel
theorem d_Mo_alternative_236 : decode prog_12_method_38_code 236 = .ok (.invokevirtual 248, 3) := by decide +kernel
theorem d_Mo_alternative_239 : decode prog_12_method_38_code 239 = .ok (.iinc 5 1, 3) := by decide +kernel
theorem d_Mo_alternative_242 : decode prog_12_method_38_code 242 = .ok (.goto (-66), 3) := by decide +kernel
theorem d_Mo_alternative_245 : decode prog_12_method_38_code 245 = .ok (.aload_n 0, 1) := by decide +kernel
theorem d_Mo_alternative_246 : decode prog_12_method_38_code 246 = .ok (.iconst (-1), 1) := by decide +kernel
theorem d_Mo_alternative_247 : decode prog_12_method_38_code 247 = .ok (.putfield 79, 3) := by decide +kernel
theorem d_Mo_alternative_250 : decode prog_12_method_38_code 250 = .ok (.return_, 1) := by decide +kernel
section XC
variable {p : Program} {l : Launch} {e : Env} {R : Room} {s : State} {m : MethodId} {args : Array Value} {below : List Frame} {meth : Method} {c : Code} {H : Heap} {locs : List Loc} {cells slots : Nat} {Q : State → Prop} {ls : Array Slot} {pc : Nat}
/-- a place where ways meet -/
theorem x_cut (pc2 : Nat) (Inv : Heap → List Loc → Array Slot → Prop) (h2 : ∀ H locs ls, Inv H locs ls → W p l e R s m args below meth c H locs cells slots Q (F0 m pc2 ls []))
    (h1 : (∀ H locs ls, Inv H locs ls → W p l e R s m args below meth c H locs cells slots Q (F0 m pc2 ls [])) → W p l e R s m args below meth c H locs cells slots Q (F0 m pc ls [])) : W p l e R s m args below meth c H locs cells slots Q (F0 m pc ls []) := h1 h2
end XC
section RN
variable {A A' : Nat → Nat → Int32} {q : Nat} {V : Nat → Prop} {own pown : Nat → Nat} {bl : List Nat} {role : Nat → Nat} {n : Nat} {pn br st : Nat → Nat}
theorem m_RI.rdy {c9 gv : Nat} (h : m_RI A q V own pown bl role n pn br st) (hc : c9 < 6) (hr : Int32.ofNat c9 = -1 ∨ (Int32.ofNat c9 = 4 ∧ 1 ≤ gv) ∨ ∃ c8 : Nat, c8 < 6 ∧ Int32.ofNat c9 = Int32.ofNat c8 ∧ ¬ c8 = 4 ∧ ¬ A 38 c8 < 0) : (c9 = 4 ∧ 1 ≤ gv) ∨ (¬ c9 = 4 ∧ ∃ w9 : Nat, w9 < 90 ∧ A 38 c9 = Int32.ofNat w9 ∧ q < 90) := by
  rcases hr with h1 | ⟨h1, h2⟩ | ⟨c8, h1, h2, h3, h4⟩
  · exact absurd h1 (x_n1 (by omega))
  · exact Or.inl ⟨x_inj (b := 4) (by omega) (by omega) h1, h2⟩
  · have e := x_inj (by omega) (by omega) h2
    subst e
    refine Or.inr ⟨h3, ?_⟩
    rcases h.2.2.2.2.2.1 c9 hc with e9 | ⟨t, ht, e8, hal, hst⟩
    · rw [e9] at h4; exact absurd (by decide) h4
    · exact ⟨t, ht, e8, h.qlt⟩
end RN
set_option maxHeartbeats 4000000 in
set_option maxRecDepth 100000 in
theorem m_alternative (l : Launch) (dC : Nat → ClassId) (dI : Nat → Nat → Nat) (ar : Nat → ClassId) (N0 : Nat) (z : Nat → Nat) (h0 : Nat) (ad : Nat → Nat) (I : Nat → Int32) (T : Int64) (A : Nat → Nat → Int32) (U : Nat → Int64) (V : Nat → Prop) (own pown : Nat → Nat) (bl : List Nat) (role : Nat → Nat) (k9 q : Nat) (pn br st : Nat → Nat) (tt pp nn gv : Nat) (sz : Nat) (h29 : I 29 = Int32.ofNat q) (h30 : I 30 = Int32.ofNat tt) (hri : m_RI A q V own pown bl role k9 pn br st) (htt : tt < 90) (hal : m_al A tt) (hst : st tt = 0) (hk : m_kc (A 27) (A 21) tt 90 = 0) (h33 : I 33 = 0) (h42 : I 42 = Int32.ofNat gv) (hgv : gv ≤ 8) (hp9 : pp < 1001) (hn : A 1 (pp + 1) = Int32.ofNat nn) (hnn : nn ≤ 4) (hrow : ∀ g, g < nn → ∃ e q x : Nat, A 1 (pp + 2 + g * 4) = Int32.ofNat e ∧ q < 1200 ∧ m_TK (A 1) e q 1 72 ∧ A 1 q = 24 ∧ A 1 (pp + 2 + g * 4 + 3) = Int32.ofNat x ∧ V x ∧ own x = br tt ∧ (A 1 (pp + 2 + g * 4 + 1) = -1 ∨ ∃ c v : Nat, A 1 (pp + 2 + g * 4 + 1) = Int32.ofNat c ∧ c < 5 ∧ A 1 (pp + 2 + g * 4 + 2) = Int32.ofNat v ∧ v < 6)) : Met l ({ cls := "ChannelMachineModel", name := "alternative", desc := "(II)V" } : Jvm.MethodName) ((Jvm.Cond.code ({ cls := "ChannelMachineModel", name := "alternative", desc := "(II)V" } : Jvm.MethodName) prog_12_method_38_code (8 : Nat) (Option.none : Option Jvm.ClassFile.FieldType)) :: x_T) ({ frames := 3, cells := 1, slots := 4, locals := 68 }) (x_Pc (dC, dI) ar N0 z (m_W h0 ad ar I T A U) sz [.ref h0, .int (Int32.ofNat tt), .int (Int32.ofNat pp)]) (va_Qv (fun (u : (Nat → Int32) × Int64 × (Nat → Nat → Int32) × (Nat → Int64)) => m_fr [29, 30, 33, 42, 44] I u.1 ∧ m_fa [3, 20, 24, 25, 35, 36, 37, 38, 40] A u.2.2.1 ∧ u.2.1 = T ∧ u.2.2.2 = U ∧ (∃ g : Nat, g ≤ 8 ∧ u.1 42 = Int32.ofNat g) ∧ (u.1 33 = 0 → m_RUN u.1 u.2.2.1)) (fun u t => va_P (dC, dI) x_cl (m_W h0 ad ar u.1 u.2.1 u.2.2.1 u.2.2.2) t.heap) (va_A (m_W h0 ad ar I T A U) sz)) 1 4 (va_A (m_W h0 ad ar I T A U) sz) := by
  refine Met.ofW (cc := prog_12_method_38_code) (maxL := 8) (ret := none) (by decide) rfl ?_
  intro p e s m args below meth c s₁ B hml hv
  obtain ⟨rfl, hsz, hN0, hP, hU, hZ, hD0⟩ := hv
  have hK := hU.1
  have hx := B.exec
  have hb := B.bytes
  have hr := B.returns
  have hts : ∀ w ∈ x_T, w.before ([.ref h0, .int (Int32.ofNat tt), .int (Int32.ofNat pp)] : List Value).toArray s = true := fun w h => atoms_spec (ws := (Jvm.Cond.code ({ cls := "ChannelMachineModel", name := "alternative", desc := "(II)V" } : Jvm.MethodName) prog_12_method_38_code (8 : Nat) (Option.none : Option Jvm.ClassFile.FieldType)) :: x_T) B.pre w (List.mem_cons_of_mem _ h)
  have hown : s.vm.findClass "ChannelMachineModel" = some m.cls := findClass_of_methodNamed B.named
  have hlocks := B.notSynchronized
  subst hsz
  have hD := hD0.self (sz := s.heap.size)
  have hAN := x_AN hD0 hN0
  generalize hAe : va_A (m_W h0 ad ar I T A U) s.heap.size = Bq at hD hAN ⊢
  have hA : ∀ q : Nat, s.heap.size ≤ q → Bq q := fun q h => by rw [← hAe]; exact Or.inr h
  have hS : va_S Bq s.heap s.heap [] := va_S.rf
  have hl := lv_entry ([.ref h0, .int (Int32.ofNat tt), .int (Int32.ofNat pp)]) (n := 8) (Nat.le_of_ble_eq_true rfl)
  rw [lg_entry_eq]
  generalize (lg_sl ([.ref h0, .int (Int32.ofNat tt), .int (Int32.ofNat pp)]) ++ List.replicate (8 - (lg_sl ([.ref h0, .int (Int32.ofNat tt), .int (Int32.ofNat pp)])).length) Slot.unset).toArray = ls at hl ⊢
  have hl : lv_has ls 8 [(0, .ref h0), (1, .int (Int32.ofNat tt)), (2, .int (Int32.ofNat pp))] := hl
  refine lv_aload_n hx hb d_Mo_alternative_0 rfl (lv_at hl 0 rfl) ?_
  refine m_g hx hb hts hown hK hP 1 (by decide) rfl (hts _ k_968) (v := .ref (ad 1)) rfl d_Mo_alternative_1 ?_
  refine lv_iload_n hx hb d_Mo_alternative_4 rfl (lv_at hl 2 rfl) ?_
  refine lv_iconst (v := 1) hx hb d_Mo_alternative_5 (by decide) ?_
  refine lv_iadd hx hb d_Mo_alternative_6 ?_
  refine W.eq (g2 := F0 m 7 ls [.int (Int32.ofNat (pp + 1)), .ref (ad 1)]) (by rw [← x_addN (a := pp) (b := 1)] <;> rfl) ?_
  refine m_ld hx hb hK hP 1 rfl (by decide) (j := (Int32.ofNat (pp + 1))) (x_inN (by omega) (by decide)) d_Mo_alternative_7 ?_
  refine W.eq (g2 := F0 m 8 ls [.int (Int32.ofNat nn)]) (by rw [x_nat (a := (pp + 1)) (by omega), show A 1 ((pp + 1)) = (Int32.ofNat nn) from hn]) ?_
  refine lv_istore_n (lv' := [(3, .int (Int32.ofNat nn)), (0, .ref h0), (1, .int (Int32.ofNat tt)), (2, .int (Int32.ofNat pp))]) hx hb d_Mo_alternative_8 rfl hl (by decide) rfl (fun ls hl => ?_)
  refine lv_iconst (v := 4) hx hb d_Mo_alternative_9 (by decide) ?_
  refine x_newa (D := (dC, dI)) (ar := ar) (atype := .int) hx hb (hts _ k_76) (ty := .int) rfl hK hP hD hS hA (N' := 4) (a0 := (4, .inl (fun _ => 0))) (fun _ => rfl) (by decide) (by decide) (by decide) (Nat.le_of_ble_eq_true rfl) (Nat.le_of_ble_eq_true rfl) 0 rfl (by decide) d_Mo_alternative_10 (fun qo H hP2 hD2 hS => ?_)
  have hP2 : va_P (dC, dI) x_cl (m_O h0 ad ar I T A U qo (fun _ => 0)) H := hP2
  have hD2 : va_D Bq (m_O h0 ad ar I T A U qo (fun _ => 0)) := hD2
  generalize (fun _ => 0 : Nat → Int32) = fo at hP2 hD2
  refine W.widen (k := 1) (n := 4) (Nat.le_of_ble_eq_true rfl) (Nat.le_of_ble_eq_true rfl) ?_
  have hP := m_O_P hP2
  have hD := m_O_D hD2
  refine lv_dup hx hb d_Mo_alternative_12 rfl ?_
  refine lv_iconst (v := 0) hx hb d_Mo_alternative_13 (by decide) ?_
  refine lv_iconst (v := 0) hx hb d_Mo_alternative_14 (by decide) ?_
  refine m_ost hx hb hK hP2 hD2 hS (j := 0) (x := 0) (by unfold vp_in; decide) d_Mo_alternative_15 (fun H locs hP2 hD2 hS => ?_)
  generalize upd fo (Int32.toNatClampNeg 0) 0 = fo at hP2 hD2
  have hP := m_O_P hP2
  have hD := m_O_D hD2
  refine lv_dup hx hb d_Mo_alternative_16 rfl ?_
  refine lv_iconst (v := 1) hx hb d_Mo_alternative_17 (by decide) ?_
  refine lv_iconst (v := 0) hx hb d_Mo_alternative_18 (by decide) ?_
  refine m_ost hx hb hK hP2 hD2 hS (j := 1) (x := 0) (by unfold vp_in; decide) d_Mo_alternative_19 (fun H locs hP2 hD2 hS => ?_)
  generalize upd fo (Int32.toNatClampNeg 1) 0 = fo at hP2 hD2
  have hP := m_O_P hP2
  have hD := m_O_D hD2
  refine lv_dup hx hb d_Mo_alternative_20 rfl ?_
  refine lv_iconst (v := 2) hx hb d_Mo_alternative_21 (by decide) ?_
  refine lv_iconst (v := 0) hx hb d_Mo_alternative_22 (by decide) ?_
  refine m_ost hx hb hK hP2 hD2 hS (j := 2) (x := 0) (by unfold vp_in; decide) d_Mo_alternative_23 (fun H locs hP2 hD2 hS => ?_)
  generalize upd fo (Int32.toNatClampNeg 2) 0 = fo at hP2 hD2
  have hP := m_O_P hP2
  have hD := m_O_D hD2
  refine lv_dup hx hb d_Mo_alternative_24 rfl ?_
  refine lv_iconst (v := 3) hx hb d_Mo_alternative_25 (by decide) ?_
  refine lv_iconst (v := 0) hx hb d_Mo_alternative_26 (by decide) ?_
  refine m_ost hx hb hK hP2 hD2 hS (j := 3) (x := 0) (by unfold vp_in; decide) d_Mo_alternative_27 (fun H locs hP2 hD2 hS => ?_)
  generalize upd fo (Int32.toNatClampNeg 3) 0 = fo at hP2 hD2
  have hP := m_O_P hP2
  have hD := m_O_D hD2
  refine lv_astore (lv' := [(4, .ref qo), (3, .int (Int32.ofNat nn)), (0, .ref h0), (1, .int (Int32.ofNat tt)), (2, .int (Int32.ofNat pp))]) hx hb d_Mo_alternative_28 hl (by decide) rfl (fun ls hl => ?_)
  refine lv_iconst (v := 0) hx hb d_Mo_alternative_30 (by decide) ?_
  refine W.eq (g2 := F0 m 31 ls [.int (Int32.ofNat 0)]) rfl ?_
  refine lv_istore (lv' := [(5, .int (Int32.ofNat 0)), (4, .ref qo), (3, .int (Int32.ofNat nn)), (0, .ref h0), (1, .int (Int32.ofNat tt)), (2, .int (Int32.ofNat pp))]) hx hb d_Mo_alternative_31 hl (by decide) rfl (fun ls hl => ?_)
  refine x_cut 173 (fun H locs ls => ∃ (I1 : Nat → Int32) (A1 : Nat → Nat → Int32) (fo : Nat → Int32), m_fr [33, 44] I I1 ∧ m_fa [25] A A1 ∧ (I1 33 = 0 ∨ I1 33 = 3) ∧ (I1 33 = 0 → ∀ g, g < nn → ¬ fo g = 0 → ¬ A 1 (pp + 2 + g * 4 + 1) = -1) ∧ va_P (dC, dI) x_cl (m_O h0 ad ar I1 T A1 U qo fo) H ∧ va_D Bq (m_O h0 ad ar I1 T A1 U qo fo) ∧ va_S Bq s.heap H locs ∧ lv_has ls 8 [(0, .ref h0), (1, .int (Int32.ofNat tt)), (2, .int (Int32.ofNat pp)), (3, .int (Int32.ofNat nn)), (4, .ref qo)]) (fun H locs ls h9 => ?_) (fun h173 => ?_)
  · obtain ⟨I1, A1, fo, hfr, hfa, h33a, hon, hP2, hD2, hS, hl⟩ := h9
    have hP := m_O_P hP2
    have hD := m_O_D hD2
    rcases h33a with h33a | h33a
    · have hon := hon h33a
      refine lv_iconst (v := 0) hx hb d_Mo_alternative_173 (by decide) ?_
      refine W.eq (g2 := F0 m 174 ls [.int (Int32.ofNat 0)]) rfl ?_
      refine lv_istore (lv' := [(5, .int (Int32.ofNat 0)), (0, .ref h0), (1, .int (Int32.ofNat tt)), (2, .int (Int32.ofNat pp)), (3, .int (Int32.ofNat nn)), (4, .ref qo)]) hx hb d_Mo_alternative_174 hl (by decide) rfl (fun ls hl => ?_)
      refine x_while (fun n H locs ls => ∃ (I2 : Nat → Int32) (A2 : Nat → Nat → Int32) (g1 : Nat), n = nn - g1 ∧ g1 ≤ nn ∧ m_fr [33, 44] I I2 ∧ m_fa [25, 35, 36, 37] A A2 ∧ ((I2 33 = 0 ∧ ∃ st2 : Nat → Nat, m_RI A2 q V own pown bl role k9 pn br st2 ∧ (st2 tt = 0 ∨ st2 tt = 4)) ∨ I2 33 = 2) ∧ va_P (dC, dI) x_cl (m_O h0 ad ar I2 T A2 U qo fo) H ∧ va_D Bq (m_O h0 ad ar I2 T A2 U qo fo) ∧ va_S Bq s.heap H locs ∧ lv_has ls 8 [(0, .ref h0), (1, .int (Int32.ofNat tt)), (2, .int (Int32.ofNat pp)), (3, .int (Int32.ofNat nn)), (4, .ref qo), (5, .int (Int32.ofNat g1))]) (fun n ih H locs ls h9 => ?_) ⟨I1, A1, 0, rfl, Nat.zero_le _, hfr, m_fa.rf.tr hfa (by decide), Or.inl ⟨h33a, st, hri.fa hfa (by decide), Or.inl hst⟩, hP2, hD2, hS, lv_sub hl [1, 2, 3, 4, 5, 0] rfl⟩
      obtain ⟨I2, A2, g1, hn9, q1, hfr2, hfa2, h33b, hP2, hD2, hS, hl⟩ := h9
      have hP := m_O_P hP2
      have hD := m_O_D hD2
      rcases h33b with ⟨h33b, st2, hri2, hs2⟩ | h33b
      · refine lv_iload hx hb d_Mo_alternative_176 (lv_at hl 5 rfl) ?_
        refine lv_iload_n hx hb d_Mo_alternative_178 rfl (lv_at hl 3 rfl) ?_
        refine lv_icmp_ge (tgt := 245) hx hb d_Mo_alternative_179 (by decide) (fun c_1 => ?_) (fun c_1 => ?_)
        · have c_1 : nn ≤ g1 := (x_leN (a := nn) (b := g1) (by omega) (by omega)).mp c_1
          refine lv_aload_n hx hb d_Mo_alternative_245 rfl (lv_at hl 0 rfl) ?_
          refine lv_iconst (v := (-1)) hx hb d_Mo_alternative_246 (by decide) ?_
          refine m_p hx hb hts hown hK hP hD hS 30 (by decide) rfl (hts _ k_997) rfl (by decide +kernel) rfl (by decide) (x := (-1)) d_Mo_alternative_247 (fun H locs hP hD hS => ?_)
          refine W.widen (k := 1) (n := 4) (Nat.le_of_ble_eq_true rfl) (Nat.le_of_ble_eq_true rfl) ?_
          exact W.vret hx hb hr (fun t ht hW => ⟨⟨((upd I2 30 (-1)), T, A2, U), rfl, ⟨((m_fr.rf.tr hfr2 (by decide)).up (by decide) _), (m_fa.rf.tr hfa2 (by decide)), rfl, rfl, ⟨gv, hgv, ((hfr2 42 (by decide)).trans h42)⟩, fun _ => ⟨V, own, pown, bl, role, k9, q, pn, br, st2, ((hfr2 29 (by decide)).trans h29), hri2, Or.inl rfl⟩⟩, by dsimp only; rw [ht]; exact hP⟩, hS.F ht⟩) hS.2.2 d_Mo_alternative_250
        · have c_1 : ¬ nn ≤ g1 := fun h9 => c_1 ((x_leN (a := nn) (b := g1) (by omega) (by omega)).mpr h9)
          refine lv_aload_n hx hb d_Mo_alternative_182 rfl (lv_at hl 0 rfl) ?_
          refine m_g hx hb hts hown hK hP 33 (by decide) rfl (hts _ k_1000) (v := .int 0) (congrArg Value.int h33b) d_Mo_alternative_183 ?_
          refine lv_if_ne (tgt := 245) hx hb d_Mo_alternative_186 (by decide) (fun c_2 => absurd rfl c_2) (fun _ => ?_)
          refine lv_iload_n hx hb d_Mo_alternative_189 rfl (lv_at hl 2 rfl) ?_
          refine lv_iconst (v := 2) hx hb d_Mo_alternative_190 (by decide) ?_
          refine lv_iadd hx hb d_Mo_alternative_191 ?_
          refine W.eq (g2 := F0 m 192 ls [.int (Int32.ofNat (pp + 2))]) (by rw [← x_addN (a := pp) (b := 2)] <;> rfl) ?_
          refine lv_iload hx hb d_Mo_alternative_192 (lv_at hl 5 rfl) ?_
          refine lv_iconst (v := 4) hx hb d_Mo_alternative_194 (by decide) ?_
          refine lv_imul hx hb d_Mo_alternative_195 ?_
          refine W.eq (g2 := F0 m 196 ls [.int (Int32.ofNat (g1 * 4)), .int (Int32.ofNat (pp + 2))]) (by rw [← x_mulN (a := g1) (b := 4)] <;> rfl) ?_
          refine lv_iadd hx hb d_Mo_alternative_196 ?_
          refine W.eq (g2 := F0 m 197 ls [.int (Int32.ofNat ((pp + 2) + (g1 * 4)))]) (by rw [← x_addN (a := (pp + 2)) (b := (g1 * 4))] <;> rfl) ?_
          refine lv_istore (lv' := [(6, .int (Int32.ofNat ((pp + 2) + (g1 * 4)))), (0, .ref h0), (1, .int (Int32.ofNat tt)), (2, .int (Int32.ofNat pp)), (3, .int (Int32.ofNat nn)), (4, .ref qo), (5, .int (Int32.ofNat g1))]) hx hb d_Mo_alternative_197 hl (by decide) rfl (fun ls hl => ?_)
          refine lv_aload hx hb d_Mo_alternative_199 (lv_at hl 5 rfl) ?_
          refine lv_iload hx hb d_Mo_alternative_201 (lv_at hl 6 rfl) ?_
          refine m_old hx hb hK hP2 (j := (Int32.ofNat g1)) (x_inN (by omega) (by decide)) d_Mo_alternative_203 ?_
          refine W.eq (g2 := F0 m 204 ls [.int (fo g1)]) (by rw [x_nat (a := g1) (by omega)]) ?_
          refine lv_if_eq (tgt := 239) hx hb d_Mo_alternative_204 (by decide) (fun c_3 => ?_) (fun c_3 => ?_)
          · refine lv_iinc (v := (Int32.ofNat (g1 + 1))) (lv' := [(5, .int (Int32.ofNat (g1 + 1))), (6, .int (Int32.ofNat ((pp + 2) + (g1 * 4)))), (0, .ref h0), (1, .int (Int32.ofNat tt)), (2, .int (Int32.ofNat pp)), (3, .int (Int32.ofNat nn)), (4, .ref qo)]) hx hb d_Mo_alternative_239 hl (k := 6) rfl (x_incN g1) (by decide) rfl (fun ls hl => ?_)
            refine lv_goto (tgt := 176) hx hb d_Mo_alternative_242 (by decide) ?_
            exact ih (nn - (g1 + 1)) (by omega) H locs ls ⟨I2, A2, g1 + 1, rfl, by omega, hfr2, hfa2, Or.inl ⟨h33b, st2, hri2, hs2⟩, hP2, hD2, hS, lv_sub hl [2, 3, 4, 5, 6, 0] rfl⟩
          · obtain ⟨e9, q9, x9, r0, rq, rt, r24, r3, rV, ro, rc⟩ := hrow g1 (by omega)
            obtain ⟨c9, v9, rc1, rc2, rc3, rc4⟩ := rc.resolve_left (hon g1 (by omega) c_3)
            refine lv_aload_n hx hb d_Mo_alternative_207 rfl (lv_at hl 1 rfl) ?_
            refine lv_aload_n hx hb d_Mo_alternative_208 rfl (lv_at hl 1 rfl) ?_
            refine m_g hx hb hts hown hK hP 1 (by decide) rfl (hts _ k_968) (v := .ref (ad 1)) rfl d_Mo_alternative_209 ?_
            refine lv_iload hx hb d_Mo_alternative_212 (lv_at hl 0 rfl) ?_
            refine lv_iconst (v := 1) hx hb d_Mo_alternative_214 (by decide) ?_
            refine lv_iadd hx hb d_Mo_alternative_215 ?_
            refine W.eq (g2 := F0 m 216 ls [.int (Int32.ofNat (((pp + 2) + (g1 * 4)) + 1)), .ref (ad 1), .ref h0]) (by rw [← x_addN (a := ((pp + 2) + (g1 * 4))) (b := 1)] <;> rfl) ?_
            refine m_ld hx hb hK hP 1 rfl (by decide) (j := (Int32.ofNat (((pp + 2) + (g1 * 4)) + 1))) (x_inN (by omega) (by decide)) d_Mo_alternative_216 ?_
            refine W.eq (g2 := F0 m 217 ls [.int (Int32.ofNat c9), .ref h0]) (by rw [x_nat (a := (((pp + 2) + (g1 * 4)) + 1)) (by omega), show A2 1 ((((pp + 2) + (g1 * 4)) + 1)) = (Int32.ofNat c9) from (by rw [hfa2 1 (by decide)]; exact rc1)]) ?_
            refine lv_iload_n hx hb d_Mo_alternative_217 rfl (lv_at hl 2 rfl) ?_
            refine lv_aload_n hx hb d_Mo_alternative_218 rfl (lv_at hl 1 rfl) ?_
            refine m_g hx hb hts hown hK hP 1 (by decide) rfl (hts _ k_968) (v := .ref (ad 1)) rfl d_Mo_alternative_219 ?_
            refine lv_iload hx hb d_Mo_alternative_222 (lv_at hl 0 rfl) ?_
            refine lv_iconst (v := 2) hx hb d_Mo_alternative_224 (by decide) ?_
            refine lv_iadd hx hb d_Mo_alternative_225 ?_
            refine W.eq (g2 := F0 m 226 ls [.int (Int32.ofNat (((pp + 2) + (g1 * 4)) + 2)), .ref (ad 1), .int (Int32.ofNat tt), .int (Int32.ofNat c9), .ref h0]) (by rw [← x_addN (a := ((pp + 2) + (g1 * 4))) (b := 2)] <;> rfl) ?_
            refine m_ld hx hb hK hP 1 rfl (by decide) (j := (Int32.ofNat (((pp + 2) + (g1 * 4)) + 2))) (x_inN (by omega) (by decide)) d_Mo_alternative_226 ?_
            refine W.eq (g2 := F0 m 227 ls [.int (Int32.ofNat v9), .int (Int32.ofNat tt), .int (Int32.ofNat c9), .ref h0]) (by rw [x_nat (a := (((pp + 2) + (g1 * 4)) + 2)) (by omega), show A2 1 ((((pp + 2) + (g1 * 4)) + 2)) = (Int32.ofNat v9) from (by rw [hfa2 1 (by decide)]; exact rc3)]) ?_
            refine lv_aload_n hx hb d_Mo_alternative_227 rfl (lv_at hl 1 rfl) ?_
            refine m_g hx hb hts hown hK hP 1 (by decide) rfl (hts _ k_968) (v := .ref (ad 1)) rfl d_Mo_alternative_228 ?_
            refine lv_iload hx hb d_Mo_alternative_231 (lv_at hl 0 rfl) ?_
            refine lv_iconst (v := 3) hx hb d_Mo_alternative_233 (by decide) ?_
            refine lv_iadd hx hb d_Mo_alternative_234 ?_
            refine W.eq (g2 := F0 m 235 ls [.int (Int32.ofNat (((pp + 2) + (g1 * 4)) + 3)), .ref (ad 1), .int (Int32.ofNat v9), .int (Int32.ofNat tt), .int (Int32.ofNat c9), .ref h0]) (by rw [← x_addN (a := ((pp + 2) + (g1 * 4))) (b := 3)] <;> rfl) ?_
            refine m_ld hx hb hK hP 1 rfl (by decide) (j := (Int32.ofNat (((pp + 2) + (g1 * 4)) + 3))) (x_inN (by omega) (by decide)) d_Mo_alternative_235 ?_
            refine W.eq (g2 := F0 m 236 ls [.int (Int32.ofNat x9), .int (Int32.ofNat v9), .int (Int32.ofNat tt), .int (Int32.ofNat c9), .ref h0]) (by rw [x_nat (a := (((pp + 2) + (g1 * 4)) + 3)) (by omega), show A2 1 ((((pp + 2) + (g1 * 4)) + 3)) = (Int32.ofNat x9) from (by rw [hfa2 1 (by decide)]; exact r3)]) ?_
            have hFc := m_free hD hS hA
            refine va_callv (va_runV (As := [.int (Int32.ofNat c9), .int (Int32.ofNat tt), .int (Int32.ofNat v9), .int (Int32.ofNat x9)]) (rest := []) ⟨hx, hb, hml, hown, hts⟩ (m_await l dC dI ar N0 z h0 ad I2 T A2 U c9 ((Int32.ofNat tt)) ((Int32.ofNat v9)) ((Int32.ofNat x9)) H.size (by omega)) (cwV 4 hts (x_goodV k_1258 k_1260 kp_79 k_9 k_1261) rfl rfl rfl (by decide +kernel) ⟨Nat.le_of_ble_eq_true rfl, Nat.le_of_ble_eq_true rfl⟩) ⟨x_blind, va_recv hK hP (ci := 6) (q0 := 0) rfl rfl, fun U9 hU9 hW9 => x_pre hU9 hW9 hP hD hU hZ hS hAN hN0⟩ rfl rfl hl.1 rfl (lv_room (Nat.le_of_ble_eq_true rfl)) d_Mo_alternative_236 ⟨Nat.le_of_ble_eq_true rfl, Nat.le_of_ble_eq_true rfl⟩) hS (fun q _ h => hFc q h) hFc (fun u t H1 locs ht hvm hw hB hz1 hk1 hS => ?_)
            obtain ⟨I5, T5, A5, U5⟩ := u
            dsimp only at hw hB
            rw [ht] at hB
            have hP : va_P (dC, dI) x_cl (m_W h0 ad ar I5 T5 A5 U5) H1 := hB
            have hD : va_D Bq (m_W h0 ad ar I5 T5 A5 U5) := m_D hD
            obtain ⟨hP2, hD2⟩ := m_O_keep hP2 hD2 hk1 hP
            generalize H1 = H at hP hP2 hS ⊢
            refine W.widen (k := 1) (n := 4) (Nat.le_of_ble_eq_true rfl) (Nat.le_of_ble_eq_true rfl) ?_
            rcases hw with ⟨hlt9, h9⟩ | ⟨hlt9, h9 | h9⟩
            · cases h9
              have hP : va_P (dC, dI) x_cl (m_W h0 ad ar I2 T (m_up (m_up (m_up A2 35 (upd (A2 35) c9 (Int32.ofNat tt))) 36 (upd (A2 36) c9 (Int32.ofNat v9))) 37 (upd (A2 37) c9 (Int32.ofNat x9))) U) H := hP
              have hD : va_D Bq (m_W h0 ad ar I2 T (m_up (m_up (m_up A2 35 (upd (A2 35) c9 (Int32.ofNat tt))) 36 (upd (A2 36) c9 (Int32.ofNat v9))) 37 (upd (A2 37) c9 (Int32.ofNat x9))) U) := hD
              refine lv_iinc (v := (Int32.ofNat (g1 + 1))) (lv' := [(5, .int (Int32.ofNat (g1 + 1))), (6, .int (Int32.ofNat ((pp + 2) + (g1 * 4)))), (0, .ref h0), (1, .int (Int32.ofNat tt)), (2, .int (Int32.ofNat pp)), (3, .int (Int32.ofNat nn)), (4, .ref qo)]) hx hb d_Mo_alternative_239 hl (k := 6) rfl (x_incN g1) (by decide) rfl (fun ls hl => ?_)
              refine lv_goto (tgt := 176) hx hb d_Mo_alternative_242 (by decide) ?_
              exact ih (nn - (g1 + 1)) (by omega) H locs ls ⟨I2, (m_up (m_up (m_up A2 35 (upd (A2 35) c9 (Int32.ofNat tt))) 36 (upd (A2 36) c9 (Int32.ofNat v9))) 37 (upd (A2 37) c9 (Int32.ofNat x9))), g1 + 1, rfl, by omega, hfr2, (((hfa2.up (by decide) _).up (by decide) _).up (by decide) _), Or.inl ⟨h33b, _, hri2.read (A' := (m_up (m_up (m_up A2 35 (upd (A2 35) c9 (Int32.ofNat tt))) 36 (upd (A2 36) c9 (Int32.ofNat v9))) 37 (upd (A2 37) c9 (Int32.ofNat x9)))) htt (by unfold m_al; rw [hfa2 27 (by decide)]; exact hal) hs2 (by rw [hfa2 27 (by decide), hfa2 21 (by decide)]; exact hk) (by omega) rc4 rV ro rfl rfl rfl rfl rfl rfl rfl rfl rfl rfl rfl, Or.inr (if_pos rfl)⟩, hP2, hD2, hS, lv_sub hl [2, 3, 4, 5, 6, 0] rfl⟩
            · cases h9
              refine lv_iinc (v := (Int32.ofNat (g1 + 1))) (lv' := [(5, .int (Int32.ofNat (g1 + 1))), (6, .int (Int32.ofNat ((pp + 2) + (g1 * 4)))), (0, .ref h0), (1, .int (Int32.ofNat tt)), (2, .int (Int32.ofNat pp)), (3, .int (Int32.ofNat nn)), (4, .ref qo)]) hx hb d_Mo_alternative_239 hl (k := 6) rfl (x_incN g1) (by decide) rfl (fun ls hl => ?_)
              refine lv_goto (tgt := 176) hx hb d_Mo_alternative_242 (by decide) ?_
              exact ih (nn - (g1 + 1)) (by omega) H locs ls ⟨I2, A2, g1 + 1, rfl, by omega, hfr2, hfa2, Or.inl ⟨h33b, st2, hri2, hs2⟩, hP2, hD2, hS, lv_sub hl [2, 3, 4, 5, 6, 0] rfl⟩
            · cases h9
              refine lv_iinc (v := (Int32.ofNat (g1 + 1))) (lv' := [(5, .int (Int32.ofNat (g1 + 1))), (6, .int (Int32.ofNat ((pp + 2) + (g1 * 4)))), (0, .ref h0), (1, .int (Int32.ofNat tt)), (2, .int (Int32.ofNat pp)), (3, .int (Int32.ofNat nn)), (4, .ref qo)]) hx hb d_Mo_alternative_239 hl (k := 6) rfl (x_incN g1) (by decide) rfl (fun ls hl => ?_)
              refine lv_goto (tgt := 176) hx hb d_Mo_alternative_242 (by decide) ?_
              exact ih (nn - (g1 + 1)) (by omega) H locs ls ⟨(upd I2 33 2), A2, g1 + 1, rfl, by omega, (hfr2.up (by decide) _), hfa2, Or.inr rfl, hP2, hD2, hS, lv_sub hl [2, 3, 4, 5, 6, 0] rfl⟩
      · refine lv_iload hx hb d_Mo_alternative_176 (lv_at hl 5 rfl) ?_
        refine lv_iload_n hx hb d_Mo_alternative_178 rfl (lv_at hl 3 rfl) ?_
        refine lv_icmp_ge (tgt := 245) hx hb d_Mo_alternative_179 (by decide) (fun c_6 => ?_) (fun c_6 => ?_)
        · have c_6 : nn ≤ g1 := (x_leN (a := nn) (b := g1) (by omega) (by omega)).mp c_6
          refine lv_aload_n hx hb d_Mo_alternative_245 rfl (lv_at hl 0 rfl) ?_
          refine lv_iconst (v := (-1)) hx hb d_Mo_alternative_246 (by decide) ?_
          refine m_p hx hb hts hown hK hP hD hS 30 (by decide) rfl (hts _ k_997) rfl (by decide +kernel) rfl (by decide) (x := (-1)) d_Mo_alternative_247 (fun H locs hP hD hS => ?_)
          refine W.widen (k := 1) (n := 4) (Nat.le_of_ble_eq_true rfl) (Nat.le_of_ble_eq_true rfl) ?_
          exact W.vret hx hb hr (fun t ht hW => ⟨⟨((upd I2 30 (-1)), T, A2, U), rfl, ⟨((m_fr.rf.tr hfr2 (by decide)).up (by decide) _), (m_fa.rf.tr hfa2 (by decide)), rfl, rfl, ⟨gv, hgv, ((hfr2 42 (by decide)).trans h42)⟩, fun h9 => absurd (h9.symm.trans h33b) (by decide)⟩, by dsimp only; rw [ht]; exact hP⟩, hS.F ht⟩) hS.2.2 d_Mo_alternative_250
        · have c_6 : ¬ nn ≤ g1 := fun h9 => c_6 ((x_leN (a := nn) (b := g1) (by omega) (by omega)).mpr h9)
          refine lv_aload_n hx hb d_Mo_alternative_182 rfl (lv_at hl 0 rfl) ?_
          refine m_g hx hb hts hown hK hP 33 (by decide) rfl (hts _ k_1000) (v := .int 2) (congrArg Value.int h33b) d_Mo_alternative_183 ?_
          refine lv_if_ne (tgt := 245) hx hb d_Mo_alternative_186 (by decide) (fun _ => ?_) (fun c_7 => absurd c_7 (by decide))
          refine lv_aload_n hx hb d_Mo_alternative_245 rfl (lv_at hl 0 rfl) ?_
          refine lv_iconst (v := (-1)) hx hb d_Mo_alternative_246 (by decide) ?_
          refine m_p hx hb hts hown hK hP hD hS 30 (by decide) rfl (hts _ k_997) rfl (by decide +kernel) rfl (by decide) (x := (-1)) d_Mo_alternative_247 (fun H locs hP hD hS => ?_)
          refine W.widen (k := 1) (n := 4) (Nat.le_of_ble_eq_true rfl) (Nat.le_of_ble_eq_true rfl) ?_
          exact W.vret hx hb hr (fun t ht hW => ⟨⟨((upd I2 30 (-1)), T, A2, U), rfl, ⟨((m_fr.rf.tr hfr2 (by decide)).up (by decide) _), (m_fa.rf.tr hfa2 (by decide)), rfl, rfl, ⟨gv, hgv, ((hfr2 42 (by decide)).trans h42)⟩, fun h9 => absurd (h9.symm.trans h33b) (by decide)⟩, by dsimp only; rw [ht]; exact hP⟩, hS.F ht⟩) hS.2.2 d_Mo_alternative_250
    · refine lv_iconst (v := 0) hx hb d_Mo_alternative_173 (by decide) ?_
      refine W.eq (g2 := F0 m 174 ls [.int (Int32.ofNat 0)]) rfl ?_
      refine lv_istore (lv' := [(5, .int (Int32.ofNat 0)), (0, .ref h0), (1, .int (Int32.ofNat tt)), (2, .int (Int32.ofNat pp)), (3, .int (Int32.ofNat nn)), (4, .ref qo)]) hx hb d_Mo_alternative_174 hl (by decide) rfl (fun ls hl => ?_)
      refine lv_iload hx hb d_Mo_alternative_176 (lv_at hl 0 rfl) ?_
      refine lv_iload_n hx hb d_Mo_alternative_178 rfl (lv_at hl 4 rfl) ?_
      refine lv_icmp_ge (tgt := 245) hx hb d_Mo_alternative_179 (by decide) (fun c_8 => ?_) (fun c_8 => ?_)
      · have c_8 : nn ≤ 0 := (x_leN (a := nn) (b := 0) (by omega) (by omega)).mp c_8
        refine lv_aload_n hx hb d_Mo_alternative_245 rfl (lv_at hl 1 rfl) ?_
        refine lv_iconst (v := (-1)) hx hb d_Mo_alternative_246 (by decide) ?_
        refine m_p hx hb hts hown hK hP hD hS 30 (by decide) rfl (hts _ k_997) rfl (by decide +kernel) rfl (by decide) (x := (-1)) d_Mo_alternative_247 (fun H locs hP hD hS => ?_)
        refine W.widen (k := 1) (n := 4) (Nat.le_of_ble_eq_true rfl) (Nat.le_of_ble_eq_true rfl) ?_
        exact W.vret hx hb hr (fun t ht hW => ⟨⟨((upd I1 30 (-1)), T, A1, U), rfl, ⟨((m_fr.rf.tr hfr (by decide)).up (by decide) _), (m_fa.rf.tr hfa (by decide)), rfl, rfl, ⟨gv, hgv, ((hfr 42 (by decide)).trans h42)⟩, fun h9 => absurd (h9.symm.trans h33a) (by decide)⟩, by dsimp only; rw [ht]; exact hP⟩, hS.F ht⟩) hS.2.2 d_Mo_alternative_250
      · have c_8 : ¬ nn ≤ 0 := fun h9 => c_8 ((x_leN (a := nn) (b := 0) (by omega) (by omega)).mpr h9)
        refine lv_aload_n hx hb d_Mo_alternative_182 rfl (lv_at hl 1 rfl) ?_
        refine m_g hx hb hts hown hK hP 33 (by decide) rfl (hts _ k_1000) (v := .int 3) (congrArg Value.int h33a) d_Mo_alternative_183 ?_
        refine lv_if_ne (tgt := 245) hx hb d_Mo_alternative_186 (by decide) (fun _ => ?_) (fun c_9 => absurd c_9 (by decide))
        refine lv_aload_n hx hb d_Mo_alternative_245 rfl (lv_at hl 1 rfl) ?_
        refine lv_iconst (v := (-1)) hx hb d_Mo_alternative_246 (by decide) ?_
        refine m_p hx hb hts hown hK hP hD hS 30 (by decide) rfl (hts _ k_997) rfl (by decide +kernel) rfl (by decide) (x := (-1)) d_Mo_alternative_247 (fun H locs hP hD hS => ?_)
        refine W.widen (k := 1) (n := 4) (Nat.le_of_ble_eq_true rfl) (Nat.le_of_ble_eq_true rfl) ?_
        exact W.vret hx hb hr (fun t ht hW => ⟨⟨((upd I1 30 (-1)), T, A1, U), rfl, ⟨((m_fr.rf.tr hfr (by decide)).up (by decide) _), (m_fa.rf.tr hfa (by decide)), rfl, rfl, ⟨gv, hgv, ((hfr 42 (by decide)).trans h42)⟩, fun h9 => absurd (h9.symm.trans h33a) (by decide)⟩, by dsimp only; rw [ht]; exact hP⟩, hS.F ht⟩) hS.2.2 d_Mo_alternative_250
  · refine x_cut 74 (fun H locs ls => ∃ (I1 : Nat → Int32) (A1 : Nat → Nat → Int32) (fo : Nat → Int32), m_fr [33, 44] I I1 ∧ m_fa [25] A A1 ∧ (I1 33 = 0 ∨ I1 33 = 3) ∧ va_P (dC, dI) x_cl (m_O h0 ad ar I1 T A1 U qo fo) H ∧ va_D Bq (m_O h0 ad ar I1 T A1 U qo fo) ∧ va_S Bq s.heap H locs ∧ lv_has ls 8 [(0, .ref h0), (1, .int (Int32.ofNat tt)), (2, .int (Int32.ofNat pp)), (3, .int (Int32.ofNat nn)), (4, .ref qo)]) (fun H locs ls h9 => ?_) (fun h74 => ?_)
    · obtain ⟨I1, A1, fo, hfr, hfa, h33a, hP2, hD2, hS, hl⟩ := h9
      have hP := m_O_P hP2
      have hD := m_O_D hD2
      rcases h33a with h33a | h33a
      · have hri1 := hri.fa hfa (by decide)
        refine lv_iconst (v := 0) hx hb d_Mo_alternative_74 (by decide) ?_
        refine W.eq (g2 := F0 m 75 ls [.int (Int32.ofNat 0)]) rfl ?_
        refine lv_istore (lv' := [(5, .int (Int32.ofNat 0)), (0, .ref h0), (1, .int (Int32.ofNat tt)), (2, .int (Int32.ofNat pp)), (3, .int (Int32.ofNat nn)), (4, .ref qo)]) hx hb d_Mo_alternative_75 hl (by decide) rfl (fun ls hl => ?_)
        refine x_while (fun n H locs ls => ∃ g1 : Nat, n = nn - g1 ∧ g1 ≤ nn ∧ (∀ g, g < g1 → ¬ fo g = 0 → ¬ A 1 (pp + 2 + g * 4 + 1) = -1) ∧ va_P (dC, dI) x_cl (m_O h0 ad ar I1 T A1 U qo fo) H ∧ va_D Bq (m_O h0 ad ar I1 T A1 U qo fo) ∧ va_S Bq s.heap H locs ∧ lv_has ls 8 [(0, .ref h0), (1, .int (Int32.ofNat tt)), (2, .int (Int32.ofNat pp)), (3, .int (Int32.ofNat nn)), (4, .ref qo), (5, .int (Int32.ofNat g1))]) (fun n ih H locs ls h9 => ?_) ⟨0, rfl, Nat.zero_le _, fun g hg => absurd hg (Nat.not_lt_zero g), hP2, hD2, hS, lv_sub hl [1, 2, 3, 4, 5, 0] rfl⟩
        obtain ⟨g1, hn9, q1, hon, hP2, hD2, hS, hl⟩ := h9
        have hP := m_O_P hP2
        have hD := m_O_D hD2
        refine lv_iload hx hb d_Mo_alternative_77 (lv_at hl 5 rfl) ?_
        refine lv_iload_n hx hb d_Mo_alternative_79 rfl (lv_at hl 3 rfl) ?_
        refine lv_icmp_ge (tgt := 173) hx hb d_Mo_alternative_80 (by decide) (fun c_10 => ?_) (fun c_10 => ?_)
        · have c_10 : nn ≤ g1 := (x_leN (a := nn) (b := g1) (by omega) (by omega)).mp c_10
          exact h173 H locs ls ⟨I1, A1, fo, hfr, hfa, Or.inl h33a, fun _ g hg => hon g (by omega), hP2, hD2, hS, lv_sub hl [0, 1, 2, 3, 4] rfl⟩
        · have c_10 : ¬ nn ≤ g1 := fun h9 => c_10 ((x_leN (a := nn) (b := g1) (by omega) (by omega)).mpr h9)
          refine lv_aload_n hx hb d_Mo_alternative_83 rfl (lv_at hl 0 rfl) ?_
          refine m_g hx hb hts hown hK hP 33 (by decide) rfl (hts _ k_1000) (v := .int 0) (congrArg Value.int h33a) d_Mo_alternative_84 ?_
          refine lv_if_ne (tgt := 173) hx hb d_Mo_alternative_87 (by decide) (fun c_11 => absurd rfl c_11) (fun _ => ?_)
          obtain ⟨e9, q9, x9, r0, rq, rt, r24, r3, rV, ro, rc⟩ := hrow g1 (by omega)
          rcases rc with rc | ⟨c9, v9, rc1, rc2, rc3, rc4⟩
          · refine lv_iload_n hx hb d_Mo_alternative_90 rfl (lv_at hl 2 rfl) ?_
            refine lv_iconst (v := 2) hx hb d_Mo_alternative_91 (by decide) ?_
            refine lv_iadd hx hb d_Mo_alternative_92 ?_
            refine W.eq (g2 := F0 m 93 ls [.int (Int32.ofNat (pp + 2))]) (by rw [← x_addN (a := pp) (b := 2)] <;> rfl) ?_
            refine lv_iload hx hb d_Mo_alternative_93 (lv_at hl 5 rfl) ?_
            refine lv_iconst (v := 4) hx hb d_Mo_alternative_95 (by decide) ?_
            refine lv_imul hx hb d_Mo_alternative_96 ?_
            refine W.eq (g2 := F0 m 97 ls [.int (Int32.ofNat (g1 * 4)), .int (Int32.ofNat (pp + 2))]) (by rw [← x_mulN (a := g1) (b := 4)] <;> rfl) ?_
            refine lv_iadd hx hb d_Mo_alternative_97 ?_
            refine W.eq (g2 := F0 m 98 ls [.int (Int32.ofNat ((pp + 2) + (g1 * 4)))]) (by rw [← x_addN (a := (pp + 2)) (b := (g1 * 4))] <;> rfl) ?_
            refine lv_istore (lv' := [(6, .int (Int32.ofNat ((pp + 2) + (g1 * 4)))), (0, .ref h0), (1, .int (Int32.ofNat tt)), (2, .int (Int32.ofNat pp)), (3, .int (Int32.ofNat nn)), (4, .ref qo), (5, .int (Int32.ofNat g1))]) hx hb d_Mo_alternative_98 hl (by decide) rfl (fun ls hl => ?_)
            refine lv_aload_n hx hb d_Mo_alternative_100 rfl (lv_at hl 1 rfl) ?_
            refine m_g hx hb hts hown hK hP 1 (by decide) rfl (hts _ k_968) (v := .ref (ad 1)) rfl d_Mo_alternative_101 ?_
            refine lv_iload hx hb d_Mo_alternative_104 (lv_at hl 0 rfl) ?_
            refine lv_iconst (v := 1) hx hb d_Mo_alternative_106 (by decide) ?_
            refine lv_iadd hx hb d_Mo_alternative_107 ?_
            refine W.eq (g2 := F0 m 108 ls [.int (Int32.ofNat (((pp + 2) + (g1 * 4)) + 1)), .ref (ad 1)]) (by rw [← x_addN (a := ((pp + 2) + (g1 * 4))) (b := 1)] <;> rfl) ?_
            refine m_ld hx hb hK hP 1 rfl (by decide) (j := (Int32.ofNat (((pp + 2) + (g1 * 4)) + 1))) (x_inN (by omega) (by decide)) d_Mo_alternative_108 ?_
            refine W.eq (g2 := F0 m 109 ls [.int (-1)]) (by rw [x_nat (a := (((pp + 2) + (g1 * 4)) + 1)) (by omega), show A1 1 ((((pp + 2) + (g1 * 4)) + 1)) = (-1) from (by rw [hfa 1 (by decide)]; exact rc)]) ?_
            refine lv_istore (lv' := [(7, .int (-1)), (6, .int (Int32.ofNat ((pp + 2) + (g1 * 4)))), (0, .ref h0), (1, .int (Int32.ofNat tt)), (2, .int (Int32.ofNat pp)), (3, .int (Int32.ofNat nn)), (4, .ref qo), (5, .int (Int32.ofNat g1))]) hx hb d_Mo_alternative_109 hl (by decide) rfl (fun ls hl => ?_)
            refine lv_aload hx hb d_Mo_alternative_111 (lv_at hl 6 rfl) ?_
            refine lv_iload hx hb d_Mo_alternative_113 (lv_at hl 7 rfl) ?_
            refine m_old hx hb hK hP2 (j := (Int32.ofNat g1)) (x_inN (by omega) (by decide)) d_Mo_alternative_115 ?_
            refine W.eq (g2 := F0 m 116 ls [.int (fo g1)]) (by rw [x_nat (a := g1) (by omega)]) ?_
            refine lv_if_eq (tgt := 167) hx hb d_Mo_alternative_116 (by decide) (fun c_12 => ?_) (fun c_12 => ?_)
            · refine lv_iinc (v := (Int32.ofNat (g1 + 1))) (lv' := [(5, .int (Int32.ofNat (g1 + 1))), (7, .int (-1)), (6, .int (Int32.ofNat ((pp + 2) + (g1 * 4)))), (0, .ref h0), (1, .int (Int32.ofNat tt)), (2, .int (Int32.ofNat pp)), (3, .int (Int32.ofNat nn)), (4, .ref qo)]) hx hb d_Mo_alternative_167 hl (k := 7) rfl (x_incN g1) (by decide) rfl (fun ls hl => ?_)
              refine lv_goto (tgt := 77) hx hb d_Mo_alternative_170 (by decide) ?_
              exact ih (nn - (g1 + 1)) (by omega) H locs ls ⟨g1 + 1, rfl, by omega, fun g hg h8 => (if e : g = g1 then (by subst e; exact absurd c_12 h8) else hon g (by omega) h8), hP2, hD2, hS, lv_sub hl [3, 4, 5, 6, 7, 0] rfl⟩
            · refine lv_aload_n hx hb d_Mo_alternative_119 rfl (lv_at hl 2 rfl) ?_
              refine lv_iload hx hb d_Mo_alternative_120 (lv_at hl 0 rfl) ?_
              have hFc := m_free hD hS hA
              refine va_calli (va_runV (As := [.int (-1)]) (rest := []) ⟨hx, hb, hml, hown, hts⟩ (m_ready l dC dI ar N0 z h0 ad I1 T A1 U gv ((-1)) H.size ((hfr 42 (by decide)).trans h42) hgv (Or.inl rfl)) (cwV 1 hts (x_goodV k_1250 k_1252 kp_77 k_9 k_1253) rfl rfl rfl (by decide +kernel) ⟨Nat.le_of_ble_eq_true rfl, Nat.le_of_ble_eq_true rfl⟩) ⟨x_blind, va_recv hK hP (ci := 6) (q0 := 0) rfl rfl, fun U9 hU9 hW9 => x_pre hU9 hW9 hP hD hU hZ hS hAN hN0⟩ rfl rfl hl.1 rfl (lv_room (Nat.le_of_ble_eq_true rfl)) d_Mo_alternative_122 ⟨Nat.le_of_ble_eq_true rfl, Nat.le_of_ble_eq_true rfl⟩) hS (fun q _ h => hFc q h) hFc (fun r_13 u t H1 locs ht hvm hw hB hz1 hk1 hS => ?_)
              obtain ⟨I15, T15, A15, U15⟩ := u
              dsimp only at hw hB
              rw [ht] at hB
              have hP : va_P (dC, dI) x_cl (m_W h0 ad ar I15 T15 A15 U15) H1 := hB
              have hD : va_D Bq (m_W h0 ad ar I15 T15 A15 U15) := m_D hD
              obtain ⟨hP2, hD2⟩ := m_O_keep hP2 hD2 hk1 hP
              generalize H1 = H at hP hP2 hS ⊢
              refine W.widen (k := 1) (n := 4) (Nat.le_of_ble_eq_true rfl) (Nat.le_of_ble_eq_true rfl) ?_
              obtain ⟨h9, hrd⟩ := hw
              cases h9
              rcases hrd with ⟨rfl, hrd⟩ | ⟨rfl, hno⟩
              · refine lv_if_ne (tgt := 131) hx hb d_Mo_alternative_125 (by decide) (fun _ => ?_) (fun c_16 => absurd c_16 (by decide))
                refine lv_iload hx hb d_Mo_alternative_131 (lv_at hl 0 rfl) ?_
                refine lv_if_lt (tgt := 151) hx hb d_Mo_alternative_133 (by decide) (fun _ => ?_) (fun c_17 => absurd (by decide) c_17)
                refine lv_aload_n hx hb d_Mo_alternative_151 rfl (lv_at hl 2 rfl) ?_
                refine m_g hx hb hts hown hK hP 20 (by decide) rfl (hts _ k_987) (v := .ref (ad 20)) rfl d_Mo_alternative_152 ?_
                refine lv_iload_n hx hb d_Mo_alternative_155 rfl (lv_at hl 3 rfl) ?_
                refine lv_aload_n hx hb d_Mo_alternative_156 rfl (lv_at hl 2 rfl) ?_
                refine m_g hx hb hts hown hK hP 1 (by decide) rfl (hts _ k_968) (v := .ref (ad 1)) rfl d_Mo_alternative_157 ?_
                refine lv_iload hx hb d_Mo_alternative_160 (lv_at hl 1 rfl) ?_
                refine lv_iconst (v := 3) hx hb d_Mo_alternative_162 (by decide) ?_
                refine lv_iadd hx hb d_Mo_alternative_163 ?_
                refine W.eq (g2 := F0 m 164 ls [.int (Int32.ofNat (((pp + 2) + (g1 * 4)) + 3)), .ref (ad 1), .int (Int32.ofNat tt), .ref (ad 20)]) (by rw [← x_addN (a := ((pp + 2) + (g1 * 4))) (b := 3)] <;> rfl) ?_
                refine m_ld hx hb hK hP 1 rfl (by decide) (j := (Int32.ofNat (((pp + 2) + (g1 * 4)) + 3))) (x_inN (by omega) (by decide)) d_Mo_alternative_164 ?_
                refine W.eq (g2 := F0 m 165 ls [.int (Int32.ofNat x9), .int (Int32.ofNat tt), .ref (ad 20)]) (by rw [x_nat (a := (((pp + 2) + (g1 * 4)) + 3)) (by omega), show A1 1 ((((pp + 2) + (g1 * 4)) + 3)) = (Int32.ofNat x9) from (by show A1 1 _ = _; rw [hfa 1 (by decide)]; exact r3)]) ?_
                refine m_st hx hb hK hP hD hS 12 rfl (by decide) (j := (Int32.ofNat tt)) (x := (Int32.ofNat x9)) (x_inN (by omega) (by decide)) d_Mo_alternative_165 (fun H locs hP hD hS => ?_)
                rw [x_nat (a := tt) (by omega)] at hP hD
                have hP : va_P (dC, dI) x_cl (m_W h0 ad ar I1 T (m_up A1 20 (upd (A1 20) tt (Int32.ofNat x9))) U) H := hP
                have hD : va_D Bq (m_W h0 ad ar I1 T (m_up A1 20 (upd (A1 20) tt (Int32.ofNat x9))) U) := hD
                refine W.widen (k := 1) (n := 4) (Nat.le_of_ble_eq_true rfl) (Nat.le_of_ble_eq_true rfl) ?_
                exact W.vret hx hb hr (fun t ht hW => ⟨⟨(I1, T, (m_up A1 20 (upd (A1 20) tt (Int32.ofNat x9))), U), rfl, ⟨(m_fr.rf.tr hfr (by decide)), ((m_fa.rf.tr hfa (by decide)).up (by decide) _), rfl, rfl, ⟨gv, hgv, ((hfr 42 (by decide)).trans h42)⟩, fun _ => ⟨V, own, pown, bl, role, k9, q, _, br, _, ((hfr 29 (by decide)).trans h29), ((hri1.pc (t := tt) rV ro).st02 (t := tt) hst (by show m_kc (A1 27) (A1 21) tt 90 = 0; rw [hfa 27 (by decide), hfa 21 (by decide)]; exact hk)), Or.inr ⟨tt, htt, ((hfr 30 (by decide)).trans h30), (by show ¬ A1 27 tt = 0; rw [hfa 27 (by decide)]; exact hal), if_pos rfl⟩⟩⟩, by dsimp only; rw [ht]; exact hP⟩, hS.F ht⟩) hS.2.2 d_Mo_alternative_166
              · exact absurd rfl hno
          · refine lv_iload_n hx hb d_Mo_alternative_90 rfl (lv_at hl 2 rfl) ?_
            refine lv_iconst (v := 2) hx hb d_Mo_alternative_91 (by decide) ?_
            refine lv_iadd hx hb d_Mo_alternative_92 ?_
            refine W.eq (g2 := F0 m 93 ls [.int (Int32.ofNat (pp + 2))]) (by rw [← x_addN (a := pp) (b := 2)] <;> rfl) ?_
            refine lv_iload hx hb d_Mo_alternative_93 (lv_at hl 5 rfl) ?_
            refine lv_iconst (v := 4) hx hb d_Mo_alternative_95 (by decide) ?_
            refine lv_imul hx hb d_Mo_alternative_96 ?_
            refine W.eq (g2 := F0 m 97 ls [.int (Int32.ofNat (g1 * 4)), .int (Int32.ofNat (pp + 2))]) (by rw [← x_mulN (a := g1) (b := 4)] <;> rfl) ?_
            refine lv_iadd hx hb d_Mo_alternative_97 ?_
            refine W.eq (g2 := F0 m 98 ls [.int (Int32.ofNat ((pp + 2) + (g1 * 4)))]) (by rw [← x_addN (a := (pp + 2)) (b := (g1 * 4))] <;> rfl) ?_
            refine lv_istore (lv' := [(6, .int (Int32.ofNat ((pp + 2) + (g1 * 4)))), (0, .ref h0), (1, .int (Int32.ofNat tt)), (2, .int (Int32.ofNat pp)), (3, .int (Int32.ofNat nn)), (4, .ref qo), (5, .int (Int32.ofNat g1))]) hx hb d_Mo_alternative_98 hl (by decide) rfl (fun ls hl => ?_)
            refine lv_aload_n hx hb d_Mo_alternative_100 rfl (lv_at hl 1 rfl) ?_
            refine m_g hx hb hts hown hK hP 1 (by decide) rfl (hts _ k_968) (v := .ref (ad 1)) rfl d_Mo_alternative_101 ?_
            refine lv_iload hx hb d_Mo_alternative_104 (lv_at hl 0 rfl) ?_
            refine lv_iconst (v := 1) hx hb d_Mo_alternative_106 (by decide) ?_
            refine lv_iadd hx hb d_Mo_alternative_107 ?_
            refine W.eq (g2 := F0 m 108 ls [.int (Int32.ofNat (((pp + 2) + (g1 * 4)) + 1)), .ref (ad 1)]) (by rw [← x_addN (a := ((pp + 2) + (g1 * 4))) (b := 1)] <;> rfl) ?_
            refine m_ld hx hb hK hP 1 rfl (by decide) (j := (Int32.ofNat (((pp + 2) + (g1 * 4)) + 1))) (x_inN (by omega) (by decide)) d_Mo_alternative_108 ?_
            refine W.eq (g2 := F0 m 109 ls [.int (Int32.ofNat c9)]) (by rw [x_nat (a := (((pp + 2) + (g1 * 4)) + 1)) (by omega), show A1 1 ((((pp + 2) + (g1 * 4)) + 1)) = (Int32.ofNat c9) from (by rw [hfa 1 (by decide)]; exact rc1)]) ?_
            refine lv_istore (lv' := [(7, .int (Int32.ofNat c9)), (6, .int (Int32.ofNat ((pp + 2) + (g1 * 4)))), (0, .ref h0), (1, .int (Int32.ofNat tt)), (2, .int (Int32.ofNat pp)), (3, .int (Int32.ofNat nn)), (4, .ref qo), (5, .int (Int32.ofNat g1))]) hx hb d_Mo_alternative_109 hl (by decide) rfl (fun ls hl => ?_)
            refine lv_aload hx hb d_Mo_alternative_111 (lv_at hl 6 rfl) ?_
            refine lv_iload hx hb d_Mo_alternative_113 (lv_at hl 7 rfl) ?_
            refine m_old hx hb hK hP2 (j := (Int32.ofNat g1)) (x_inN (by omega) (by decide)) d_Mo_alternative_115 ?_
            refine W.eq (g2 := F0 m 116 ls [.int (fo g1)]) (by rw [x_nat (a := g1) (by omega)]) ?_
            refine lv_if_eq (tgt := 167) hx hb d_Mo_alternative_116 (by decide) (fun c_18 => ?_) (fun c_18 => ?_)
            · refine lv_iinc (v := (Int32.ofNat (g1 + 1))) (lv' := [(5, .int (Int32.ofNat (g1 + 1))), (7, .int (Int32.ofNat c9)), (6, .int (Int32.ofNat ((pp + 2) + (g1 * 4)))), (0, .ref h0), (1, .int (Int32.ofNat tt)), (2, .int (Int32.ofNat pp)), (3, .int (Int32.ofNat nn)), (4, .ref qo)]) hx hb d_Mo_alternative_167 hl (k := 7) rfl (x_incN g1) (by decide) rfl (fun ls hl => ?_)
              refine lv_goto (tgt := 77) hx hb d_Mo_alternative_170 (by decide) ?_
              exact ih (nn - (g1 + 1)) (by omega) H locs ls ⟨g1 + 1, rfl, by omega, fun g hg h8 => (if e : g = g1 then (by subst e; exact absurd c_18 h8) else hon g (by omega) h8), hP2, hD2, hS, lv_sub hl [3, 4, 5, 6, 7, 0] rfl⟩
            · refine lv_aload_n hx hb d_Mo_alternative_119 rfl (lv_at hl 2 rfl) ?_
              refine lv_iload hx hb d_Mo_alternative_120 (lv_at hl 0 rfl) ?_
              have hFc := m_free hD hS hA
              refine va_calli (va_runV (As := [.int (Int32.ofNat c9)]) (rest := []) ⟨hx, hb, hml, hown, hts⟩ (m_ready l dC dI ar N0 z h0 ad I1 T A1 U gv ((Int32.ofNat c9)) H.size ((hfr 42 (by decide)).trans h42) hgv (Or.inr ⟨c9, by omega, rfl⟩)) (cwV 1 hts (x_goodV k_1250 k_1252 kp_77 k_9 k_1253) rfl rfl rfl (by decide +kernel) ⟨Nat.le_of_ble_eq_true rfl, Nat.le_of_ble_eq_true rfl⟩) ⟨x_blind, va_recv hK hP (ci := 6) (q0 := 0) rfl rfl, fun U9 hU9 hW9 => x_pre hU9 hW9 hP hD hU hZ hS hAN hN0⟩ rfl rfl hl.1 rfl (lv_room (Nat.le_of_ble_eq_true rfl)) d_Mo_alternative_122 ⟨Nat.le_of_ble_eq_true rfl, Nat.le_of_ble_eq_true rfl⟩) hS (fun q _ h => hFc q h) hFc (fun r_19 u t H1 locs ht hvm hw hB hz1 hk1 hS => ?_)
              obtain ⟨I21, T21, A21, U21⟩ := u
              dsimp only at hw hB
              rw [ht] at hB
              have hP : va_P (dC, dI) x_cl (m_W h0 ad ar I21 T21 A21 U21) H1 := hB
              have hD : va_D Bq (m_W h0 ad ar I21 T21 A21 U21) := m_D hD
              obtain ⟨hP2, hD2⟩ := m_O_keep hP2 hD2 hk1 hP
              generalize H1 = H at hP hP2 hS ⊢
              refine W.widen (k := 1) (n := 4) (Nat.le_of_ble_eq_true rfl) (Nat.le_of_ble_eq_true rfl) ?_
              obtain ⟨h9, hrd⟩ := hw
              cases h9
              rcases hrd with ⟨rfl, hrd⟩ | ⟨rfl, hno⟩
              · refine lv_if_ne (tgt := 131) hx hb d_Mo_alternative_125 (by decide) (fun _ => ?_) (fun c_22 => absurd c_22 (by decide))
                refine lv_iload hx hb d_Mo_alternative_131 (lv_at hl 0 rfl) ?_
                refine lv_if_lt (tgt := 151) hx hb d_Mo_alternative_133 (by decide) (fun c => absurd ((x_ltN (a := c9) (b := 0) (by omega) (by omega)).mp c) (Nat.not_lt_zero _)) (fun _ => ?_)
                refine lv_aload_n hx hb d_Mo_alternative_136 rfl (lv_at hl 2 rfl) ?_
                refine lv_iload hx hb d_Mo_alternative_137 (lv_at hl 0 rfl) ?_
                refine lv_aload_n hx hb d_Mo_alternative_139 rfl (lv_at hl 2 rfl) ?_
                refine m_g hx hb hts hown hK hP 1 (by decide) rfl (hts _ k_968) (v := .ref (ad 1)) rfl d_Mo_alternative_140 ?_
                refine lv_iload hx hb d_Mo_alternative_143 (lv_at hl 1 rfl) ?_
                refine lv_iconst (v := 2) hx hb d_Mo_alternative_145 (by decide) ?_
                refine lv_iadd hx hb d_Mo_alternative_146 ?_
                refine W.eq (g2 := F0 m 147 ls [.int (Int32.ofNat (((pp + 2) + (g1 * 4)) + 2)), .ref (ad 1), .int (Int32.ofNat c9), .ref h0]) (by rw [← x_addN (a := ((pp + 2) + (g1 * 4))) (b := 2)] <;> rfl) ?_
                refine m_ld hx hb hK hP 1 rfl (by decide) (j := (Int32.ofNat (((pp + 2) + (g1 * 4)) + 2))) (x_inN (by omega) (by decide)) d_Mo_alternative_147 ?_
                refine W.eq (g2 := F0 m 148 ls [.int (Int32.ofNat v9), .int (Int32.ofNat c9), .ref h0]) (by rw [x_nat (a := (((pp + 2) + (g1 * 4)) + 2)) (by omega), show A1 1 ((((pp + 2) + (g1 * 4)) + 2)) = (Int32.ofNat v9) from (by rw [hfa 1 (by decide)]; exact rc3)]) ?_
                have hFc := m_free hD hS hA
                refine va_callv (va_runV (As := [.int (Int32.ofNat c9), .int (Int32.ofNat v9)]) (rest := []) ⟨hx, hb, hml, hown, hts⟩ (m_input l dC dI ar N0 z h0 ad I1 T A1 U c9 v9 gv q H.size ((hfr 42 (by decide)).trans h42) hgv ((hfr 29 (by decide)).trans h29) (by omega) (by omega) (hri1.rdy (by omega) hrd)) (cwV 2 hts (x_goodV k_1254 k_1256 kp_78 k_9 k_1257) rfl rfl rfl (by decide +kernel) ⟨Nat.le_of_ble_eq_true rfl, Nat.le_of_ble_eq_true rfl⟩) ⟨x_blind, va_recv hK hP (ci := 6) (q0 := 0) rfl rfl, fun U9 hU9 hW9 => x_pre hU9 hW9 hP hD hU hZ hS hAN hN0⟩ rfl rfl hl.1 rfl (lv_room (Nat.le_of_ble_eq_true rfl)) d_Mo_alternative_148 ⟨Nat.le_of_ble_eq_true rfl, Nat.le_of_ble_eq_true rfl⟩) hS (fun q _ h => hFc q h) hFc (fun u t H1 locs ht hvm hw hB hz1 hk1 hS => ?_)
                obtain ⟨I24, T24, A24, U24⟩ := u
                dsimp only at hw hB
                rw [ht] at hB
                have hP : va_P (dC, dI) x_cl (m_W h0 ad ar I24 T24 A24 U24) H1 := hB
                have hD : va_D Bq (m_W h0 ad ar I24 T24 A24 U24) := m_D hD
                obtain ⟨hP2, hD2⟩ := m_O_keep hP2 hD2 hk1 hP
                generalize H1 = H at hP hP2 hS ⊢
                refine W.widen (k := 1) (n := 4) (Nat.le_of_ble_eq_true rfl) (Nat.le_of_ble_eq_true rfl) ?_
                rcases hw with ⟨h4, e1, e2, e3, fa25⟩ | ⟨h4, w9, hw9, ew9, e1⟩
                · rw [e1, e2, e3] at hP hD
                  have hP : va_P (dC, dI) x_cl (m_W h0 ad ar (upd I1 42 (Int32.ofNat (gv - 1))) T A24 U) H := hP
                  have hD : va_D Bq (m_W h0 ad ar (upd I1 42 (Int32.ofNat (gv - 1))) T A24 U) := hD
                  refine lv_aload_n hx hb d_Mo_alternative_151 rfl (lv_at hl 2 rfl) ?_
                  refine m_g hx hb hts hown hK hP 20 (by decide) rfl (hts _ k_987) (v := .ref (ad 20)) rfl d_Mo_alternative_152 ?_
                  refine lv_iload_n hx hb d_Mo_alternative_155 rfl (lv_at hl 3 rfl) ?_
                  refine lv_aload_n hx hb d_Mo_alternative_156 rfl (lv_at hl 2 rfl) ?_
                  refine m_g hx hb hts hown hK hP 1 (by decide) rfl (hts _ k_968) (v := .ref (ad 1)) rfl d_Mo_alternative_157 ?_
                  refine lv_iload hx hb d_Mo_alternative_160 (lv_at hl 1 rfl) ?_
                  refine lv_iconst (v := 3) hx hb d_Mo_alternative_162 (by decide) ?_
                  refine lv_iadd hx hb d_Mo_alternative_163 ?_
                  refine W.eq (g2 := F0 m 164 ls [.int (Int32.ofNat (((pp + 2) + (g1 * 4)) + 3)), .ref (ad 1), .int (Int32.ofNat tt), .ref (ad 20)]) (by rw [← x_addN (a := ((pp + 2) + (g1 * 4))) (b := 3)] <;> rfl) ?_
                  refine m_ld hx hb hK hP 1 rfl (by decide) (j := (Int32.ofNat (((pp + 2) + (g1 * 4)) + 3))) (x_inN (by omega) (by decide)) d_Mo_alternative_164 ?_
                  refine W.eq (g2 := F0 m 165 ls [.int (Int32.ofNat x9), .int (Int32.ofNat tt), .ref (ad 20)]) (by rw [x_nat (a := (((pp + 2) + (g1 * 4)) + 3)) (by omega), show A24 1 ((((pp + 2) + (g1 * 4)) + 3)) = (Int32.ofNat x9) from (by rw [fa25 1 (by decide), hfa 1 (by decide)]; exact r3)]) ?_
                  refine m_st hx hb hK hP hD hS 12 rfl (by decide) (j := (Int32.ofNat tt)) (x := (Int32.ofNat x9)) (x_inN (by omega) (by decide)) d_Mo_alternative_165 (fun H locs hP hD hS => ?_)
                  rw [x_nat (a := tt) (by omega)] at hP hD
                  have hP : va_P (dC, dI) x_cl (m_W h0 ad ar (upd I1 42 (Int32.ofNat (gv - 1))) T (m_up A24 20 (upd (A24 20) tt (Int32.ofNat x9))) U) H := hP
                  have hD : va_D Bq (m_W h0 ad ar (upd I1 42 (Int32.ofNat (gv - 1))) T (m_up A24 20 (upd (A24 20) tt (Int32.ofNat x9))) U) := hD
                  refine W.widen (k := 1) (n := 4) (Nat.le_of_ble_eq_true rfl) (Nat.le_of_ble_eq_true rfl) ?_
                  exact W.vret hx hb hr (fun t ht hW => ⟨⟨((upd I1 42 (Int32.ofNat (gv - 1))), T, (m_up A24 20 (upd (A24 20) tt (Int32.ofNat x9))), U), rfl, ⟨((m_fr.rf.tr hfr (by decide)).up (by decide) _), (((m_fa.rf.tr hfa (by decide)).tr fa25 (by decide)).up (by decide) _), rfl, rfl, ⟨gv - 1, by omega, rfl⟩, fun _ => ⟨V, own, pown, bl, role, k9, q, _, br, _, ((hfr 29 (by decide)).trans h29), (((hri1.fa fa25 (by decide)).pc (t := tt) rV ro).st02 (t := tt) hst (by show m_kc (A24 27) (A24 21) tt 90 = 0; rw [fa25 27 (by decide), fa25 21 (by decide), hfa 27 (by decide), hfa 21 (by decide)]; exact hk)), Or.inr ⟨tt, htt, ((hfr 30 (by decide)).trans h30), (by show ¬ A24 27 tt = 0; rw [fa25 27 (by decide), hfa 27 (by decide)]; exact hal), if_pos rfl⟩⟩⟩, by dsimp only; rw [ht]; exact hP⟩, hS.F ht⟩) hS.2.2 d_Mo_alternative_166
                · cases e1
                  have hP : va_P (dC, dI) x_cl (m_W h0 ad ar (upd I1 29 (Int32.ofNat (q + 1))) T (m_up (m_up (m_up A1 3 (upd (A1 3) v9 (A1 39 c9))) 24 (upd (A1 24) q (Int32.ofNat w9))) 38 (upd (A1 38) c9 (-1))) U) H := hP
                  have hD : va_D Bq (m_W h0 ad ar (upd I1 29 (Int32.ofNat (q + 1))) T (m_up (m_up (m_up A1 3 (upd (A1 3) v9 (A1 39 c9))) 24 (upd (A1 24) q (Int32.ofNat w9))) 38 (upd (A1 38) c9 (-1))) U) := hD
                  refine lv_aload_n hx hb d_Mo_alternative_151 rfl (lv_at hl 2 rfl) ?_
                  refine m_g hx hb hts hown hK hP 20 (by decide) rfl (hts _ k_987) (v := .ref (ad 20)) rfl d_Mo_alternative_152 ?_
                  refine lv_iload_n hx hb d_Mo_alternative_155 rfl (lv_at hl 3 rfl) ?_
                  refine lv_aload_n hx hb d_Mo_alternative_156 rfl (lv_at hl 2 rfl) ?_
                  refine m_g hx hb hts hown hK hP 1 (by decide) rfl (hts _ k_968) (v := .ref (ad 1)) rfl d_Mo_alternative_157 ?_
                  refine lv_iload hx hb d_Mo_alternative_160 (lv_at hl 1 rfl) ?_
                  refine lv_iconst (v := 3) hx hb d_Mo_alternative_162 (by decide) ?_
                  refine lv_iadd hx hb d_Mo_alternative_163 ?_
                  refine W.eq (g2 := F0 m 164 ls [.int (Int32.ofNat (((pp + 2) + (g1 * 4)) + 3)), .ref (ad 1), .int (Int32.ofNat tt), .ref (ad 20)]) (by rw [← x_addN (a := ((pp + 2) + (g1 * 4))) (b := 3)] <;> rfl) ?_
                  refine m_ld hx hb hK hP 1 rfl (by decide) (j := (Int32.ofNat (((pp + 2) + (g1 * 4)) + 3))) (x_inN (by omega) (by decide)) d_Mo_alternative_164 ?_
                  refine W.eq (g2 := F0 m 165 ls [.int (Int32.ofNat x9), .int (Int32.ofNat tt), .ref (ad 20)]) (by rw [x_nat (a := (((pp + 2) + (g1 * 4)) + 3)) (by omega), show (m_up (m_up (m_up A1 3 (upd (A1 3) v9 (A1 39 c9))) 24 (upd (A1 24) q (Int32.ofNat w9))) 38 (upd (A1 38) c9 (-1))) 1 ((((pp + 2) + (g1 * 4)) + 3)) = (Int32.ofNat x9) from (by show A1 1 _ = _; rw [hfa 1 (by decide)]; exact r3)]) ?_
                  refine m_st hx hb hK hP hD hS 12 rfl (by decide) (j := (Int32.ofNat tt)) (x := (Int32.ofNat x9)) (x_inN (by omega) (by decide)) d_Mo_alternative_165 (fun H locs hP hD hS => ?_)
                  rw [x_nat (a := tt) (by omega)] at hP hD
                  have hP : va_P (dC, dI) x_cl (m_W h0 ad ar (upd I1 29 (Int32.ofNat (q + 1))) T (m_up (m_up (m_up (m_up A1 3 (upd (A1 3) v9 (A1 39 c9))) 24 (upd (A1 24) q (Int32.ofNat w9))) 38 (upd (A1 38) c9 (-1))) 20 (upd (A1 20) tt (Int32.ofNat x9))) U) H := hP
                  have hD : va_D Bq (m_W h0 ad ar (upd I1 29 (Int32.ofNat (q + 1))) T (m_up (m_up (m_up (m_up A1 3 (upd (A1 3) v9 (A1 39 c9))) 24 (upd (A1 24) q (Int32.ofNat w9))) 38 (upd (A1 38) c9 (-1))) 20 (upd (A1 20) tt (Int32.ofNat x9))) U) := hD
                  have hw5 := (hri1.took (A' := (m_up (m_up (m_up A1 3 (upd (A1 3) v9 (A1 39 c9))) 24 (upd (A1 24) q (Int32.ofNat w9))) 38 (upd (A1 38) c9 (-1)))) (by omega) hw9 ew9 rfl rfl rfl rfl rfl rfl rfl rfl rfl rfl rfl).1
                  have hne : tt ≠ w9 := fun e9 => by (rw [e9] at hst; omega)
                  have hst9 : (if tt = w9 then 1 else (if tt = w9 then 0 else st tt)) = 0 := by rw [if_neg hne, if_neg hne]; exact hst
                  refine W.widen (k := 1) (n := 4) (Nat.le_of_ble_eq_true rfl) (Nat.le_of_ble_eq_true rfl) ?_
                  exact W.vret hx hb hr (fun t ht hW => ⟨⟨((upd I1 29 (Int32.ofNat (q + 1))), T, (m_up (m_up (m_up (m_up A1 3 (upd (A1 3) v9 (A1 39 c9))) 24 (upd (A1 24) q (Int32.ofNat w9))) 38 (upd (A1 38) c9 (-1))) 20 (upd (A1 20) tt (Int32.ofNat x9))), U), rfl, ⟨((m_fr.rf.tr hfr (by decide)).up (by decide) _), (((((m_fa.rf.tr hfa (by decide)).up (by decide) _).up (by decide) _).up (by decide) _).up (by decide) _), rfl, rfl, ⟨gv, hgv, ((hfr 42 (by decide)).trans h42)⟩, fun _ => ⟨V, own, pown, bl, role, k9, q + 1, _, br, _, rfl, ((((hri1.took (A' := (m_up (m_up (m_up A1 3 (upd (A1 3) v9 (A1 39 c9))) 24 (upd (A1 24) q (Int32.ofNat w9))) 38 (upd (A1 38) c9 (-1)))) (by omega) hw9 ew9 rfl rfl rfl rfl rfl rfl rfl rfl rfl rfl rfl).2.pc (t := tt) rV ro).eq (A' := (m_up (m_up (m_up (m_up A1 3 (upd (A1 3) v9 (A1 39 c9))) 24 (upd (A1 24) q (Int32.ofNat w9))) 38 (upd (A1 38) c9 (-1))) 20 (upd (A1 20) tt (Int32.ofNat x9)))) rfl rfl rfl rfl rfl rfl rfl rfl rfl rfl rfl).st02 (t := tt) hst9 (by show m_kc (A1 27) (A1 21) tt 90 = 0; rw [hfa 27 (by decide), hfa 21 (by decide)]; exact hk)), Or.inr ⟨tt, htt, ((hfr 30 (by decide)).trans h30), (by show ¬ A1 27 tt = 0; rw [hfa 27 (by decide)]; exact hal), if_pos rfl⟩⟩⟩, by dsimp only; rw [ht]; exact hP⟩, hS.F ht⟩) hS.2.2 d_Mo_alternative_166
              · refine lv_if_ne (tgt := 131) hx hb d_Mo_alternative_125 (by decide) (fun c_26 => absurd rfl c_26) (fun _ => ?_)
                refine lv_goto (tgt := 167) hx hb d_Mo_alternative_128 (by decide) ?_
                refine lv_iinc (v := (Int32.ofNat (g1 + 1))) (lv' := [(5, .int (Int32.ofNat (g1 + 1))), (7, .int (Int32.ofNat c9)), (6, .int (Int32.ofNat ((pp + 2) + (g1 * 4)))), (0, .ref h0), (1, .int (Int32.ofNat tt)), (2, .int (Int32.ofNat pp)), (3, .int (Int32.ofNat nn)), (4, .ref qo)]) hx hb d_Mo_alternative_167 hl (k := 7) rfl (x_incN g1) (by decide) rfl (fun ls hl => ?_)
                refine lv_goto (tgt := 77) hx hb d_Mo_alternative_170 (by decide) ?_
                exact ih (nn - (g1 + 1)) (by omega) H locs ls ⟨g1 + 1, rfl, by omega, fun g hg h8 => (if e : g = g1 then (by subst e; exact (by rw [rc1]; exact hno)) else hon g (by omega) h8), hP2, hD2, hS, lv_sub hl [3, 4, 5, 6, 7, 0] rfl⟩
      · refine lv_iconst (v := 0) hx hb d_Mo_alternative_74 (by decide) ?_
        refine W.eq (g2 := F0 m 75 ls [.int (Int32.ofNat 0)]) rfl ?_
        refine lv_istore (lv' := [(5, .int (Int32.ofNat 0)), (0, .ref h0), (1, .int (Int32.ofNat tt)), (2, .int (Int32.ofNat pp)), (3, .int (Int32.ofNat nn)), (4, .ref qo)]) hx hb d_Mo_alternative_75 hl (by decide) rfl (fun ls hl => ?_)
        refine lv_iload hx hb d_Mo_alternative_77 (lv_at hl 0 rfl) ?_
        refine lv_iload_n hx hb d_Mo_alternative_79 rfl (lv_at hl 4 rfl) ?_
        refine lv_icmp_ge (tgt := 173) hx hb d_Mo_alternative_80 (by decide) (fun c_27 => ?_) (fun c_27 => ?_)
        · have c_27 : nn ≤ 0 := (x_leN (a := nn) (b := 0) (by omega) (by omega)).mp c_27
          exact h173 H locs ls ⟨I1, A1, fo, hfr, hfa, Or.inr h33a, fun h9 => absurd (h9.symm.trans h33a) (by decide), hP2, hD2, hS, lv_sub hl [1, 2, 3, 4, 5] rfl⟩
        · have c_27 : ¬ nn ≤ 0 := fun h9 => c_27 ((x_leN (a := nn) (b := 0) (by omega) (by omega)).mpr h9)
          refine lv_aload_n hx hb d_Mo_alternative_83 rfl (lv_at hl 1 rfl) ?_
          refine m_g hx hb hts hown hK hP 33 (by decide) rfl (hts _ k_1000) (v := .int 3) (congrArg Value.int h33a) d_Mo_alternative_84 ?_
          refine lv_if_ne (tgt := 173) hx hb d_Mo_alternative_87 (by decide) (fun _ => ?_) (fun c_28 => absurd c_28 (by decide))
          exact h173 H locs ls ⟨I1, A1, fo, hfr, hfa, Or.inr h33a, fun h9 => absurd (h9.symm.trans h33a) (by decide), hP2, hD2, hS, lv_sub hl [1, 2, 3, 4, 5] rfl⟩
    · refine x_while (fun n H locs ls => ∃ (I1 : Nat → Int32) (A1 : Nat → Nat → Int32) (fo : Nat → Int32) (g1 : Nat), n = nn - g1 ∧ g1 ≤ nn ∧ m_fr [33, 44] I I1 ∧ m_fa [25] A A1 ∧ (I1 33 = 0 ∨ I1 33 = 3) ∧ va_P (dC, dI) x_cl (m_O h0 ad ar I1 T A1 U qo fo) H ∧ va_D Bq (m_O h0 ad ar I1 T A1 U qo fo) ∧ va_S Bq s.heap H locs ∧ lv_has ls 8 [(0, .ref h0), (1, .int (Int32.ofNat tt)), (2, .int (Int32.ofNat pp)), (3, .int (Int32.ofNat nn)), (4, .ref qo), (5, .int (Int32.ofNat g1))]) (fun n ih H locs ls h9 => ?_) ⟨I, A, fo, 0, rfl, Nat.zero_le _, m_fr.rf, m_fa.rf, Or.inl h33, hP2, hD2, hS, lv_sub hl [3, 4, 5, 2, 1, 0] rfl⟩
      obtain ⟨I1, A1, fo, g1, hn9, q1, hfr, hfa, h33a, hP2, hD2, hS, hl⟩ := h9
      have hP := m_O_P hP2
      have hD := m_O_D hD2
      rcases h33a with h33a | h33a
      · refine lv_iload hx hb d_Mo_alternative_33 (lv_at hl 5 rfl) ?_
        refine lv_iload_n hx hb d_Mo_alternative_35 rfl (lv_at hl 3 rfl) ?_
        refine lv_icmp_ge (tgt := 74) hx hb d_Mo_alternative_36 (by decide) (fun c_29 => ?_) (fun c_29 => ?_)
        · have c_29 : nn ≤ g1 := (x_leN (a := nn) (b := g1) (by omega) (by omega)).mp c_29
          exact h74 H locs ls ⟨I1, A1, fo, hfr, hfa, Or.inl h33a, hP2, hD2, hS, lv_sub hl [0, 1, 2, 3, 4] rfl⟩
        · have c_29 : ¬ nn ≤ g1 := fun h9 => c_29 ((x_leN (a := nn) (b := g1) (by omega) (by omega)).mpr h9)
          refine lv_aload_n hx hb d_Mo_alternative_39 rfl (lv_at hl 0 rfl) ?_
          refine m_g hx hb hts hown hK hP 33 (by decide) rfl (hts _ k_1000) (v := .int 0) (congrArg Value.int h33a) d_Mo_alternative_40 ?_
          refine lv_if_ne (tgt := 74) hx hb d_Mo_alternative_43 (by decide) (fun c_30 => absurd rfl c_30) (fun _ => ?_)
          obtain ⟨e9, q9, x9, r0, rq, rt, r24, r3, rV, ro, rc⟩ := hrow g1 (by omega)
          refine lv_aload hx hb d_Mo_alternative_46 (lv_at hl 4 rfl) ?_
          refine lv_iload hx hb d_Mo_alternative_48 (lv_at hl 5 rfl) ?_
          refine lv_aload_n hx hb d_Mo_alternative_50 rfl (lv_at hl 0 rfl) ?_
          refine lv_aload_n hx hb d_Mo_alternative_51 rfl (lv_at hl 0 rfl) ?_
          refine m_g hx hb hts hown hK hP 1 (by decide) rfl (hts _ k_968) (v := .ref (ad 1)) rfl d_Mo_alternative_52 ?_
          refine lv_iload_n hx hb d_Mo_alternative_55 rfl (lv_at hl 2 rfl) ?_
          refine lv_iconst (v := 2) hx hb d_Mo_alternative_56 (by decide) ?_
          refine lv_iadd hx hb d_Mo_alternative_57 ?_
          refine W.eq (g2 := F0 m 58 ls [.int (Int32.ofNat (pp + 2)), .ref (ad 1), .ref h0, .int (Int32.ofNat g1), .ref qo]) (by rw [← x_addN (a := pp) (b := 2)] <;> rfl) ?_
          refine lv_iload hx hb d_Mo_alternative_58 (lv_at hl 5 rfl) ?_
          refine lv_iconst (v := 4) hx hb d_Mo_alternative_60 (by decide) ?_
          refine lv_imul hx hb d_Mo_alternative_61 ?_
          refine W.eq (g2 := F0 m 62 ls [.int (Int32.ofNat (g1 * 4)), .int (Int32.ofNat (pp + 2)), .ref (ad 1), .ref h0, .int (Int32.ofNat g1), .ref qo]) (by rw [← x_mulN (a := g1) (b := 4)] <;> rfl) ?_
          refine lv_iadd hx hb d_Mo_alternative_62 ?_
          refine W.eq (g2 := F0 m 63 ls [.int (Int32.ofNat ((pp + 2) + (g1 * 4))), .ref (ad 1), .ref h0, .int (Int32.ofNat g1), .ref qo]) (by rw [← x_addN (a := (pp + 2)) (b := (g1 * 4))] <;> rfl) ?_
          refine m_ld hx hb hK hP 1 rfl (by decide) (j := (Int32.ofNat ((pp + 2) + (g1 * 4)))) (x_inN (by omega) (by decide)) d_Mo_alternative_63 ?_
          refine W.eq (g2 := F0 m 64 ls [.int (Int32.ofNat e9), .ref h0, .int (Int32.ofNat g1), .ref qo]) (by rw [x_nat (a := ((pp + 2) + (g1 * 4))) (by omega), show A1 1 (((pp + 2) + (g1 * 4))) = (Int32.ofNat e9) from (by rw [hfa 1 (by decide)]; exact r0)]) ?_
          have hFc := m_free hD hS hA
          refine va_calli (va_runV (As := [.int (Int32.ofNat e9)]) (rest := [.int (Int32.ofNat g1), .ref qo]) ⟨hx, hb, hml, hown, hts⟩ (m_value l dC dI ar N0 z h0 ad I1 T A1 U e9 q9 H.size rq h33a (by rw [hfa 1 (by decide)]; exact rt) (by rw [hfa 1 (by decide)]; exact r24)) (cwV 1 hts (x_goodV k_1230 k_1232 kp_72 k_9 k_1233) rfl rfl rfl (by decide +kernel) ⟨Nat.le_of_ble_eq_true rfl, Nat.le_of_ble_eq_true rfl⟩) ⟨x_blind, va_recv hK hP (ci := 6) (q0 := 0) rfl rfl, fun U9 hU9 hW9 => x_pre hU9 hW9 hP hD hU hZ hS hAN hN0⟩ rfl rfl hl.1 rfl (lv_room (Nat.le_of_ble_eq_true rfl)) d_Mo_alternative_64 ⟨Nat.le_of_ble_eq_true rfl, Nat.le_of_ble_eq_true rfl⟩) hS (fun q _ h => hFc q h) hFc (fun r_31 u t H1 locs ht hvm hw hB hz1 hk1 hS => ?_)
          obtain ⟨I33, T33, A33, U33⟩ := u
          dsimp only at hw hB
          rw [ht] at hB
          have hP : va_P (dC, dI) x_cl (m_W h0 ad ar I33 T33 A33 U33) H1 := hB
          have hD : va_D Bq (m_W h0 ad ar I33 T33 A33 U33) := m_D hD
          obtain ⟨hP2, hD2⟩ := m_O_keep hP2 hD2 hk1 hP
          generalize H1 = H at hP hP2 hS ⊢
          refine W.widen (k := 1) (n := 4) (Nat.le_of_ble_eq_true rfl) (Nat.le_of_ble_eq_true rfl) ?_
          obtain ⟨fr34, fa34, eT, eU, hv33⟩ := hw
          cases eT
          cases eU
          have hP2 : va_P (dC, dI) x_cl (m_O h0 ad ar I33 T A33 U qo fo) H := hP2
          have hD2 : va_D Bq (m_O h0 ad ar I33 T A33 U qo fo) := hD2
          rcases hv33 with hv33 | hv33
          · refine m_ost hx hb hK hP2 hD2 hS (j := (Int32.ofNat g1)) (x := r_31) (x_inN (by omega) (by decide)) d_Mo_alternative_67 (fun H locs hP2 hD2 hS => ?_)
            rw [x_nat (a := g1) (by omega)] at hP2 hD2
            have hP := m_O_P hP2
            have hD := m_O_D hD2
            refine lv_iinc (v := (Int32.ofNat (g1 + 1))) (lv' := [(5, .int (Int32.ofNat (g1 + 1))), (0, .ref h0), (1, .int (Int32.ofNat tt)), (2, .int (Int32.ofNat pp)), (3, .int (Int32.ofNat nn)), (4, .ref qo)]) hx hb d_Mo_alternative_68 hl (k := 5) rfl (x_incN g1) (by decide) rfl (fun ls hl => ?_)
            refine lv_goto (tgt := 33) hx hb d_Mo_alternative_71 (by decide) ?_
            exact ih (nn - (g1 + 1)) (by omega) H locs ls ⟨I33, A33, (upd fo g1 r_31), g1 + 1, rfl, by omega, (hfr.tr fr34 (by decide)), (hfa.tr fa34 (by decide)), Or.inl hv33.1, hP2, hD2, hS, lv_sub hl [1, 2, 3, 4, 5, 0] rfl⟩
          · refine m_ost hx hb hK hP2 hD2 hS (j := (Int32.ofNat g1)) (x := r_31) (x_inN (by omega) (by decide)) d_Mo_alternative_67 (fun H locs hP2 hD2 hS => ?_)
            rw [x_nat (a := g1) (by omega)] at hP2 hD2
            have hP := m_O_P hP2
            have hD := m_O_D hD2
            refine lv_iinc (v := (Int32.ofNat (g1 + 1))) (lv' := [(5, .int (Int32.ofNat (g1 + 1))), (0, .ref h0), (1, .int (Int32.ofNat tt)), (2, .int (Int32.ofNat pp)), (3, .int (Int32.ofNat nn)), (4, .ref qo)]) hx hb d_Mo_alternative_68 hl (k := 5) rfl (x_incN g1) (by decide) rfl (fun ls hl => ?_)
            refine lv_goto (tgt := 33) hx hb d_Mo_alternative_71 (by decide) ?_
            exact ih (nn - (g1 + 1)) (by omega) H locs ls ⟨I33, A33, (upd fo g1 r_31), g1 + 1, rfl, by omega, (hfr.tr fr34 (by decide)), (hfa.tr fa34 (by decide)), Or.inr hv33, hP2, hD2, hS, lv_sub hl [1, 2, 3, 4, 5, 0] rfl⟩
      · refine lv_iload hx hb d_Mo_alternative_33 (lv_at hl 5 rfl) ?_
        refine lv_iload_n hx hb d_Mo_alternative_35 rfl (lv_at hl 3 rfl) ?_
        refine lv_icmp_ge (tgt := 74) hx hb d_Mo_alternative_36 (by decide) (fun c_35 => ?_) (fun c_35 => ?_)
        · have c_35 : nn ≤ g1 := (x_leN (a := nn) (b := g1) (by omega) (by omega)).mp c_35
          exact h74 H locs ls ⟨I1, A1, fo, hfr, hfa, Or.inr h33a, hP2, hD2, hS, lv_sub hl [0, 1, 2, 3, 4] rfl⟩
        · have c_35 : ¬ nn ≤ g1 := fun h9 => c_35 ((x_leN (a := nn) (b := g1) (by omega) (by omega)).mpr h9)
          refine lv_aload_n hx hb d_Mo_alternative_39 rfl (lv_at hl 0 rfl) ?_
          refine m_g hx hb hts hown hK hP 33 (by decide) rfl (hts _ k_1000) (v := .int 3) (congrArg Value.int h33a) d_Mo_alternative_40 ?_
          refine lv_if_ne (tgt := 74) hx hb d_Mo_alternative_43 (by decide) (fun _ => ?_) (fun c_36 => absurd c_36 (by decide))
          exact h74 H locs ls ⟨I1, A1, fo, hfr, hfa, Or.inr h33a, hP2, hD2, hS, lv_sub hl [0, 1, 2, 3, 4] rfl⟩
