-- ===== 15.load3: load of the reference on the empty text, by program =====
theorem k_975 : (Jvm.Cond.fieldLink "ChannelMachineModel" (171 : Nat) "ChannelMachineModel" "processes" "I") ∈ x_T := x_at 975 (by decide +kernel) (by decide +kernel)
theorem k_985 : (Jvm.Cond.fieldLink "ChannelMachineModel" (159 : Nat) "ChannelMachineModel" "open" "I") ∈ x_T := x_at 985 (by decide +kernel) (by decide +kernel)
theorem k_1128 : (Jvm.Cond.methodLink "ChannelMachineModel" (186 : Nat) ({ cls := "ChannelMachineModel", name := "read", desc := "()Z" } : Jvm.MethodName)) ∈ x_T := x_at 1128 (by decide +kernel) (by decide +kernel)
theorem k_1130 : (Jvm.Cond.instanceMethod ({ cls := "ChannelMachineModel", name := "read", desc := "()Z" } : Jvm.MethodName)) ∈ x_T := x_at 1130 (by decide +kernel) (by decide +kernel)
theorem k_1131 : (Jvm.Cond.code ({ cls := "ChannelMachineModel", name := "read", desc := "()Z" } : Jvm.MethodName) prog_12_method_22_code (5 : Nat) (Option.some Jvm.ClassFile.FieldType.boolean)) ∈ x_T := x_at 1131 (by decide +kernel) (by decide +kernel)
theorem k_1182 : (Jvm.Cond.methodLink "ChannelMachineModel" (183 : Nat) ({ cls := "ChannelMachineModel", name := "start", desc := "(I)I" } : Jvm.MethodName)) ∈ x_T := x_at 1182 (by decide +kernel) (by decide +kernel)
theorem k_1184 : (Jvm.Cond.instanceMethod ({ cls := "ChannelMachineModel", name := "start", desc := "(I)I" } : Jvm.MethodName)) ∈ x_T := x_at 1184 (by decide +kernel) (by decide +kernel)
theorem k_1185 : (Jvm.Cond.code ({ cls := "ChannelMachineModel", name := "start", desc := "(I)I" } : Jvm.MethodName) prog_12_method_18_code (6 : Nat) (Option.some Jvm.ClassFile.FieldType.int)) ∈ x_T := x_at 1185 (by decide +kernel) (by decide +kernel)
theorem kp_50 : (Jvm.Cond.selects "ChannelMachineModel" ({ cls := "ChannelMachineModel", name := "read", desc := "()Z" } : Jvm.MethodName) ({ cls := "ChannelMachineModel", name := "read", desc := "()Z" } : Jvm.MethodName)) ∈ x_T := x_sel (q := (({ cls := "ChannelMachineModel", name := "read", desc := "()Z" } : Jvm.MethodName), 45)) 50 (by decide +kernel) (by decide +kernel)
theorem kp_62 : (Jvm.Cond.selects "ChannelMachineModel" ({ cls := "ChannelMachineModel", name := "start", desc := "(I)I" } : Jvm.MethodName) ({ cls := "ChannelMachineModel", name := "start", desc := "(I)I" } : Jvm.MethodName)) ∈ x_T := x_sel (q := (({ cls := "ChannelMachineModel", name := "start", desc := "(I)I" } : Jvm.MethodName), 45)) 62 (by decide +kernel) (by decide +kernel)
theorem d_Mo_read_0 : decode prog_12_method_22_code 0 = .ok (.aload_n 0, 1) := by decide +kernel
theorem d_Mo_read_1 : decode prog_12_method_22_code 1 = .ok (.iconst 0, 1) := by decide +kernel
theorem d_Mo_read_2 : decode prog_12_method_22_code 2 = .ok (.putfield 121, 3) := by decide +kernel
theorem d_Mo_read_5 : decode prog_12_method_22_code 5 = .ok (.aload_n 0, 1) := by decide +kernel
theorem d_Mo_read_6 : decode prog_12_method_22_code 6 = .ok (.iconst 0, 1) := by decide +kernel
theorem d_Mo_read_7 : decode prog_12_method_22_code 7 = .ok (.putfield 128, 3) := by decide +kernel
theorem d_Mo_read_10 : decode prog_12_method_22_code 10 = .ok (.aload_n 0, 1) := by decide +kernel
theorem d_Mo_read_11 : decode prog_12_method_22_code 11 = .ok (.iconst 0, 1) := by decide +kernel
theorem d_Mo_read_12 : decode prog_12_method_22_code 12 = .ok (.putfield 159, 3) := by decide +kernel
theorem d_Mo_read_15 : decode prog_12_method_22_code 15 = .ok (.aload_n 0, 1) := by decide +kernel
theorem d_Mo_read_16 : decode prog_12_method_22_code 16 = .ok (.iconst 0, 1) := by decide +kernel
theorem d_Mo_read_17 : decode prog_12_method_22_code 17 = .ok (.putfield 171, 3) := by decide +kernel
theorem d_Mo_read_20 : decode prog_12_method_22_code 20 = .ok (.iconst 1, 1) := by decide +kernel
theorem d_Mo_read_21 : decode prog_12_method_22_code 21 = .ok (.istore_n 1, 1) := by decide +kernel
theorem d_Mo_read_22 : decode prog_12_method_22_code 22 = .ok (.iload_n 1, 1) := by decide +kernel
theorem d_Mo_read_23 : decode prog_12_method_22_code 23 = .ok (.ifCond .eq 167, 3) := by decide +kernel
theorem d_Mo_read_26 : decode prog_12_method_22_code 26 = .ok (.aload_n 0, 1) := by decide +kernel
theorem d_Mo_read_27 : decode prog_12_method_22_code 27 = .ok (.getfield 159, 3) := by decide +kernel
theorem d_Mo_read_30 : decode prog_12_method_22_code 30 = .ok (.ifCond .le 18, 3) := by decide +kernel
theorem d_Mo_read_33 : decode prog_12_method_22_code 33 = .ok (.aload_n 0, 1) := by decide +kernel
theorem d_Mo_read_34 : decode prog_12_method_22_code 34 = .ok (.invokevirtual 174, 3) := by decide +kernel
theorem d_Mo_read_37 : decode prog_12_method_22_code 37 = .ok (.ifCond .eq 11, 3) := by decide +kernel
theorem d_Mo_read_40 : decode prog_12_method_22_code 40 = .ok (.aload_n 0, 1) := by decide +kernel
theorem d_Mo_read_41 : decode prog_12_method_22_code 41 = .ok (.invokevirtual 177, 3) := by decide +kernel
theorem d_Mo_read_44 : decode prog_12_method_22_code 44 = .ok (.istore_n 1, 1) := by decide +kernel
theorem d_Mo_read_45 : decode prog_12_method_22_code 45 = .ok (.goto (-23), 3) := by decide +kernel
theorem d_Mo_read_48 : decode prog_12_method_22_code 48 = .ok (.aload_n 0, 1) := by decide +kernel
theorem d_Mo_read_49 : decode prog_12_method_22_code 49 = .ok (.getfield 159, 3) := by decide +kernel
theorem d_Mo_read_52 : decode prog_12_method_22_code 52 = .ok (.iconst 1, 1) := by decide +kernel
theorem d_Mo_read_53 : decode prog_12_method_22_code 53 = .ok (.isub, 1) := by decide +kernel
theorem d_Mo_read_54 : decode prog_12_method_22_code 54 = .ok (.istore_n 2, 1) := by decide +kernel
theorem d_Mo_read_55 : decode prog_12_method_22_code 55 = .ok (.aload_n 0, 1) := by decide +kernel
theorem d_Mo_read_56 : decode prog_12_method_22_code 56 = .ok (.getfield 159, 3) := by decide +kernel
theorem d_Mo_read_59 : decode prog_12_method_22_code 59 = .ok (.iconst 1, 1) := by decide +kernel
theorem d_Mo_read_60 : decode prog_12_method_22_code 60 = .ok (.iadd, 1) := by decide +kernel
theorem d_Mo_read_61 : decode prog_12_method_22_code 61 = .ok (.istore_n 3, 1) := by decide +kernel
theorem d_Mo_read_62 : decode prog_12_method_22_code 62 = .ok (.aload_n 0, 1) := by decide +kernel
theorem d_Mo_read_63 : decode prog_12_method_22_code 63 = .ok (.getfield 159, 3) := by decide +kernel
theorem d_Mo_read_66 : decode prog_12_method_22_code 66 = .ok (.ifCond .le 24, 3) := by decide +kernel
theorem d_Mo_read_69 : decode prog_12_method_22_code 69 = .ok (.aload_n 0, 1) := by decide +kernel
theorem d_Mo_read_70 : decode prog_12_method_22_code 70 = .ok (.getfield 26, 3) := by decide +kernel
theorem d_Mo_read_73 : decode prog_12_method_22_code 73 = .ok (.iload_n 2, 1) := by decide +kernel
theorem d_Mo_read_74 : decode prog_12_method_22_code 74 = .ok (.iaload, 1) := by decide +kernel
theorem d_Mo_read_75 : decode prog_12_method_22_code 75 = .ok (.bipush 6, 2) := by decide +kernel
theorem d_Mo_read_77 : decode prog_12_method_22_code 77 = .ok (.if_icmp .ne 13, 3) := by decide +kernel
theorem d_Mo_read_80 : decode prog_12_method_22_code 80 = .ok (.aload_n 0, 1) := by decide +kernel
theorem d_Mo_read_81 : decode prog_12_method_22_code 81 = .ok (.iload_n 3, 1) := by decide +kernel
theorem d_Mo_read_82 : decode prog_12_method_22_code 82 = .ok (.invokevirtual 180, 3) := by decide +kernel
theorem d_Mo_read_85 : decode prog_12_method_22_code 85 = .ok (.ifCond .ne 5, 3) := by decide +kernel
theorem d_Mo_read_88 : decode prog_12_method_22_code 88 = .ok (.iconst 0, 1) := by decide +kernel
theorem d_Mo_read_89 : decode prog_12_method_22_code 89 = .ok (.ireturn, 1) := by decide +kernel
theorem d_Mo_read_90 : decode prog_12_method_22_code 90 = .ok (.aload_n 0, 1) := by decide +kernel
theorem d_Mo_read_91 : decode prog_12_method_22_code 91 = .ok (.getfield 159, 3) := by decide +kernel
theorem d_Mo_read_94 : decode prog_12_method_22_code 94 = .ok (.ifCond .le 59, 3) := by decide +kernel
theorem d_Mo_read_97 : decode prog_12_method_22_code 97 = .ok (.aload_n 0, 1) := by decide +kernel
theorem d_Mo_read_98 : decode prog_12_method_22_code 98 = .ok (.getfield 26, 3) := by decide +kernel
theorem d_Mo_read_101 : decode prog_12_method_22_code 101 = .ok (.iload_n 2, 1) := by decide +kernel
theorem d_Mo_read_102 : decode prog_12_method_22_code 102 = .ok (.iaload, 1) := by decide +kernel
theorem d_Mo_read_103 : decode prog_12_method_22_code 103 = .ok (.iconst 2, 1) := by decide +kernel
theorem d_Mo_read_104 : decode prog_12_method_22_code 104 = .ok (.if_icmp .ne 49, 3) := by decide +kernel
theorem d_Mo_read_107 : decode prog_12_method_22_code 107 = .ok (.aload_n 0, 1) := by decide +kernel
theorem d_Mo_read_108 : decode prog_12_method_22_code 108 = .ok (.getfield 32, 3) := by decide +kernel
theorem d_Mo_read_111 : decode prog_12_method_22_code 111 = .ok (.iload_n 2, 1) := by decide +kernel
theorem d_Mo_read_112 : decode prog_12_method_22_code 112 = .ok (.iaload, 1) := by decide +kernel
theorem d_Mo_read_113 : decode prog_12_method_22_code 113 = .ok (.iconst 4, 1) := by decide +kernel
theorem d_Mo_read_114 : decode prog_12_method_22_code 114 = .ok (.if_icmp .ne 5, 3) := by decide +kernel
theorem d_Mo_read_117 : decode prog_12_method_22_code 117 = .ok (.iconst 0, 1) := by decide +kernel
theorem d_Mo_read_118 : decode prog_12_method_22_code 118 = .ok (.ireturn, 1) := by decide +kernel
theorem d_Mo_read_119 : decode prog_12_method_22_code 119 = .ok (.aload_n 0, 1) := by decide +kernel
theorem d_Mo_read_120 : decode prog_12_method_22_code 120 = .ok (.getfield 16, 3) := by decide +kernel
theorem d_Mo_read_123 : decode prog_12_method_22_code 123 = .ok (.aload_n 0, 1) := by decide +kernel
theorem d_Mo_read_124 : decode prog_12_method_22_code 124 = .ok (.getfield 29, 3) := by decide +kernel
theorem d_Mo_read_127 : decode prog_12_method_22_code 127 = .ok (.iload_n 2, 1) := by decide +kernel
theorem d_Mo_read_128 : decode prog_12_method_22_code 128 = .ok (.iaload, 1) := by decide +kernel
theorem d_Mo_read_129 : decode prog_12_method_22_code 129 = .ok (.iconst 2, 1) := by decide +kernel
theorem d_Mo_read_130 : decode prog_12_method_22_code 130 = .ok (.iadd, 1) := by decide +kernel
theorem d_Mo_read_131 : decode prog_12_method_22_code 131 = .ok (.aload_n 0, 1) := by decide +kernel
theorem d_Mo_read_132 : decode prog_12_method_22_code 132 = .ok (.getfield 32, 3) := by decide +kernel
theorem d_Mo_read_135 : decode prog_12_method_22_code 135 = .ok (.iload_n 2, 1) := by decide +kernel
theorem d_Mo_read_136 : decode prog_12_method_22_code 136 = .ok (.iaload, 1) := by decide +kernel
theorem d_Mo_read_137 : decode prog_12_method_22_code 137 = .ok (.iadd, 1) := by decide +kernel
theorem d_Mo_read_138 : decode prog_12_method_22_code 138 = .ok (.aload_n 0, 1) := by decide +kernel
theorem d_Mo_read_139 : decode prog_12_method_22_code 139 = .ok (.getfield 128, 3) := by decide +kernel
theorem d_Mo_read_142 : decode prog_12_method_22_code 142 = .ok (.iastore, 1) := by decide +kernel
theorem d_Mo_read_143 : decode prog_12_method_22_code 143 = .ok (.aload_n 0, 1) := by decide +kernel
theorem d_Mo_read_144 : decode prog_12_method_22_code 144 = .ok (.getfield 32, 3) := by decide +kernel
theorem d_Mo_read_147 : decode prog_12_method_22_code 147 = .ok (.iload_n 2, 1) := by decide +kernel
theorem d_Mo_read_148 : decode prog_12_method_22_code 148 = .ok (.dup2, 1) := by decide +kernel
theorem d_Mo_read_149 : decode prog_12_method_22_code 149 = .ok (.iaload, 1) := by decide +kernel
theorem d_Mo_read_150 : decode prog_12_method_22_code 150 = .ok (.iconst 1, 1) := by decide +kernel
theorem d_Mo_read_151 : decode prog_12_method_22_code 151 = .ok (.iadd, 1) := by decide +kernel
theorem d_Mo_read_152 : decode prog_12_method_22_code 152 = .ok (.iastore, 1) := by decide +kernel
theorem d_Mo_read_153 : decode prog_12_method_22_code 153 = .ok (.aload_n 0, 1) := by decide +kernel
theorem d_Mo_read_154 : decode prog_12_method_22_code 154 = .ok (.iload_n 3, 1) := by decide +kernel
theorem d_Mo_read_155 : decode prog_12_method_22_code 155 = .ok (.invokevirtual 183, 3) := by decide +kernel
theorem d_Mo_read_158 : decode prog_12_method_22_code 158 = .ok (.istore 4, 2) := by decide +kernel
theorem d_Mo_read_160 : decode prog_12_method_22_code 160 = .ok (.iload 4, 2) := by decide +kernel
theorem d_Mo_read_162 : decode prog_12_method_22_code 162 = .ok (.ifCond .ge 5, 3) := by decide +kernel
theorem d_Mo_read_165 : decode prog_12_method_22_code 165 = .ok (.iconst 0, 1) := by decide +kernel
theorem d_Mo_read_166 : decode prog_12_method_22_code 166 = .ok (.ireturn, 1) := by decide +kernel
theorem d_Mo_read_167 : decode prog_12_method_22_code 167 = .ok (.aload_n 0, 1) := by decide +kernel
theorem d_Mo_read_168 : decode prog_12_method_22_code 168 = .ok (.dup, 1) := by decide +kernel
theorem d_Mo_read_169 : decode prog_12_method_22_code 169 = .ok (.getfield 171, 3) := by decide +kernel
theorem d_Mo_read_172 : decode prog_12_method_22_code 172 = .ok (.iconst 1, 1) := by decide +kernel
theorem d_Mo_read_173 : decode prog_12_method_22_code 173 = .ok (.iadd, 1) := by decide +kernel
theorem d_Mo_read_174 : decode prog_12_method_22_code 174 = .ok (.putfield 171, 3) := by decide +kernel
theorem d_Mo_read_177 : decode prog_12_method_22_code 177 = .ok (.iload 4, 2) := by decide +kernel
theorem d_Mo_read_179 : decode prog_12_method_22_code 179 = .ok (.ifCond .ne 8, 3) := by decide +kernel
theorem d_Mo_read_182 : decode prog_12_method_22_code 182 = .ok (.aload_n 0, 1) := by decide +kernel
theorem d_Mo_read_183 : decode prog_12_method_22_code 183 = .ok (.invokevirtual 177, 3) := by decide +kernel
theorem d_Mo_read_186 : decode prog_12_method_22_code 186 = .ok (.istore_n 1, 1) := by decide +kernel
theorem d_Mo_read_187 : decode prog_12_method_22_code 187 = .ok (.goto (-165), 3) := by decide +kernel
theorem d_Mo_read_190 : decode prog_12_method_22_code 190 = .ok (.aload_n 0, 1) := by decide +kernel
theorem d_Mo_read_191 : decode prog_12_method_22_code 191 = .ok (.bipush 12, 2) := by decide +kernel
theorem d_Mo_read_193 : decode prog_12_method_22_code 193 = .ok (.invokevirtual 131, 3) := by decide +kernel
theorem d_Mo_read_196 : decode prog_12_method_22_code 196 = .ok (.aload_n 0, 1) := by decide +kernel
theorem d_Mo_read_197 : decode prog_12_method_22_code 197 = .ok (.getfield 159, 3) := by decide +kernel
theorem d_Mo_read_200 : decode prog_12_method_22_code 200 = .ok (.ifCond .ne 18, 3) := by decide +kernel
theorem d_Mo_read_203 : decode prog_12_method_22_code 203 = .ok (.aload_n 0, 1) := by decide +kernel
theorem d_Mo_read_204 : decode prog_12_method_22_code 204 = .ok (.getfield 121, 3) := by decide +kernel
theorem d_Mo_read_207 : decode prog_12_method_22_code 207 = .ok (.aload_n 0, 1) := by decide +kernel
theorem d_Mo_read_208 : decode prog_12_method_22_code 208 = .ok (.getfield 114, 3) := by decide +kernel
theorem d_Mo_read_211 : decode prog_12_method_22_code 211 = .ok (.if_icmp .ne 7, 3) := by decide +kernel
theorem d_Mo_read_214 : decode prog_12_method_22_code 214 = .ok (.iconst 1, 1) := by decide +kernel
theorem d_Mo_read_215 : decode prog_12_method_22_code 215 = .ok (.goto 4, 3) := by decide +kernel
theorem d_Mo_read_218 : decode prog_12_method_22_code 218 = .ok (.iconst 0, 1) := by decide +kernel
theorem d_Mo_read_219 : decode prog_12_method_22_code 219 = .ok (.ireturn, 1) := by decide +kernel
theorem d_Mo_load_0 : decode prog_12_method_23_code 0 = .ok (.aload_n 0, 1) := by decide +kernel
theorem d_Mo_load_1 : decode prog_12_method_23_code 1 = .ok (.invokevirtual 186, 3) := by decide +kernel
theorem d_Mo_load_4 : decode prog_12_method_23_code 4 = .ok (.istore_n 1, 1) := by decide +kernel
theorem d_Mo_load_5 : decode prog_12_method_23_code 5 = .ok (.iload_n 1, 1) := by decide +kernel
theorem d_Mo_load_6 : decode prog_12_method_23_code 6 = .ok (.ifCond .ne 11, 3) := by decide +kernel
theorem d_Mo_load_9 : decode prog_12_method_23_code 9 = .ok (.aload_n 0, 1) := by decide +kernel
theorem d_Mo_load_10 : decode prog_12_method_23_code 10 = .ok (.aload_n 0, 1) := by decide +kernel
theorem d_Mo_load_11 : decode prog_12_method_23_code 11 = .ok (.getfield 121, 3) := by decide +kernel
theorem d_Mo_load_14 : decode prog_12_method_23_code 14 = .ok (.putfield 22, 3) := by decide +kernel
theorem d_Mo_load_17 : decode prog_12_method_23_code 17 = .ok (.aload_n 0, 1) := by decide +kernel
theorem d_Mo_load_18 : decode prog_12_method_23_code 18 = .ok (.iconst 0, 1) := by decide +kernel
theorem d_Mo_load_19 : decode prog_12_method_23_code 19 = .ok (.putfield 114, 3) := by decide +kernel
theorem d_Mo_load_22 : decode prog_12_method_23_code 22 = .ok (.aload_n 0, 1) := by decide +kernel
theorem d_Mo_load_23 : decode prog_12_method_23_code 23 = .ok (.iload_n 1, 1) := by decide +kernel
theorem d_Mo_load_24 : decode prog_12_method_23_code 24 = .ok (.invokevirtual 110, 3) := by decide +kernel
theorem d_Mo_load_27 : decode prog_12_method_23_code 27 = .ok (.ifCond .eq 5, 3) := by decide +kernel
theorem d_Mo_load_30 : decode prog_12_method_23_code 30 = .ok (.iconst 0, 1) := by decide +kernel
theorem d_Mo_load_31 : decode prog_12_method_23_code 31 = .ok (.ireturn, 1) := by decide +kernel
theorem d_Mo_load_32 : decode prog_12_method_23_code 32 = .ok (.iconst 0, 1) := by decide +kernel
theorem d_Mo_load_33 : decode prog_12_method_23_code 33 = .ok (.istore_n 2, 1) := by decide +kernel
theorem d_Mo_load_34 : decode prog_12_method_23_code 34 = .ok (.iload_n 2, 1) := by decide +kernel
theorem d_Mo_load_35 : decode prog_12_method_23_code 35 = .ok (.aload_n 0, 1) := by decide +kernel
theorem d_Mo_load_36 : decode prog_12_method_23_code 36 = .ok (.getfield 128, 3) := by decide +kernel
theorem d_Mo_load_39 : decode prog_12_method_23_code 39 = .ok (.if_icmp .ge 21, 3) := by decide +kernel
theorem d_Mo_load_42 : decode prog_12_method_23_code 42 = .ok (.aload_n 0, 1) := by decide +kernel
theorem d_Mo_load_43 : decode prog_12_method_23_code 43 = .ok (.getfield 13, 3) := by decide +kernel
theorem d_Mo_load_46 : decode prog_12_method_23_code 46 = .ok (.iload_n 2, 1) := by decide +kernel
theorem d_Mo_load_47 : decode prog_12_method_23_code 47 = .ok (.aload_n 0, 1) := by decide +kernel
theorem d_Mo_load_48 : decode prog_12_method_23_code 48 = .ok (.getfield 16, 3) := by decide +kernel
theorem d_Mo_load_51 : decode prog_12_method_23_code 51 = .ok (.iload_n 2, 1) := by decide +kernel
theorem d_Mo_load_52 : decode prog_12_method_23_code 52 = .ok (.iaload, 1) := by decide +kernel
theorem d_Mo_load_53 : decode prog_12_method_23_code 53 = .ok (.iastore, 1) := by decide +kernel
theorem d_Mo_load_54 : decode prog_12_method_23_code 54 = .ok (.iinc 2 1, 3) := by decide +kernel
theorem d_Mo_load_57 : decode prog_12_method_23_code 57 = .ok (.goto (-23), 3) := by decide +kernel
theorem d_Mo_load_60 : decode prog_12_method_23_code 60 = .ok (.iconst 0, 1) := by decide +kernel
theorem d_Mo_load_61 : decode prog_12_method_23_code 61 = .ok (.istore_n 2, 1) := by decide +kernel
theorem d_Mo_load_62 : decode prog_12_method_23_code 62 = .ok (.iload_n 2, 1) := by decide +kernel
theorem d_Mo_load_63 : decode prog_12_method_23_code 63 = .ok (.bipush 6, 2) := by decide +kernel
theorem d_Mo_load_65 : decode prog_12_method_23_code 65 = .ok (.if_icmp .ge 30, 3) := by decide +kernel
theorem d_Mo_load_68 : decode prog_12_method_23_code 68 = .ok (.aload_n 0, 1) := by decide +kernel
theorem d_Mo_load_69 : decode prog_12_method_23_code 69 = .ok (.getfield 19, 3) := by decide +kernel
theorem d_Mo_load_72 : decode prog_12_method_23_code 72 = .ok (.iload_n 2, 1) := by decide +kernel
theorem d_Mo_load_73 : decode prog_12_method_23_code 73 = .ok (.iconst 0, 1) := by decide +kernel
theorem d_Mo_load_74 : decode prog_12_method_23_code 74 = .ok (.iastore, 1) := by decide +kernel
theorem d_Mo_load_75 : decode prog_12_method_23_code 75 = .ok (.aload_n 0, 1) := by decide +kernel
theorem d_Mo_load_76 : decode prog_12_method_23_code 76 = .ok (.getfield 82, 3) := by decide +kernel
theorem d_Mo_load_79 : decode prog_12_method_23_code 79 = .ok (.iload_n 2, 1) := by decide +kernel
theorem d_Mo_load_80 : decode prog_12_method_23_code 80 = .ok (.iconst (-1), 1) := by decide +kernel
theorem d_Mo_load_81 : decode prog_12_method_23_code 81 = .ok (.iastore, 1) := by decide +kernel
theorem d_Mo_load_82 : decode prog_12_method_23_code 82 = .ok (.aload_n 0, 1) := by decide +kernel
theorem d_Mo_load_83 : decode prog_12_method_23_code 83 = .ok (.getfield 91, 3) := by decide +kernel
theorem d_Mo_load_86 : decode prog_12_method_23_code 86 = .ok (.iload_n 2, 1) := by decide +kernel
theorem d_Mo_load_87 : decode prog_12_method_23_code 87 = .ok (.iconst (-1), 1) := by decide +kernel
theorem d_Mo_load_88 : decode prog_12_method_23_code 88 = .ok (.iastore, 1) := by decide +kernel
theorem d_Mo_load_89 : decode prog_12_method_23_code 89 = .ok (.iinc 2 1, 3) := by decide +kernel
theorem d_Mo_load_92 : decode prog_12_method_23_code 92 = .ok (.goto (-30), 3) := by decide +kernel
theorem d_Mo_load_95 : decode prog_12_method_23_code 95 = .ok (.iconst 0, 1) := by decide +kernel
theorem d_Mo_load_96 : decode prog_12_method_23_code 96 = .ok (.istore_n 2, 1) := by decide +kernel
theorem d_Mo_load_97 : decode prog_12_method_23_code 97 = .ok (.iload_n 2, 1) := by decide +kernel
theorem d_Mo_load_98 : decode prog_12_method_23_code 98 = .ok (.bipush 90, 2) := by decide +kernel
theorem d_Mo_load_100 : decode prog_12_method_23_code 100 = .ok (.if_icmp .ge 23, 3) := by decide +kernel
theorem d_Mo_load_103 : decode prog_12_method_23_code 103 = .ok (.aload_n 0, 1) := by decide +kernel
theorem d_Mo_load_104 : decode prog_12_method_23_code 104 = .ok (.getfield 73, 3) := by decide +kernel
theorem d_Mo_load_107 : decode prog_12_method_23_code 107 = .ok (.iload_n 2, 1) := by decide +kernel
theorem d_Mo_load_108 : decode prog_12_method_23_code 108 = .ok (.aload_n 0, 1) := by decide +kernel
theorem d_Mo_load_109 : decode prog_12_method_23_code 109 = .ok (.getfield 76, 3) := by decide +kernel
theorem d_Mo_load_112 : decode prog_12_method_23_code 112 = .ok (.iload_n 2, 1) := by decide +kernel
theorem d_Mo_load_113 : decode prog_12_method_23_code 113 = .ok (.iconst 0, 1) := by decide +kernel
theorem d_Mo_load_114 : decode prog_12_method_23_code 114 = .ok (.dup_x2, 1) := by decide +kernel
theorem d_Mo_load_115 : decode prog_12_method_23_code 115 = .ok (.bastore, 1) := by decide +kernel
theorem d_Mo_load_116 : decode prog_12_method_23_code 116 = .ok (.bastore, 1) := by decide +kernel
theorem d_Mo_load_117 : decode prog_12_method_23_code 117 = .ok (.iinc 2 1, 3) := by decide +kernel
theorem d_Mo_load_120 : decode prog_12_method_23_code 120 = .ok (.goto (-23), 3) := by decide +kernel
theorem d_Mo_load_123 : decode prog_12_method_23_code 123 = .ok (.aload_n 0, 1) := by decide +kernel
theorem d_Mo_load_124 : decode prog_12_method_23_code 124 = .ok (.aload_n 0, 1) := by decide +kernel
theorem d_Mo_load_125 : decode prog_12_method_23_code 125 = .ok (.aload_n 0, 1) := by decide +kernel
theorem d_Mo_load_126 : decode prog_12_method_23_code 126 = .ok (.aload_n 0, 1) := by decide +kernel
theorem d_Mo_load_127 : decode prog_12_method_23_code 127 = .ok (.aload_n 0, 1) := by decide +kernel
theorem d_Mo_load_128 : decode prog_12_method_23_code 128 = .ok (.iconst 0, 1) := by decide +kernel
theorem d_Mo_load_129 : decode prog_12_method_23_code 129 = .ok (.dup_x1, 1) := by decide +kernel
theorem d_Mo_load_130 : decode prog_12_method_23_code 130 = .ok (.putfield 189, 3) := by decide +kernel
theorem d_Mo_load_133 : decode prog_12_method_23_code 133 = .ok (.dup_x1, 1) := by decide +kernel
theorem d_Mo_load_134 : decode prog_12_method_23_code 134 = .ok (.putfield 192, 3) := by decide +kernel
theorem d_Mo_load_137 : decode prog_12_method_23_code 137 = .ok (.dup_x1, 1) := by decide +kernel
theorem d_Mo_load_138 : decode prog_12_method_23_code 138 = .ok (.putfield 195, 3) := by decide +kernel
theorem d_Mo_load_141 : decode prog_12_method_23_code 141 = .ok (.dup_x1, 1) := by decide +kernel
theorem d_Mo_load_142 : decode prog_12_method_23_code 142 = .ok (.putfield 198, 3) := by decide +kernel
theorem d_Mo_load_145 : decode prog_12_method_23_code 145 = .ok (.putfield 201, 3) := by decide +kernel
theorem d_Mo_load_148 : decode prog_12_method_23_code 148 = .ok (.aload_n 0, 1) := by decide +kernel
theorem d_Mo_load_149 : decode prog_12_method_23_code 149 = .ok (.lconst 0, 1) := by decide +kernel
theorem d_Mo_load_150 : decode prog_12_method_23_code 150 = .ok (.putfield 204, 3) := by decide +kernel
theorem d_Mo_load_153 : decode prog_12_method_23_code 153 = .ok (.aload_n 0, 1) := by decide +kernel
theorem d_Mo_load_154 : decode prog_12_method_23_code 154 = .ok (.iconst (-1), 1) := by decide +kernel
theorem d_Mo_load_155 : decode prog_12_method_23_code 155 = .ok (.putfield 79, 3) := by decide +kernel
theorem d_Mo_load_158 : decode prog_12_method_23_code 158 = .ok (.aload_n 0, 1) := by decide +kernel
theorem d_Mo_load_159 : decode prog_12_method_23_code 159 = .ok (.aload_n 0, 1) := by decide +kernel
theorem d_Mo_load_160 : decode prog_12_method_23_code 160 = .ok (.getfield 13, 3) := by decide +kernel
theorem d_Mo_load_163 : decode prog_12_method_23_code 163 = .ok (.iconst 0, 1) := by decide +kernel
theorem d_Mo_load_164 : decode prog_12_method_23_code 164 = .ok (.iaload, 1) := by decide +kernel
theorem d_Mo_load_165 : decode prog_12_method_23_code 165 = .ok (.bipush 12, 2) := by decide +kernel
theorem d_Mo_load_167 : decode prog_12_method_23_code 167 = .ok (.if_icmp .ne 7, 3) := by decide +kernel
theorem d_Mo_load_170 : decode prog_12_method_23_code 170 = .ok (.iconst 2, 1) := by decide +kernel
theorem d_Mo_load_171 : decode prog_12_method_23_code 171 = .ok (.goto 4, 3) := by decide +kernel
theorem d_Mo_load_174 : decode prog_12_method_23_code 174 = .ok (.iconst 1, 1) := by decide +kernel
theorem d_Mo_load_175 : decode prog_12_method_23_code 175 = .ok (.putfield 208, 3) := by decide +kernel
theorem d_Mo_load_178 : decode prog_12_method_23_code 178 = .ok (.aload_n 0, 1) := by decide +kernel
theorem d_Mo_load_179 : decode prog_12_method_23_code 179 = .ok (.getfield 208, 3) := by decide +kernel
theorem d_Mo_load_182 : decode prog_12_method_23_code 182 = .ok (.iconst 1, 1) := by decide +kernel
theorem d_Mo_load_183 : decode prog_12_method_23_code 183 = .ok (.if_icmp .ne 9, 3) := by decide +kernel
theorem d_Mo_load_186 : decode prog_12_method_23_code 186 = .ok (.aload_n 0, 1) := by decide +kernel
theorem d_Mo_load_187 : decode prog_12_method_23_code 187 = .ok (.iconst 0, 1) := by decide +kernel
theorem d_Mo_load_188 : decode prog_12_method_23_code 188 = .ok (.iconst (-1), 1) := by decide +kernel
theorem d_Mo_load_189 : decode prog_12_method_23_code 189 = .ok (.invokevirtual 211, 3) := by decide +kernel
theorem d_Mo_load_192 : decode prog_12_method_23_code 192 = .ok (.aload_n 0, 1) := by decide +kernel
theorem d_Mo_load_193 : decode prog_12_method_23_code 193 = .ok (.getfield 171, 3) := by decide +kernel
theorem d_Mo_load_196 : decode prog_12_method_23_code 196 = .ok (.ireturn, 1) := by decide +kernel
set_option maxHeartbeats 4000000 in
set_option maxRecDepth 100000 in
theorem c_Mo_read (l : Launch) (dC : Nat → ClassId) (dI : Nat → Nat → Nat) (ar : Nat → ClassId) (N0 : Nat) (z : Nat → Nat) (h0 : Nat) (fs : List Value) (sz : Nat) (hfs : fs.length = 45) (g_size : fs[4]? = some (.int 0)) : Met l ({ cls := "ChannelMachineModel", name := "read", desc := "()Z" } : Jvm.MethodName) ((Jvm.Cond.code ({ cls := "ChannelMachineModel", name := "read", desc := "()Z" } : Jvm.MethodName) prog_12_method_22_code (5 : Nat) (Option.some Jvm.ClassFile.FieldType.boolean)) :: x_T) ({ frames := 3, cells := 0, slots := 0, locals := 67 }) (x_Pc (dC, dI) ar N0 z [(h0, .inr (6, fs))] sz [.ref h0]) (va_Qi (fun (r : Int32) (u : Unit) => r = 0) (fun u t => ∃ fz : List Value, va_P (dC, dI) x_cl [(h0, .inr (6, fz))] t.heap ∧ va_D (va_A [(h0, .inr (6, fs))] sz) [(h0, .inr (6, fz))] ∧ fz.length = 45 ∧ fz[6]? = some (.int 0)) (va_A [(h0, .inr (6, fs))] sz)) 0 0 (va_A [(h0, .inr (6, fs))] sz) := by
  refine Met.ofW (cc := prog_12_method_22_code) (maxL := 5) (ret := (some .boolean)) (by decide) rfl ?_
  intro p e s m args below meth c s₁ B hml hv
  obtain ⟨rfl, hsz, hN0, hP, hU, hZ, hD0⟩ := hv
  have hK := hU.1
  have hx := B.exec
  have hb := B.bytes
  have hr := B.returns
  have hts : ∀ w ∈ x_T, w.before ([.ref h0] : List Value).toArray s = true := fun w h => atoms_spec (ws := (Jvm.Cond.code ({ cls := "ChannelMachineModel", name := "read", desc := "()Z" } : Jvm.MethodName) prog_12_method_22_code (5 : Nat) (Option.some Jvm.ClassFile.FieldType.boolean)) :: x_T) B.pre w (List.mem_cons_of_mem _ h)
  have hown : s.vm.findClass "ChannelMachineModel" = some m.cls := findClass_of_methodNamed B.named
  have hlocks := B.notSynchronized
  subst hsz
  have hD := hD0.self (sz := s.heap.size)
  have hAN := x_AN hD0 hN0
  generalize hAe : va_A [(h0, .inr (6, fs))] s.heap.size = A at hD hAN ⊢
  have hA : ∀ q : Nat, s.heap.size ≤ q → A q := fun q h => by rw [← hAe]; exact Or.inr h
  have hS : va_S A s.heap s.heap [] := va_S.rf
  have hP : va_P (dC, dI) x_cl [(h0, .inr (6, fs))] s.heap := hP
  have hl := lv_entry ([.ref h0]) (n := 5) (Nat.le_of_ble_eq_true rfl)
  rw [lg_entry_eq]
  generalize (lg_sl ([.ref h0]) ++ List.replicate (5 - (lg_sl ([.ref h0])).length) Slot.unset).toArray = ls at hl ⊢
  have hl : lv_has ls 5 [(0, .ref h0)] := hl
  have hH0 : s.heap.size ≤ s.heap.size := Nat.le_refl _
  refine lv_aload_n hx hb d_Mo_read_0 rfl (lv_at hl 0 rfl) ?_
  refine lv_iconst (v := 0) hx hb d_Mo_read_1 (by decide) ?_
  refine va_put (D := (dC, dI)) (ci := 6) (v := .int 0) (ty := .int) (C := "ChannelMachineModel") (T := F_Mo) (N := 45) hx hb hts i_Mo t_Mo t_Mo_ok n_Mo hown hK hP hD hS 0 rfl rfl 6 (by decide) (hts _ k_973) (fun _ h9 => h9) rfl (by decide +kernel) rfl rfl (by first | omega | (simp; omega)) d_Mo_read_2 (fun H locs hP hD hS => ?_)
  have hP : va_P (dC, dI) x_cl [(h0, .inr (6, (fs.set 6 (.int 0))))] H := hP
  have hD : va_D A [(h0, .inr (6, (fs.set 6 (.int 0))))] := hD
  refine lv_aload_n hx hb d_Mo_read_5 rfl (lv_at hl 0 rfl) ?_
  refine lv_iconst (v := 0) hx hb d_Mo_read_6 (by decide) ?_
  refine va_put (D := (dC, dI)) (ci := 6) (v := .int 0) (ty := .int) (C := "ChannelMachineModel") (T := F_Mo) (N := 45) hx hb hts i_Mo t_Mo t_Mo_ok n_Mo hown hK hP hD hS 0 rfl rfl 7 (by decide) (hts _ k_974) (fun _ h9 => h9) rfl (by decide +kernel) rfl rfl (by first | omega | (simp; omega)) d_Mo_read_7 (fun H locs hP hD hS => ?_)
  have hP : va_P (dC, dI) x_cl [(h0, .inr (6, ((fs.set 6 (.int 0)).set 7 (.int 0))))] H := hP
  have hD : va_D A [(h0, .inr (6, ((fs.set 6 (.int 0)).set 7 (.int 0))))] := hD
  refine lv_aload_n hx hb d_Mo_read_10 rfl (lv_at hl 0 rfl) ?_
  refine lv_iconst (v := 0) hx hb d_Mo_read_11 (by decide) ?_
  refine va_put (D := (dC, dI)) (ci := 6) (v := .int 0) (ty := .int) (C := "ChannelMachineModel") (T := F_Mo) (N := 45) hx hb hts i_Mo t_Mo t_Mo_ok n_Mo hown hK hP hD hS 0 rfl rfl 18 (by decide) (hts _ k_985) (fun _ h9 => h9) rfl (by decide +kernel) rfl rfl (by first | omega | (simp; omega)) d_Mo_read_12 (fun H locs hP hD hS => ?_)
  have hP : va_P (dC, dI) x_cl [(h0, .inr (6, (((fs.set 6 (.int 0)).set 7 (.int 0)).set 18 (.int 0))))] H := hP
  have hD : va_D A [(h0, .inr (6, (((fs.set 6 (.int 0)).set 7 (.int 0)).set 18 (.int 0))))] := hD
  refine lv_aload_n hx hb d_Mo_read_15 rfl (lv_at hl 0 rfl) ?_
  refine lv_iconst (v := 0) hx hb d_Mo_read_16 (by decide) ?_
  refine va_put (D := (dC, dI)) (ci := 6) (v := .int 0) (ty := .int) (C := "ChannelMachineModel") (T := F_Mo) (N := 45) hx hb hts i_Mo t_Mo t_Mo_ok n_Mo hown hK hP hD hS 0 rfl rfl 8 (by decide) (hts _ k_975) (fun _ h9 => h9) rfl (by decide +kernel) rfl rfl (by first | omega | (simp; omega)) d_Mo_read_17 (fun H locs hP hD hS => ?_)
  have hP : va_P (dC, dI) x_cl [(h0, .inr (6, ((((fs.set 6 (.int 0)).set 7 (.int 0)).set 18 (.int 0)).set 8 (.int 0))))] H := hP
  have hD : va_D A [(h0, .inr (6, ((((fs.set 6 (.int 0)).set 7 (.int 0)).set 18 (.int 0)).set 8 (.int 0))))] := hD
  refine lv_iconst (v := 1) hx hb d_Mo_read_20 (by decide) ?_
  refine lv_istore_n (lv' := [(1, .int 1), (0, .ref h0)]) hx hb d_Mo_read_21 rfl hl (by decide) rfl (fun ls hl => ?_)
  refine lv_iload_n hx hb d_Mo_read_22 rfl (lv_at hl 0 rfl) ?_
  refine lv_if_eq (tgt := 190) hx hb d_Mo_read_23 (by decide) (fun c1 => absurd c1 (by decide)) (fun _ => ?_)
  refine lv_aload_n hx hb d_Mo_read_26 rfl (lv_at hl 1 rfl) ?_
  refine va_get (D := (dC, dI)) (ci := 6) (v := .int 0) (C := "ChannelMachineModel") (T := F_Mo) (N := 45) hx hb hts i_Mo hown hK hP 0 rfl rfl 18 (by decide) (hts _ k_985) (fun _ h9 => h9) (x_gs (by decide) (x_ge (by first | omega | (simp; omega)))) d_Mo_read_27 ?_
  refine lv_if_le (tgt := 48) hx hb d_Mo_read_30 (by decide) (fun _ => ?_) (fun c2 => absurd (by decide) c2)
  refine lv_aload_n hx hb d_Mo_read_48 rfl (lv_at hl 1 rfl) ?_
  refine va_get (D := (dC, dI)) (ci := 6) (v := .int 0) (C := "ChannelMachineModel") (T := F_Mo) (N := 45) hx hb hts i_Mo hown hK hP 0 rfl rfl 18 (by decide) (hts _ k_985) (fun _ h9 => h9) (x_gs (by decide) (x_ge (by first | omega | (simp; omega)))) d_Mo_read_49 ?_
  refine lv_iconst (v := 1) hx hb d_Mo_read_52 (by decide) ?_
  refine lv_isub hx hb d_Mo_read_53 ?_
  refine W.eq (g2 := F0 m 54 ls [.int (-1)]) rfl ?_
  refine lv_istore_n (lv' := [(2, .int (-1)), (1, .int 1), (0, .ref h0)]) hx hb d_Mo_read_54 rfl hl (by decide) rfl (fun ls hl => ?_)
  refine lv_aload_n hx hb d_Mo_read_55 rfl (lv_at hl 2 rfl) ?_
  refine va_get (D := (dC, dI)) (ci := 6) (v := .int 0) (C := "ChannelMachineModel") (T := F_Mo) (N := 45) hx hb hts i_Mo hown hK hP 0 rfl rfl 18 (by decide) (hts _ k_985) (fun _ h9 => h9) (x_gs (by decide) (x_ge (by first | omega | (simp; omega)))) d_Mo_read_56 ?_
  refine lv_iconst (v := 1) hx hb d_Mo_read_59 (by decide) ?_
  refine lv_iadd hx hb d_Mo_read_60 ?_
  refine W.eq (g2 := F0 m 61 ls [.int 1]) rfl ?_
  refine lv_istore_n (lv' := [(3, .int 1), (2, .int (-1)), (1, .int 1), (0, .ref h0)]) hx hb d_Mo_read_61 rfl hl (by decide) rfl (fun ls hl => ?_)
  refine lv_aload_n hx hb d_Mo_read_62 rfl (lv_at hl 3 rfl) ?_
  refine va_get (D := (dC, dI)) (ci := 6) (v := .int 0) (C := "ChannelMachineModel") (T := F_Mo) (N := 45) hx hb hts i_Mo hown hK hP 0 rfl rfl 18 (by decide) (hts _ k_985) (fun _ h9 => h9) (x_gs (by decide) (x_ge (by first | omega | (simp; omega)))) d_Mo_read_63 ?_
  refine lv_if_le (tgt := 90) hx hb d_Mo_read_66 (by decide) (fun _ => ?_) (fun c3 => absurd (by decide) c3)
  refine lv_aload_n hx hb d_Mo_read_90 rfl (lv_at hl 3 rfl) ?_
  refine va_get (D := (dC, dI)) (ci := 6) (v := .int 0) (C := "ChannelMachineModel") (T := F_Mo) (N := 45) hx hb hts i_Mo hown hK hP 0 rfl rfl 18 (by decide) (hts _ k_985) (fun _ h9 => h9) (x_gs (by decide) (x_ge (by first | omega | (simp; omega)))) d_Mo_read_91 ?_
  refine lv_if_le (tgt := 153) hx hb d_Mo_read_94 (by decide) (fun _ => ?_) (fun c4 => absurd (by decide) c4)
  refine lv_aload_n hx hb d_Mo_read_153 rfl (lv_at hl 3 rfl) ?_
  refine lv_iload_n hx hb d_Mo_read_154 rfl (lv_at hl 0 rfl) ?_
  have hPc := hP.sub (ws' := [(h0, .inr (6, ((((fs.set 6 (.int 0)).set 7 (.int 0)).set 18 (.int 0)).set 8 (.int 0))))]) [0] rfl
  have hDc := hD.sub (ws' := [(h0, .inr (6, ((((fs.set 6 (.int 0)).set 7 (.int 0)).set 18 (.int 0)).set 8 (.int 0))))]) [0] (by decide) rfl
  have hFc := va_free (wc := [(h0, .inr (6, ((((fs.set 6 (.int 0)).set 7 (.int 0)).set 18 (.int 0)).set 8 (.int 0))))]) hD hS hA [0] rfl
  refine va_calli (va_runV (As := [.int 1]) (rest := []) ⟨hx, hb, hml, hown, hts⟩ (c_Mo_start l dC dI ar N0 z h0 ((((fs.set 6 (.int 0)).set 7 (.int 0)).set 18 (.int 0)).set 8 (.int 0)) H.size (x_gs (by decide) (x_gs (by decide) (x_gs (by decide) (x_ge (by first | omega | (simp; omega)))))) (x_gs (by decide) (x_gs (by decide) (x_gs (by decide) (x_gs (by decide) g_size)))) (x_gs (by decide) (x_gs (by decide) (x_ge (by first | omega | (simp; omega)))))) (cwV 1 hts (x_goodV k_1182 k_1184 kp_62 k_9 k_1185) rfl rfl rfl (by decide +kernel) ⟨Nat.le_of_ble_eq_true rfl, Nat.le_of_ble_eq_true rfl⟩) ⟨x_blind, va_recv hK hPc (ci := 6) (q0 := 0) rfl rfl, fun U hU9 hW => x_pre hU9 hW hPc hDc hU hZ hS hAN hN0⟩ rfl rfl hl.1 rfl (lv_room (Nat.le_of_ble_eq_true rfl)) d_Mo_read_155 ⟨Nat.le_of_ble_eq_true rfl, Nat.le_of_ble_eq_true rfl⟩) hS (fun q _ h => hFc q h) hFc (fun r5 u6 t H1 locs ht hvm hw hB hz1 hk1 hS => ?_)
  obtain ⟨hP1, hD1⟩ := hB
  rw [ht] at hP1
  obtain ⟨hP, hD⟩ := va_join (wr := []) (w1 := [(h0, .inr (6, ((((fs.set 6 (.int 0)).set 7 (.int 0)).set 18 (.int 0)).set 8 (.int 0))))]) hP hD [0] [] rfl rfl (by decide) (by decide) hk1 hFc hP1 hD1
  generalize H1 = H at hP hS ⊢
  have hP : va_P (dC, dI) x_cl [(h0, .inr (6, ((((fs.set 6 (.int 0)).set 7 (.int 0)).set 18 (.int 0)).set 8 (.int 0))))] H := hP
  have hD : va_D A [(h0, .inr (6, ((((fs.set 6 (.int 0)).set 7 (.int 0)).set 18 (.int 0)).set 8 (.int 0))))] := hD
  refine W.widen (k := 0) (n := 0) (Nat.le_of_ble_eq_true rfl) (Nat.le_of_ble_eq_true rfl) ?_
  obtain rfl := hw
  refine lv_istore (lv' := [(4, .int (-1)), (3, .int 1), (2, .int (-1)), (1, .int 1), (0, .ref h0)]) hx hb d_Mo_read_158 hl (by decide) rfl (fun ls hl => ?_)
  refine lv_iload hx hb d_Mo_read_160 (lv_at hl 0 rfl) ?_
  refine lv_if_ge (tgt := 167) hx hb d_Mo_read_162 (by decide) (fun c7 => absurd c7 (by decide)) (fun _ => ?_)
  refine lv_iconst (v := 0) hx hb d_Mo_read_165 (by decide) ?_
  refine W.widen (k := 0) (n := 0) (Nat.le_of_ble_eq_true rfl) (Nat.le_of_ble_eq_true rfl) ?_
  exact W.zret (v := 0) hx hb hr (rfl) (fun t ht hW => ⟨⟨0, (), rfl, rfl, ⟨((((fs.set 6 (.int 0)).set 7 (.int 0)).set 18 (.int 0)).set 8 (.int 0)), by rw [ht]; exact hP, hD, by simp; exact hfs, (x_gs (by decide) (x_gs (by decide) (x_gs (by decide) (x_ge (by first | omega | (simp; omega))))))⟩⟩, hS.F ht⟩) hS.2.2 d_Mo_read_166
set_option maxHeartbeats 4000000 in
set_option maxRecDepth 100000 in
theorem c_Mo_load (l : Launch) (dC : Nat → ClassId) (dI : Nat → Nat → Nat) (ar : Nat → ClassId) (N0 : Nat) (z : Nat → Nat) (h0 : Nat) (fs : List Value) (sz : Nat) (hfs : fs.length = 45) (g_size : fs[4]? = some (.int 0)) : Met l ({ cls := "ChannelMachineModel", name := "load", desc := "()I" } : Jvm.MethodName) ((Jvm.Cond.code ({ cls := "ChannelMachineModel", name := "load", desc := "()I" } : Jvm.MethodName) prog_12_method_23_code (3 : Nat) (Option.some Jvm.ClassFile.FieldType.int)) :: x_T) ({ frames := 4, cells := 0, slots := 0, locals := 91 }) (x_Pc (dC, dI) ar N0 z [(h0, .inr (6, fs))] sz [.ref h0]) (va_Qi (fun (r : Int32) (u : Int32) => u = 1) (fun u t => ∃ fz : List Value, va_P (dC, dI) x_cl [(h0, .inr (6, fz))] t.heap ∧ va_D (va_A [(h0, .inr (6, fs))] sz) [(h0, .inr (6, fz))] ∧ fz[33]? = some (.int u)) (va_A [(h0, .inr (6, fs))] sz)) 0 0 (va_A [(h0, .inr (6, fs))] sz) := by
  refine Met.ofW (cc := prog_12_method_23_code) (maxL := 3) (ret := (some .int)) (by decide) rfl ?_
  intro p e s m args below meth c s₁ B hml hv
  obtain ⟨rfl, hsz, hN0, hP, hU, hZ, hD0⟩ := hv
  have hK := hU.1
  have hx := B.exec
  have hb := B.bytes
  have hr := B.returns
  have hts : ∀ w ∈ x_T, w.before ([.ref h0] : List Value).toArray s = true := fun w h => atoms_spec (ws := (Jvm.Cond.code ({ cls := "ChannelMachineModel", name := "load", desc := "()I" } : Jvm.MethodName) prog_12_method_23_code (3 : Nat) (Option.some Jvm.ClassFile.FieldType.int)) :: x_T) B.pre w (List.mem_cons_of_mem _ h)
  have hown : s.vm.findClass "ChannelMachineModel" = some m.cls := findClass_of_methodNamed B.named
  have hlocks := B.notSynchronized
  subst hsz
  have hD := hD0.self (sz := s.heap.size)
  have hAN := x_AN hD0 hN0
  generalize hAe : va_A [(h0, .inr (6, fs))] s.heap.size = A at hD hAN ⊢
  have hA : ∀ q : Nat, s.heap.size ≤ q → A q := fun q h => by rw [← hAe]; exact Or.inr h
  have hS : va_S A s.heap s.heap [] := va_S.rf
  have hP : va_P (dC, dI) x_cl [(h0, .inr (6, fs))] s.heap := hP
  have hl := lv_entry ([.ref h0]) (n := 3) (Nat.le_of_ble_eq_true rfl)
  rw [lg_entry_eq]
  generalize (lg_sl ([.ref h0]) ++ List.replicate (3 - (lg_sl ([.ref h0])).length) Slot.unset).toArray = ls at hl ⊢
  have hl : lv_has ls 3 [(0, .ref h0)] := hl
  have hH0 : s.heap.size ≤ s.heap.size := Nat.le_refl _
  refine lv_aload_n hx hb d_Mo_load_0 rfl (lv_at hl 0 rfl) ?_
  have hPc := hP.sub (ws' := [(h0, .inr (6, fs))]) [0] rfl
  have hDc := hD.sub (ws' := [(h0, .inr (6, fs))]) [0] (by decide) rfl
  have hFc := va_free (wc := [(h0, .inr (6, fs))]) hD hS hA [0] rfl
  refine va_calli (va_runV (As := []) (rest := []) ⟨hx, hb, hml, hown, hts⟩ (c_Mo_read l dC dI ar N0 z h0 fs s.heap.size (by first | exact hfs | exact hfz | (simp; exact hfs) | (simp; exact hfz)) g_size) (cwV 0 hts (x_goodV k_1128 k_1130 kp_50 k_9 k_1131) rfl rfl rfl (by decide +kernel) ⟨Nat.le_of_ble_eq_true rfl, Nat.le_of_ble_eq_true rfl⟩) ⟨x_blind, va_recv hK hPc (ci := 6) (q0 := 0) rfl rfl, fun U hU9 hW => x_pre hU9 hW hPc hDc hU hZ hS hAN hN0⟩ rfl rfl hl.1 rfl (lv_room (Nat.le_of_ble_eq_true rfl)) d_Mo_load_1 ⟨Nat.le_of_ble_eq_true rfl, Nat.le_of_ble_eq_true rfl⟩) hS (fun q _ h => hFc q h) hFc (fun r1 u2 t H1 locs ht hvm hw hB hz1 hk1 hS => ?_)
  obtain ⟨fz, hP1, hD1, hfz, hpz⟩ := hB
  rw [ht] at hP1
  obtain ⟨hP, hD⟩ := va_join (wr := []) (w1 := [(h0, .inr (6, fz))]) hP hD [0] [] rfl rfl (by decide) (by decide) hk1 hFc hP1 hD1
  generalize H1 = H at hP hS ⊢
  have hP : va_P (dC, dI) x_cl [(h0, .inr (6, fz))] H := hP
  have hD : va_D A [(h0, .inr (6, fz))] := hD
  refine W.widen (k := 0) (n := 0) (Nat.le_of_ble_eq_true rfl) (Nat.le_of_ble_eq_true rfl) ?_
  obtain rfl := hw
  refine lv_istore_n (lv' := [(1, .int 0), (0, .ref h0)]) hx hb d_Mo_load_4 rfl hl (by decide) rfl (fun ls hl => ?_)
  refine lv_iload_n hx hb d_Mo_load_5 rfl (lv_at hl 0 rfl) ?_
  refine lv_if_ne (tgt := 17) hx hb d_Mo_load_6 (by decide) (fun c3 => absurd rfl c3) (fun _ => ?_)
  refine lv_aload_n hx hb d_Mo_load_9 rfl (lv_at hl 1 rfl) ?_
  refine lv_aload_n hx hb d_Mo_load_10 rfl (lv_at hl 1 rfl) ?_
  refine va_get (D := (dC, dI)) (ci := 6) (v := .int 0) (C := "ChannelMachineModel") (T := F_Mo) (N := 45) hx hb hts i_Mo hown hK hP 0 rfl rfl 6 (by decide) (hts _ k_973) (fun _ h9 => h9) hpz d_Mo_load_11 ?_
  refine va_put (D := (dC, dI)) (ci := 6) (v := .int 0) (ty := .int) (C := "ChannelMachineModel") (T := F_Mo) (N := 45) hx hb hts i_Mo t_Mo t_Mo_ok n_Mo hown hK hP hD hS 0 rfl rfl 5 (by decide) (hts _ k_972) (fun _ h9 => h9) rfl (by decide +kernel) rfl rfl (by first | omega | (simp; omega)) d_Mo_load_14 (fun H locs hP hD hS => ?_)
  have hP : va_P (dC, dI) x_cl [(h0, .inr (6, (fz.set 5 (.int 0))))] H := hP
  have hD : va_D A [(h0, .inr (6, (fz.set 5 (.int 0))))] := hD
  refine lv_aload_n hx hb d_Mo_load_17 rfl (lv_at hl 1 rfl) ?_
  refine lv_iconst (v := 0) hx hb d_Mo_load_18 (by decide) ?_
  refine va_put (D := (dC, dI)) (ci := 6) (v := .int 0) (ty := .int) (C := "ChannelMachineModel") (T := F_Mo) (N := 45) hx hb hts i_Mo t_Mo t_Mo_ok n_Mo hown hK hP hD hS 0 rfl rfl 4 (by decide) (hts _ k_971) (fun _ h9 => h9) rfl (by decide +kernel) rfl rfl (by first | omega | (simp; omega)) d_Mo_load_19 (fun H locs hP hD hS => ?_)
  have hP : va_P (dC, dI) x_cl [(h0, .inr (6, ((fz.set 5 (.int 0)).set 4 (.int 0))))] H := hP
  have hD : va_D A [(h0, .inr (6, ((fz.set 5 (.int 0)).set 4 (.int 0))))] := hD
  refine lv_aload_n hx hb d_Mo_load_22 rfl (lv_at hl 1 rfl) ?_
  refine lv_iload_n hx hb d_Mo_load_23 rfl (lv_at hl 0 rfl) ?_
  have hPc := hP.sub (ws' := [(h0, .inr (6, ((fz.set 5 (.int 0)).set 4 (.int 0))))]) [0] rfl
  have hDc := hD.sub (ws' := [(h0, .inr (6, ((fz.set 5 (.int 0)).set 4 (.int 0))))]) [0] (by decide) rfl
  have hFc := va_free (wc := [(h0, .inr (6, ((fz.set 5 (.int 0)).set 4 (.int 0))))]) hD hS hA [0] rfl
  refine va_calli (va_runV (As := [.int 0]) (rest := []) ⟨hx, hb, hml, hown, hts⟩ (c_Mo_bad l dC dI ar N0 z h0 ((fz.set 5 (.int 0)).set 4 (.int 0)) (0) H.size (by first | exact hfs | exact hfz | (simp; exact hfs) | (simp; exact hfz))) (cwV 1 hts (x_goodV k_1116 k_1118 kp_48 k_9 k_1119) rfl rfl rfl (by decide +kernel) ⟨Nat.le_of_ble_eq_true rfl, Nat.le_of_ble_eq_true rfl⟩) ⟨x_blind, va_recv hK hPc (ci := 6) (q0 := 0) rfl rfl, fun U hU9 hW => x_pre hU9 hW hPc hDc hU hZ hS hAN hN0⟩ rfl rfl hl.1 rfl (lv_room (Nat.le_of_ble_eq_true rfl)) d_Mo_load_24 ⟨Nat.le_of_ble_eq_true rfl, Nat.le_of_ble_eq_true rfl⟩) hS (fun q _ h => hFc q h) hFc (fun r4 u5 t H1 locs ht hvm hw hB hz1 hk1 hS => ?_)
  obtain ⟨hP1, hD1⟩ := hB
  rw [ht] at hP1
  obtain ⟨hP, hD⟩ := va_join (wr := []) (w1 := [(h0, .inr (6, (((fz.set 5 (.int 0)).set 4 (.int 0)).set 33 (.int u5))))]) hP hD [0] [] rfl rfl (by decide) (by decide) hk1 hFc hP1 hD1
  generalize H1 = H at hP hS ⊢
  have hP : va_P (dC, dI) x_cl [(h0, .inr (6, (((fz.set 5 (.int 0)).set 4 (.int 0)).set 33 (.int u5))))] H := hP
  have hD : va_D A [(h0, .inr (6, (((fz.set 5 (.int 0)).set 4 (.int 0)).set 33 (.int u5))))] := hD
  refine W.widen (k := 0) (n := 0) (Nat.le_of_ble_eq_true rfl) (Nat.le_of_ble_eq_true rfl) ?_
  rcases hw with ⟨h9, rfl, rfl⟩ | ⟨h9, rfl, rfl⟩
  · refine lv_if_eq (tgt := 32) hx hb d_Mo_load_27 (by decide) (fun c6 => absurd c6 (by decide)) (fun _ => ?_)
    refine lv_iconst (v := 0) hx hb d_Mo_load_30 (by decide) ?_
    refine W.widen (k := 0) (n := 0) (Nat.le_of_ble_eq_true rfl) (Nat.le_of_ble_eq_true rfl) ?_
    exact W.iret (v := 0) hx hb hr (fun t ht hW => ⟨⟨0, 1, rfl, rfl, ⟨(((fz.set 5 (.int 0)).set 4 (.int 0)).set 33 (.int 1)), by rw [ht]; exact hP.sub (ws' := [(h0, .inr (6, (((fz.set 5 (.int 0)).set 4 (.int 0)).set 33 (.int 1))))]) [0] rfl, hD.sub (ws' := [(h0, .inr (6, (((fz.set 5 (.int 0)).set 4 (.int 0)).set 33 (.int 1))))]) [0] (by decide) rfl, (x_ge (by first | omega | (simp; omega)))⟩⟩, hS.F ht⟩) hS.2.2 d_Mo_load_31
  · exact absurd rfl h9
