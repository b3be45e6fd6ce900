-- ===== 64.load: count, load of the reference, by program =====
theorem k_972 : (Jvm.Cond.fieldLink "ChannelMachineModel" (22 : Nat) "ChannelMachineModel" "place" "I") ∈ x_T := x_at 972 (by decide +kernel) (by decide +kernel)
theorem k_1128 : (Jvm.Cond.methodLink "ChannelMachineModel" (186 : Nat) ({ cls := "ChannelMachineModel", name := "read", desc := "()Z" } : Jvm.MethodName)) ∈ x_T := x_at 1128 (by decide +kernel) (by decide +kernel)
theorem k_1130 : (Jvm.Cond.instanceMethod ({ cls := "ChannelMachineModel", name := "read", desc := "()Z" } : Jvm.MethodName)) ∈ x_T := x_at 1130 (by decide +kernel) (by decide +kernel)
theorem k_1131 : (Jvm.Cond.code ({ cls := "ChannelMachineModel", name := "read", desc := "()Z" } : Jvm.MethodName) prog_12_method_22_code (5 : Nat) (Option.some Jvm.ClassFile.FieldType.boolean)) ∈ x_T := x_at 1131 (by decide +kernel) (by decide +kernel)
theorem kp_50 : (Jvm.Cond.selects "ChannelMachineModel" ({ cls := "ChannelMachineModel", name := "read", desc := "()Z" } : Jvm.MethodName) ({ cls := "ChannelMachineModel", name := "read", desc := "()Z" } : Jvm.MethodName)) ∈ x_T := x_sel (q := (({ cls := "ChannelMachineModel", name := "read", desc := "()Z" } : Jvm.MethodName), 45)) 50 (by decide +kernel) (by decide +kernel)
theorem d_Mo_count_0 : decode prog_12_method_48_code 0 = .ok (.aload_n 0, 1) := by decide +kernel
theorem d_Mo_count_1 : decode prog_12_method_48_code 1 = .ok (.iconst 0, 1) := by decide +kernel
theorem d_Mo_count_2 : decode prog_12_method_48_code 2 = .ok (.putfield 103, 3) := by decide +kernel
theorem d_Mo_count_5 : decode prog_12_method_48_code 5 = .ok (.iconst 0, 1) := by decide +kernel
theorem d_Mo_count_6 : decode prog_12_method_48_code 6 = .ok (.istore_n 2, 1) := by decide +kernel
theorem d_Mo_count_7 : decode prog_12_method_48_code 7 = .ok (.iconst 0, 1) := by decide +kernel
theorem d_Mo_count_8 : decode prog_12_method_48_code 8 = .ok (.istore_n 3, 1) := by decide +kernel
theorem d_Mo_count_9 : decode prog_12_method_48_code 9 = .ok (.iconst 0, 1) := by decide +kernel
theorem d_Mo_count_10 : decode prog_12_method_48_code 10 = .ok (.istore 4, 2) := by decide +kernel
theorem d_Mo_count_12 : decode prog_12_method_48_code 12 = .ok (.iload 4, 2) := by decide +kernel
theorem d_Mo_count_14 : decode prog_12_method_48_code 14 = .ok (.bipush 90, 2) := by decide +kernel
theorem d_Mo_count_16 : decode prog_12_method_48_code 16 = .ok (.if_icmp .ge 53, 3) := by decide +kernel
theorem d_Mo_count_19 : decode prog_12_method_48_code 19 = .ok (.aload_n 0, 1) := by decide +kernel
theorem d_Mo_count_20 : decode prog_12_method_48_code 20 = .ok (.getfield 208, 3) := by decide +kernel
theorem d_Mo_count_23 : decode prog_12_method_48_code 23 = .ok (.iconst 1, 1) := by decide +kernel
theorem d_Mo_count_24 : decode prog_12_method_48_code 24 = .ok (.if_icmp .ne 45, 3) := by decide +kernel
theorem d_Mo_count_27 : decode prog_12_method_48_code 27 = .ok (.aload_n 0, 1) := by decide +kernel
theorem d_Mo_count_28 : decode prog_12_method_48_code 28 = .ok (.getfield 73, 3) := by decide +kernel
theorem d_Mo_count_31 : decode prog_12_method_48_code 31 = .ok (.iload 4, 2) := by decide +kernel
theorem d_Mo_count_33 : decode prog_12_method_48_code 33 = .ok (.baload, 1) := by decide +kernel
theorem d_Mo_count_34 : decode prog_12_method_48_code 34 = .ok (.ifCond .eq 6, 3) := by decide +kernel
theorem d_Mo_count_37 : decode prog_12_method_48_code 37 = .ok (.iinc 2 1, 3) := by decide +kernel
theorem d_Mo_count_40 : decode prog_12_method_48_code 40 = .ok (.aload_n 0, 1) := by decide +kernel
theorem d_Mo_count_41 : decode prog_12_method_48_code 41 = .ok (.getfield 73, 3) := by decide +kernel
theorem d_Mo_count_44 : decode prog_12_method_48_code 44 = .ok (.iload 4, 2) := by decide +kernel
theorem d_Mo_count_46 : decode prog_12_method_48_code 46 = .ok (.baload, 1) := by decide +kernel
theorem d_Mo_count_47 : decode prog_12_method_48_code 47 = .ok (.ifCond .eq 16, 3) := by decide +kernel
theorem d_Mo_count_50 : decode prog_12_method_48_code 50 = .ok (.aload_n 0, 1) := by decide +kernel
theorem d_Mo_count_51 : decode prog_12_method_48_code 51 = .ok (.getfield 76, 3) := by decide +kernel
theorem d_Mo_count_54 : decode prog_12_method_48_code 54 = .ok (.iload 4, 2) := by decide +kernel
theorem d_Mo_count_56 : decode prog_12_method_48_code 56 = .ok (.baload, 1) := by decide +kernel
theorem d_Mo_count_57 : decode prog_12_method_48_code 57 = .ok (.ifCond .eq 6, 3) := by decide +kernel
theorem d_Mo_count_60 : decode prog_12_method_48_code 60 = .ok (.iinc 3 1, 3) := by decide +kernel
theorem d_Mo_count_63 : decode prog_12_method_48_code 63 = .ok (.iinc 4 1, 3) := by decide +kernel
theorem d_Mo_count_66 : decode prog_12_method_48_code 66 = .ok (.goto (-54), 3) := by decide +kernel
theorem d_Mo_count_69 : decode prog_12_method_48_code 69 = .ok (.iload_n 1, 1) := by decide +kernel
theorem d_Mo_count_70 : decode prog_12_method_48_code 70 = .ok (.tableswitch 115 0 8 #[50, 55, 61, 91, 93, 98, 103, 108, 113], 50) := by decide +kernel
theorem d_Mo_count_120 : decode prog_12_method_48_code 120 = .ok (.aload_n 0, 1) := by decide +kernel
theorem d_Mo_count_121 : decode prog_12_method_48_code 121 = .ok (.getfield 22, 3) := by decide +kernel
theorem d_Mo_count_124 : decode prog_12_method_48_code 124 = .ok (.ireturn, 1) := by decide +kernel
theorem d_Mo_count_125 : decode prog_12_method_48_code 125 = .ok (.aload_n 0, 1) := by decide +kernel
theorem d_Mo_count_126 : decode prog_12_method_48_code 126 = .ok (.getfield 204, 3) := by decide +kernel
theorem d_Mo_count_129 : decode prog_12_method_48_code 129 = .ok (.l2i, 1) := by decide +kernel
theorem d_Mo_count_130 : decode prog_12_method_48_code 130 = .ok (.ireturn, 1) := by decide +kernel
theorem d_Mo_count_131 : decode prog_12_method_48_code 131 = .ok (.aload_n 0, 1) := by decide +kernel
theorem d_Mo_count_132 : decode prog_12_method_48_code 132 = .ok (.getfield 208, 3) := by decide +kernel
theorem d_Mo_count_135 : decode prog_12_method_48_code 135 = .ok (.iconst 1, 1) := by decide +kernel
theorem d_Mo_count_136 : decode prog_12_method_48_code 136 = .ok (.if_icmp .ne 23, 3) := by decide +kernel
theorem d_Mo_count_139 : decode prog_12_method_48_code 139 = .ok (.aload_n 0, 1) := by decide +kernel
theorem d_Mo_count_140 : decode prog_12_method_48_code 140 = .ok (.getfield 201, 3) := by decide +kernel
theorem d_Mo_count_143 : decode prog_12_method_48_code 143 = .ok (.aload_n 0, 1) := by decide +kernel
theorem d_Mo_count_144 : decode prog_12_method_48_code 144 = .ok (.getfield 79, 3) := by decide +kernel
theorem d_Mo_count_147 : decode prog_12_method_48_code 147 = .ok (.ifCond .lt 7, 3) := by decide +kernel
theorem d_Mo_count_150 : decode prog_12_method_48_code 150 = .ok (.iconst 1, 1) := by decide +kernel
theorem d_Mo_count_151 : decode prog_12_method_48_code 151 = .ok (.goto 4, 3) := by decide +kernel
theorem d_Mo_count_154 : decode prog_12_method_48_code 154 = .ok (.iconst 0, 1) := by decide +kernel
theorem d_Mo_count_155 : decode prog_12_method_48_code 155 = .ok (.iadd, 1) := by decide +kernel
theorem d_Mo_count_156 : decode prog_12_method_48_code 156 = .ok (.goto 4, 3) := by decide +kernel
theorem d_Mo_count_159 : decode prog_12_method_48_code 159 = .ok (.iconst 0, 1) := by decide +kernel
theorem d_Mo_count_160 : decode prog_12_method_48_code 160 = .ok (.ireturn, 1) := by decide +kernel
theorem d_Mo_count_161 : decode prog_12_method_48_code 161 = .ok (.iload_n 2, 1) := by decide +kernel
theorem d_Mo_count_162 : decode prog_12_method_48_code 162 = .ok (.ireturn, 1) := by decide +kernel
theorem d_Mo_count_163 : decode prog_12_method_48_code 163 = .ok (.aload_n 0, 1) := by decide +kernel
theorem d_Mo_count_164 : decode prog_12_method_48_code 164 = .ok (.getfield 192, 3) := by decide +kernel
theorem d_Mo_count_167 : decode prog_12_method_48_code 167 = .ok (.ireturn, 1) := by decide +kernel
theorem d_Mo_count_168 : decode prog_12_method_48_code 168 = .ok (.aload_n 0, 1) := by decide +kernel
theorem d_Mo_count_169 : decode prog_12_method_48_code 169 = .ok (.getfield 198, 3) := by decide +kernel
theorem d_Mo_count_172 : decode prog_12_method_48_code 172 = .ok (.ireturn, 1) := by decide +kernel
theorem d_Mo_count_173 : decode prog_12_method_48_code 173 = .ok (.aload_n 0, 1) := by decide +kernel
theorem d_Mo_count_174 : decode prog_12_method_48_code 174 = .ok (.getfield 195, 3) := by decide +kernel
theorem d_Mo_count_177 : decode prog_12_method_48_code 177 = .ok (.ireturn, 1) := by decide +kernel
theorem d_Mo_count_178 : decode prog_12_method_48_code 178 = .ok (.aload_n 0, 1) := by decide +kernel
theorem d_Mo_count_179 : decode prog_12_method_48_code 179 = .ok (.getfield 208, 3) := by decide +kernel
theorem d_Mo_count_182 : decode prog_12_method_48_code 182 = .ok (.ireturn, 1) := by decide +kernel
theorem d_Mo_count_183 : decode prog_12_method_48_code 183 = .ok (.iload_n 3, 1) := by decide +kernel
theorem d_Mo_count_184 : decode prog_12_method_48_code 184 = .ok (.ireturn, 1) := by decide +kernel
theorem d_Mo_count_185 : decode prog_12_method_48_code 185 = .ok (.iconst (-1), 1) := by decide +kernel
theorem d_Mo_count_186 : decode prog_12_method_48_code 186 = .ok (.ireturn, 1) := by decide +kernel
theorem d_Mo_load_0 : decode prog_12_method_23_code 0 = .ok (.aload_n 0, 1) := by decide +kernel
theorem d_Mo_load_1 : decode prog_12_method_23_code 1 = .ok (.invokevirtual 186, 3) := by decide +kernel
theorem d_Mo_load_4 : decode prog_12_method_23_code 4 = .ok (.istore_n 1, 1) := by decide +kernel
theorem d_Mo_load_5 : decode prog_12_method_23_code 5 = .ok (.iload_n 1, 1) := by decide +kernel
theorem d_Mo_load_6 : decode prog_12_method_23_code 6 = .ok (.ifCond .ne 11, 3) := by decide +kernel
theorem d_Mo_load_9 : decode prog_12_method_23_code 9 = .ok (.aload_n 0, 1) := by decide +kernel
theorem d_Mo_load_10 : decode prog_12_method_23_code 10 = .ok (.aload_n 0, 1) := by decide +kernel
theorem d_Mo_load_11 : decode prog_12_method_23_code 11 = .ok (.getfield 121, 3) := by decide +kernel
theorem d_Mo_load_14 : decode prog_12_method_23_code 14 = .ok (.putfield 22, 3) := by decide +kernel
theorem d_Mo_load_17 : decode prog_12_method_23_code 17 = .ok (.aload_n 0, 1) := by decide +kernel
theorem d_Mo_load_18 : decode prog_12_method_23_code 18 = .ok (.iconst 0, 1) := by decide +kernel
theorem d_Mo_load_19 : decode prog_12_method_23_code 19 = .ok (.putfield 114, 3) := by decide +kernel
theorem d_Mo_load_22 : decode prog_12_method_23_code 22 = .ok (.aload_n 0, 1) := by decide +kernel
theorem d_Mo_load_23 : decode prog_12_method_23_code 23 = .ok (.iload_n 1, 1) := by decide +kernel
theorem d_Mo_load_24 : decode prog_12_method_23_code 24 = .ok (.invokevirtual 110, 3) := by decide +kernel
theorem d_Mo_load_27 : decode prog_12_method_23_code 27 = .ok (.ifCond .eq 5, 3) := by decide +kernel
theorem d_Mo_load_30 : decode prog_12_method_23_code 30 = .ok (.iconst 0, 1) := by decide +kernel
theorem d_Mo_load_31 : decode prog_12_method_23_code 31 = .ok (.ireturn, 1) := by decide +kernel
theorem d_Mo_load_32 : decode prog_12_method_23_code 32 = .ok (.iconst 0, 1) := by decide +kernel
theorem d_Mo_load_33 : decode prog_12_method_23_code 33 = .ok (.istore_n 2, 1) := by decide +kernel
theorem d_Mo_load_34 : decode prog_12_method_23_code 34 = .ok (.iload_n 2, 1) := by decide +kernel
theorem d_Mo_load_35 : decode prog_12_method_23_code 35 = .ok (.aload_n 0, 1) := by decide +kernel
theorem d_Mo_load_36 : decode prog_12_method_23_code 36 = .ok (.getfield 128, 3) := by decide +kernel
theorem d_Mo_load_39 : decode prog_12_method_23_code 39 = .ok (.if_icmp .ge 21, 3) := by decide +kernel
theorem d_Mo_load_42 : decode prog_12_method_23_code 42 = .ok (.aload_n 0, 1) := by decide +kernel
theorem d_Mo_load_43 : decode prog_12_method_23_code 43 = .ok (.getfield 13, 3) := by decide +kernel
theorem d_Mo_load_46 : decode prog_12_method_23_code 46 = .ok (.iload_n 2, 1) := by decide +kernel
theorem d_Mo_load_47 : decode prog_12_method_23_code 47 = .ok (.aload_n 0, 1) := by decide +kernel
theorem d_Mo_load_48 : decode prog_12_method_23_code 48 = .ok (.getfield 16, 3) := by decide +kernel
theorem d_Mo_load_51 : decode prog_12_method_23_code 51 = .ok (.iload_n 2, 1) := by decide +kernel
theorem d_Mo_load_52 : decode prog_12_method_23_code 52 = .ok (.iaload, 1) := by decide +kernel
theorem d_Mo_load_53 : decode prog_12_method_23_code 53 = .ok (.iastore, 1) := by decide +kernel
theorem d_Mo_load_54 : decode prog_12_method_23_code 54 = .ok (.iinc 2 1, 3) := by decide +kernel
theorem d_Mo_load_57 : decode prog_12_method_23_code 57 = .ok (.goto (-23), 3) := by decide +kernel
theorem d_Mo_load_60 : decode prog_12_method_23_code 60 = .ok (.iconst 0, 1) := by decide +kernel
theorem d_Mo_load_61 : decode prog_12_method_23_code 61 = .ok (.istore_n 2, 1) := by decide +kernel
theorem d_Mo_load_62 : decode prog_12_method_23_code 62 = .ok (.iload_n 2, 1) := by decide +kernel
theorem d_Mo_load_63 : decode prog_12_method_23_code 63 = .ok (.bipush 6, 2) := by decide +kernel
theorem d_Mo_load_65 : decode prog_12_method_23_code 65 = .ok (.if_icmp .ge 30, 3) := by decide +kernel
theorem d_Mo_load_68 : decode prog_12_method_23_code 68 = .ok (.aload_n 0, 1) := by decide +kernel
theorem d_Mo_load_69 : decode prog_12_method_23_code 69 = .ok (.getfield 19, 3) := by decide +kernel
theorem d_Mo_load_72 : decode prog_12_method_23_code 72 = .ok (.iload_n 2, 1) := by decide +kernel
theorem d_Mo_load_73 : decode prog_12_method_23_code 73 = .ok (.iconst 0, 1) := by decide +kernel
theorem d_Mo_load_74 : decode prog_12_method_23_code 74 = .ok (.iastore, 1) := by decide +kernel
theorem d_Mo_load_75 : decode prog_12_method_23_code 75 = .ok (.aload_n 0, 1) := by decide +kernel
theorem d_Mo_load_76 : decode prog_12_method_23_code 76 = .ok (.getfield 82, 3) := by decide +kernel
theorem d_Mo_load_79 : decode prog_12_method_23_code 79 = .ok (.iload_n 2, 1) := by decide +kernel
theorem d_Mo_load_80 : decode prog_12_method_23_code 80 = .ok (.iconst (-1), 1) := by decide +kernel
theorem d_Mo_load_81 : decode prog_12_method_23_code 81 = .ok (.iastore, 1) := by decide +kernel
theorem d_Mo_load_82 : decode prog_12_method_23_code 82 = .ok (.aload_n 0, 1) := by decide +kernel
theorem d_Mo_load_83 : decode prog_12_method_23_code 83 = .ok (.getfield 91, 3) := by decide +kernel
theorem d_Mo_load_86 : decode prog_12_method_23_code 86 = .ok (.iload_n 2, 1) := by decide +kernel
theorem d_Mo_load_87 : decode prog_12_method_23_code 87 = .ok (.iconst (-1), 1) := by decide +kernel
theorem d_Mo_load_88 : decode prog_12_method_23_code 88 = .ok (.iastore, 1) := by decide +kernel
theorem d_Mo_load_89 : decode prog_12_method_23_code 89 = .ok (.iinc 2 1, 3) := by decide +kernel
theorem d_Mo_load_92 : decode prog_12_method_23_code 92 = .ok (.goto (-30), 3) := by decide +kernel
theorem d_Mo_load_95 : decode prog_12_method_23_code 95 = .ok (.iconst 0, 1) := by decide +kernel
theorem d_Mo_load_96 : decode prog_12_method_23_code 96 = .ok (.istore_n 2, 1) := by decide +kernel
theorem d_Mo_load_97 : decode prog_12_method_23_code 97 = .ok (.iload_n 2, 1) := by decide +kernel
theorem d_Mo_load_98 : decode prog_12_method_23_code 98 = .ok (.bipush 90, 2) := by decide +kernel
theorem d_Mo_load_100 : decode prog_12_method_23_code 100 = .ok (.if_icmp .ge 23, 3) := by decide +kernel
theorem d_Mo_load_103 : decode prog_12_method_23_code 103 = .ok (.aload_n 0, 1) := by decide +kernel
theorem d_Mo_load_104 : decode prog_12_method_23_code 104 = .ok (.getfield 73, 3) := by decide +kernel
theorem d_Mo_load_107 : decode prog_12_method_23_code 107 = .ok (.iload_n 2, 1) := by decide +kernel
theorem d_Mo_load_108 : decode prog_12_method_23_code 108 = .ok (.aload_n 0, 1) := by decide +kernel
theorem d_Mo_load_109 : decode prog_12_method_23_code 109 = .ok (.getfield 76, 3) := by decide +kernel
theorem d_Mo_load_112 : decode prog_12_method_23_code 112 = .ok (.iload_n 2, 1) := by decide +kernel
theorem d_Mo_load_113 : decode prog_12_method_23_code 113 = .ok (.iconst 0, 1) := by decide +kernel
theorem d_Mo_load_114 : decode prog_12_method_23_code 114 = .ok (.dup_x2, 1) := by decide +kernel
theorem d_Mo_load_115 : decode prog_12_method_23_code 115 = .ok (.bastore, 1) := by decide +kernel
theorem d_Mo_load_116 : decode prog_12_method_23_code 116 = .ok (.bastore, 1) := by decide +kernel
theorem d_Mo_load_117 : decode prog_12_method_23_code 117 = .ok (.iinc 2 1, 3) := by decide +kernel
theorem d_Mo_load_120 : decode prog_12_method_23_code 120 = .ok (.goto (-23), 3) := by decide +kernel
theorem d_Mo_load_123 : decode prog_12_method_23_code 123 = .ok (.aload_n 0, 1) := by decide +kernel
theorem d_Mo_load_124 : decode prog_12_method_23_code 124 = .ok (.aload_n 0, 1) := by decide +kernel
theorem d_Mo_load_125 : decode prog_12_method_23_code 125 = .ok (.aload_n 0, 1) := by decide +kernel
theorem d_Mo_load_126 : decode prog_12_method_23_code 126 = .ok (.aload_n 0, 1) := by decide +kernel
theorem d_Mo_load_127 : decode prog_12_method_23_code 127 = .ok (.aload_n 0, 1) := by decide +kernel
theorem d_Mo_load_128 : decode prog_12_method_23_code 128 = .ok (.iconst 0, 1) := by decide +kernel
theorem d_Mo_load_129 : decode prog_12_method_23_code 129 = .ok (.dup_x1, 1) := by decide +kernel
theorem d_Mo_load_130 : decode prog_12_method_23_code 130 = .ok (.putfield 189, 3) := by decide +kernel
theorem d_Mo_load_133 : decode prog_12_method_23_code 133 = .ok (.dup_x1, 1) := by decide +kernel
theorem d_Mo_load_134 : decode prog_12_method_23_code 134 = .ok (.putfield 192, 3) := by decide +kernel
theorem d_Mo_load_137 : decode prog_12_method_23_code 137 = .ok (.dup_x1, 1) := by decide +kernel
theorem d_Mo_load_138 : decode prog_12_method_23_code 138 = .ok (.putfield 195, 3) := by decide +kernel
theorem d_Mo_load_141 : decode prog_12_method_23_code 141 = .ok (.dup_x1, 1) := by decide +kernel
theorem d_Mo_load_142 : decode prog_12_method_23_code 142 = .ok (.putfield 198, 3) := by decide +kernel
theorem d_Mo_load_145 : decode prog_12_method_23_code 145 = .ok (.putfield 201, 3) := by decide +kernel
theorem d_Mo_load_148 : decode prog_12_method_23_code 148 = .ok (.aload_n 0, 1) := by decide +kernel
theorem d_Mo_load_149 : decode prog_12_method_23_code 149 = .ok (.lconst 0, 1) := by decide +kernel
theorem d_Mo_load_150 : decode prog_12_method_23_code 150 = .ok (.putfield 204, 3) := by decide +kernel
theorem d_Mo_load_153 : decode prog_12_method_23_code 153 = .ok (.aload_n 0, 1) := by decide +kernel
theorem d_Mo_load_154 : decode prog_12_method_23_code 154 = .ok (.iconst (-1), 1) := by decide +kernel
theorem d_Mo_load_155 : decode prog_12_method_23_code 155 = .ok (.putfield 79, 3) := by decide +kernel
theorem d_Mo_load_158 : decode prog_12_method_23_code 158 = .ok (.aload_n 0, 1) := by decide +kernel
theorem d_Mo_load_159 : decode prog_12_method_23_code 159 = .ok (.aload_n 0, 1) := by decide +kernel
theorem d_Mo_load_160 : decode prog_12_method_23_code 160 = .ok (.getfield 13, 3) := by decide +kernel
theorem d_Mo_load_163 : decode prog_12_method_23_code 163 = .ok (.iconst 0, 1) := by decide +kernel
theorem d_Mo_load_164 : decode prog_12_method_23_code 164 = .ok (.iaload, 1) := by decide +kernel
theorem d_Mo_load_165 : decode prog_12_method_23_code 165 = .ok (.bipush 12, 2) := by decide +kernel
theorem d_Mo_load_167 : decode prog_12_method_23_code 167 = .ok (.if_icmp .ne 7, 3) := by decide +kernel
theorem d_Mo_load_170 : decode prog_12_method_23_code 170 = .ok (.iconst 2, 1) := by decide +kernel
theorem d_Mo_load_171 : decode prog_12_method_23_code 171 = .ok (.goto 4, 3) := by decide +kernel
theorem d_Mo_load_174 : decode prog_12_method_23_code 174 = .ok (.iconst 1, 1) := by decide +kernel
theorem d_Mo_load_175 : decode prog_12_method_23_code 175 = .ok (.putfield 208, 3) := by decide +kernel
theorem d_Mo_load_178 : decode prog_12_method_23_code 178 = .ok (.aload_n 0, 1) := by decide +kernel
theorem d_Mo_load_179 : decode prog_12_method_23_code 179 = .ok (.getfield 208, 3) := by decide +kernel
theorem d_Mo_load_182 : decode prog_12_method_23_code 182 = .ok (.iconst 1, 1) := by decide +kernel
theorem d_Mo_load_183 : decode prog_12_method_23_code 183 = .ok (.if_icmp .ne 9, 3) := by decide +kernel
theorem d_Mo_load_186 : decode prog_12_method_23_code 186 = .ok (.aload_n 0, 1) := by decide +kernel
theorem d_Mo_load_187 : decode prog_12_method_23_code 187 = .ok (.iconst 0, 1) := by decide +kernel
theorem d_Mo_load_188 : decode prog_12_method_23_code 188 = .ok (.iconst (-1), 1) := by decide +kernel
theorem d_Mo_load_189 : decode prog_12_method_23_code 189 = .ok (.invokevirtual 211, 3) := by decide +kernel
theorem d_Mo_load_192 : decode prog_12_method_23_code 192 = .ok (.aload_n 0, 1) := by decide +kernel
theorem d_Mo_load_193 : decode prog_12_method_23_code 193 = .ok (.getfield 171, 3) := by decide +kernel
theorem d_Mo_load_196 : decode prog_12_method_23_code 196 = .ok (.ireturn, 1) := by decide +kernel
section RI0
variable {A A' : Nat → Nat → Int32} {V : Nat → Prop} {own pown : Nat → Nat} {bl : List Nat} {role : Nat → Nat} {n : Nat}
theorem m_kc_no {th pa : Nat → Int32} {p : Nat} : ∀ n, (∀ t, t < n → ¬ th t = 0 → ¬ pa t = Int32.ofNat p) → m_kc th pa p n = 0 := by
  intro n
  induction n with
  | zero => intro _; rfl
  | succ n ih =>
    intro h
    unfold m_kc
    rw [ih (fun t ht => h t (by omega)), if_neg (fun h9 => h n (by omega) h9.1 h9.2)]
/-- the program's own task is made -/
theorem m_RI.init {t0 : Nat} (hw : m_WF (A 1) V own pown bl role n) (hn : n ≤ 1001) (ht0 : t0 < 90) (h27 : ∀ t, t < 90 → A 27 t = 0) (h35 : ∀ c, c < 6 → A 35 c = -1) (h38 : ∀ c, c < 6 → A 38 c = -1) (e1 : A' 1 = A 1) (e20 : A' 20 = upd (A 20) t0 0) (e21 : A' 21 = upd (A 21) t0 (-1)) (e22 : A' 22 = upd (A 22) t0 0) (e24 : A' 24 = upd (A 24) 0 (Int32.ofNat t0)) (e27 : A' 27 = upd (A 27) t0 1) (e28 : A' 28 = upd (A 28) t0 0) (e35 : A' 35 = A 35) (e38 : A' 38 = A 38) :
    m_RI A' 1 V own pown bl role n (fun _ => 0) (fun _ => 0) (fun x => if x = t0 then 1 else 0) := by
  have hal : ∀ t, t < 90 → m_al A' t → t = t0 := fun t ht ha => by
    by_cases e : t = t0
    · exact e
    · exact absurd (by rw [e27, upd_n e]; exact h27 t ht) ha
  have ha0 : m_al A' t0 := by unfold m_al; rw [e27, upd_s]; decide
  have h21 : A' 21 t0 = -1 := by rw [e21, upd_s]
  have hkc : ∀ p, m_kc (A' 27) (A' 21) p 90 = 0 ∨ 2147483648 ≤ p := fun p => by
    rcases Nat.lt_or_ge p 2147483648 with hp | hp
    · refine Or.inl (m_kc_no 90 (fun t ht h1 h2 => ?_))
      rw [hal t ht h1, h21] at h2
      exact x_n1 hp h2.symm
    · exact Or.inr hp
  refine ⟨⟨by rw [e1]; exact hw, hn⟩, ⟨fun t ht ha => ?_, fun t t' ht ht' ha ha' _ => (hal t ht ha).trans (hal t' ht' ha').symm, fun t ht ha => ?_, fun t ht ha => ?_, fun t ht ha _ => (hkc t).resolve_right (by omega)⟩, ⟨by omega, fun i hi => ?_, fun i j hi hj _ => by omega⟩, fun t ht ha h9 => ?_, fun c hc => Or.inl (by rw [e35]; exact h35 c hc), fun c hc => Or.inl (by rw [e38]; exact h38 c hc), fun c c' hc hc' _ h9 => absurd (by rw [e38]; exact h38 c hc) h9⟩
  · rw [hal t ht ha]
    exact ⟨by rw [e20, upd_s]; rfl, hw.2.2.1, hw.2.2.2.1, hw.2.2.2.2.1⟩
  · rw [hal t ht ha]; exact Or.inl ⟨h21, rfl⟩
  · have e := hal t ht ha
    subst e
    rw [(hkc t).resolve_right (by omega), e22, upd_s]; rfl
  · rw [show i = 0 by omega]
    exact ⟨t0, ht0, by rw [e24, upd_s], ha0, if_pos rfl⟩
  · rw [hal t ht ha, e28, upd_s] at h9
    exact absurd rfl h9
end RI0
set_option maxHeartbeats 4000000 in
set_option maxRecDepth 100000 in
theorem m_count (l : Launch) (dC : Nat → ClassId) (dI : Nat → Nat → Nat) (ar : Nat → ClassId) (N0 : Nat) (z : Nat → Nat) (h0 : Nat) (ad : Nat → Nat) (I : Nat → Int32) (T : Int64) (A : Nat → Nat → Int32) (U : Nat → Int64) (S : Nat) (vv : Int32) (sz : Nat) (hok : m_OK S I A) : Met l ({ cls := "ChannelMachineModel", name := "count", desc := "(I)I" } : Jvm.MethodName) ((Jvm.Cond.code ({ cls := "ChannelMachineModel", name := "count", desc := "(I)I" } : Jvm.MethodName) prog_12_method_48_code (5 : Nat) (Option.some Jvm.ClassFile.FieldType.int)) :: x_T) ({ frames := 0, cells := 0, slots := 0, locals := 0 }) (x_Pc (dC, dI) ar N0 z (m_W h0 ad ar I T A U) sz [.ref h0, .int vv]) (va_Qi (fun (r : Int32) (u : (Nat → Int32) × Int64 × (Nat → Nat → Int32) × (Nat → Int64)) => m_OK S u.1 u.2.2.1) (fun u t => va_P (dC, dI) x_cl (m_W h0 ad ar u.1 u.2.1 u.2.2.1 u.2.2.2) t.heap) (va_A (m_W h0 ad ar I T A U) sz)) 0 0 (va_A (m_W h0 ad ar I T A U) sz) := by
  refine Met.ofW (cc := prog_12_method_48_code) (maxL := 5) (ret := (some .int)) (by decide) rfl ?_
  intro p e s m args below meth c s₁ B hml hv
  obtain ⟨rfl, hsz, hN0, hP, hU, hZ, hD0⟩ := hv
  have hK := hU.1
  have hx := B.exec
  have hb := B.bytes
  have hr := B.returns
  have hts : ∀ w ∈ x_T, w.before ([.ref h0, .int vv] : List Value).toArray s = true := fun w h => atoms_spec (ws := (Jvm.Cond.code ({ cls := "ChannelMachineModel", name := "count", desc := "(I)I" } : Jvm.MethodName) prog_12_method_48_code (5 : Nat) (Option.some Jvm.ClassFile.FieldType.int)) :: x_T) B.pre w (List.mem_cons_of_mem _ h)
  have hown : s.vm.findClass "ChannelMachineModel" = some m.cls := findClass_of_methodNamed B.named
  have hlocks := B.notSynchronized
  subst hsz
  have hD := hD0.self (sz := s.heap.size)
  have hAN := x_AN hD0 hN0
  generalize hAe : va_A (m_W h0 ad ar I T A U) s.heap.size = Bq at hD hAN ⊢
  have hA : ∀ q : Nat, s.heap.size ≤ q → Bq q := fun q h => by rw [← hAe]; exact Or.inr h
  have hS : va_S Bq s.heap s.heap [] := va_S.rf
  have hl := lv_entry ([.ref h0, .int vv]) (n := 5) (Nat.le_of_ble_eq_true rfl)
  rw [lg_entry_eq]
  generalize (lg_sl ([.ref h0, .int vv]) ++ List.replicate (5 - (lg_sl ([.ref h0, .int vv])).length) Slot.unset).toArray = ls at hl ⊢
  have hl : lv_has ls 5 [(0, .ref h0), (1, .int vv)] := hl
  refine lv_aload_n hx hb d_Mo_count_0 rfl (lv_at hl 0 rfl) ?_
  refine lv_iconst (v := 0) hx hb d_Mo_count_1 (by decide) ?_
  refine m_p hx hb hts hown hK hP hD hS 33 (by decide) rfl (hts _ k_1000) rfl (by decide +kernel) rfl (by decide) (x := 0) d_Mo_count_2 (fun H locs hP hD hS => ?_)
  refine lv_iconst (v := 0) hx hb d_Mo_count_5 (by decide) ?_
  refine lv_istore_n (lv' := [(2, .int 0), (0, .ref h0), (1, .int vv)]) hx hb d_Mo_count_6 rfl hl (by decide) rfl (fun ls hl => ?_)
  refine lv_iconst (v := 0) hx hb d_Mo_count_7 (by decide) ?_
  refine lv_istore_n (lv' := [(3, .int 0), (2, .int 0), (0, .ref h0), (1, .int vv)]) hx hb d_Mo_count_8 rfl hl (by decide) rfl (fun ls hl => ?_)
  refine lv_iconst (v := 0) hx hb d_Mo_count_9 (by decide) ?_
  refine W.eq (g2 := F0 m 10 ls [.int (Int32.ofNat 0)]) rfl ?_
  refine lv_istore (lv' := [(4, .int (Int32.ofNat 0)), (3, .int 0), (2, .int 0), (0, .ref h0), (1, .int vv)]) hx hb d_Mo_count_10 hl (by decide) rfl (fun ls hl => ?_)
  refine x_while (fun n H locs ls => ∃ (x2 x3 : Int32) (t1 : Nat), n = 90 - t1 ∧ t1 ≤ 90 ∧ va_P (dC, dI) x_cl (m_W h0 ad ar (upd I 33 0) T A U) H ∧ va_D Bq (m_W h0 ad ar (upd I 33 0) T A U) ∧ va_S Bq s.heap H locs ∧ lv_has ls 5 [(0, .ref h0), (1, .int vv), (2, .int x2), (3, .int x3), (4, .int (Int32.ofNat t1))]) (fun n ih H locs ls h9 => ?_) ⟨0, 0, 0, rfl, Nat.zero_le _, hP, hD, hS, lv_sub hl [3, 4, 2, 1, 0] rfl⟩
  obtain ⟨x2, x3, t1, hn9, q1, hP, hD, hS, hl⟩ := h9
  refine lv_iload hx hb d_Mo_count_12 (lv_at hl 4 rfl) ?_
  refine lv_bipush (v := 90) hx hb d_Mo_count_14 (by decide) ?_
  refine lv_icmp_ge (tgt := 69) hx hb d_Mo_count_16 (by decide) (fun c_1 => ?_) (fun c_1 => ?_)
  · have c_1 : 90 ≤ t1 := (x_leN (a := 90) (b := t1) (by omega) (by omega)).mp c_1
    refine lv_iload_n hx hb d_Mo_count_69 rfl (lv_at hl 1 rfl) ?_
    clear ih hn9
    rcases x_9 vv with h9 | rfl | rfl | rfl | rfl | rfl | rfl | rfl | rfl | rfl
    · refine lv_tableOut (tgt := 185) hx hb d_Mo_count_70 h9 (by decide) ?_
      refine lv_iconst (v := (-1)) hx hb d_Mo_count_185 (by decide) ?_
      refine W.widen (k := 0) (n := 0) (Nat.le_of_ble_eq_true rfl) (Nat.le_of_ble_eq_true rfl) ?_
      exact W.iret (v := (-1)) hx hb hr (fun t ht hW => ⟨⟨(-1), ((upd I 33 0), T, A, U), rfl, hok.to (L := [33]) (LA := []) (m_fr.rf.up (by decide) _) m_fa.rf (by decide) (by decide), by dsimp only; rw [ht]; exact hP⟩, hS.F ht⟩) hS.2.2 d_Mo_count_186
    · refine lv_tableIn (tgt := 120) hx hb d_Mo_count_70 (by decide) (by decide) (off := 50) rfl (by decide) ?_
      refine lv_aload_n hx hb d_Mo_count_120 rfl (lv_at hl 0 rfl) ?_
      refine m_g hx hb hts hown hK hP 5 (by decide) rfl (hts _ k_972) (v := .int (I 5)) rfl d_Mo_count_121 ?_
      refine W.widen (k := 0) (n := 0) (Nat.le_of_ble_eq_true rfl) (Nat.le_of_ble_eq_true rfl) ?_
      exact W.iret (v := (I 5)) hx hb hr (fun t ht hW => ⟨⟨(I 5), ((upd I 33 0), T, A, U), rfl, hok.to (L := [33]) (LA := []) (m_fr.rf.up (by decide) _) m_fa.rf (by decide) (by decide), by dsimp only; rw [ht]; exact hP⟩, hS.F ht⟩) hS.2.2 d_Mo_count_124
    · refine lv_tableIn (tgt := 125) hx hb d_Mo_count_70 (by decide) (by decide) (off := 55) rfl (by decide) ?_
      refine lv_aload_n hx hb d_Mo_count_125 rfl (lv_at hl 0 rfl) ?_
      refine m_g hx hb hts hown hK hP 34 (by decide) rfl (hts _ k_1001) (v := .long T) rfl d_Mo_count_126 ?_
      refine lv_l2i (v := (Int64.toInt32 T)) hx hb d_Mo_count_129 rfl ?_
      refine W.widen (k := 0) (n := 0) (Nat.le_of_ble_eq_true rfl) (Nat.le_of_ble_eq_true rfl) ?_
      exact W.iret (v := (Int64.toInt32 T)) hx hb hr (fun t ht hW => ⟨⟨(Int64.toInt32 T), ((upd I 33 0), T, A, U), rfl, hok.to (L := [33]) (LA := []) (m_fr.rf.up (by decide) _) m_fa.rf (by decide) (by decide), by dsimp only; rw [ht]; exact hP⟩, hS.F ht⟩) hS.2.2 d_Mo_count_130
    · refine lv_tableIn (tgt := 131) hx hb d_Mo_count_70 (by decide) (by decide) (off := 61) rfl (by decide) ?_
      refine lv_aload_n hx hb d_Mo_count_131 rfl (lv_at hl 0 rfl) ?_
      refine m_g hx hb hts hown hK hP 9 (by decide) rfl (hts _ k_976) (v := .int (I 9)) rfl d_Mo_count_132 ?_
      refine lv_iconst (v := 1) hx hb d_Mo_count_135 (by decide) ?_
      refine lv_icmp_ne (tgt := 159) hx hb d_Mo_count_136 (by decide) (fun c_2 => ?_) (fun c_2 => ?_)
      · refine lv_iconst (v := 0) hx hb d_Mo_count_159 (by decide) ?_
        refine W.widen (k := 0) (n := 0) (Nat.le_of_ble_eq_true rfl) (Nat.le_of_ble_eq_true rfl) ?_
        exact W.iret (v := 0) hx hb hr (fun t ht hW => ⟨⟨0, ((upd I 33 0), T, A, U), rfl, hok.to (L := [33]) (LA := []) (m_fr.rf.up (by decide) _) m_fa.rf (by decide) (by decide), by dsimp only; rw [ht]; exact hP⟩, hS.F ht⟩) hS.2.2 d_Mo_count_160
      · refine lv_aload_n hx hb d_Mo_count_139 rfl (lv_at hl 0 rfl) ?_
        refine m_g hx hb hts hown hK hP 29 (by decide) rfl (hts _ k_996) (v := .int (I 29)) rfl d_Mo_count_140 ?_
        refine lv_aload_n hx hb d_Mo_count_143 rfl (lv_at hl 0 rfl) ?_
        refine m_g hx hb hts hown hK hP 30 (by decide) rfl (hts _ k_997) (v := .int (I 30)) rfl d_Mo_count_144 ?_
        refine lv_if_lt (tgt := 154) hx hb d_Mo_count_147 (by decide) (fun c_3 => ?_) (fun c_3 => ?_)
        · refine lv_iconst (v := 0) hx hb d_Mo_count_154 (by decide) ?_
          refine lv_iadd hx hb d_Mo_count_155 ?_
          refine lv_goto (tgt := 160) hx hb d_Mo_count_156 (by decide) ?_
          refine W.widen (k := 0) (n := 0) (Nat.le_of_ble_eq_true rfl) (Nat.le_of_ble_eq_true rfl) ?_
          exact W.iret (v := ((I 29) + 0)) hx hb hr (fun t ht hW => ⟨⟨((I 29) + 0), ((upd I 33 0), T, A, U), rfl, hok.to (L := [33]) (LA := []) (m_fr.rf.up (by decide) _) m_fa.rf (by decide) (by decide), by dsimp only; rw [ht]; exact hP⟩, hS.F ht⟩) hS.2.2 d_Mo_count_160
        · refine lv_iconst (v := 1) hx hb d_Mo_count_150 (by decide) ?_
          refine lv_goto (tgt := 155) hx hb d_Mo_count_151 (by decide) ?_
          refine lv_iadd hx hb d_Mo_count_155 ?_
          refine lv_goto (tgt := 160) hx hb d_Mo_count_156 (by decide) ?_
          refine W.widen (k := 0) (n := 0) (Nat.le_of_ble_eq_true rfl) (Nat.le_of_ble_eq_true rfl) ?_
          exact W.iret (v := ((I 29) + 1)) hx hb hr (fun t ht hW => ⟨⟨((I 29) + 1), ((upd I 33 0), T, A, U), rfl, hok.to (L := [33]) (LA := []) (m_fr.rf.up (by decide) _) m_fa.rf (by decide) (by decide), by dsimp only; rw [ht]; exact hP⟩, hS.F ht⟩) hS.2.2 d_Mo_count_160
    · refine lv_tableIn (tgt := 161) hx hb d_Mo_count_70 (by decide) (by decide) (off := 91) rfl (by decide) ?_
      refine lv_iload_n hx hb d_Mo_count_161 rfl (lv_at hl 2 rfl) ?_
      refine W.widen (k := 0) (n := 0) (Nat.le_of_ble_eq_true rfl) (Nat.le_of_ble_eq_true rfl) ?_
      exact W.iret (v := x2) hx hb hr (fun t ht hW => ⟨⟨x2, ((upd I 33 0), T, A, U), rfl, hok.to (L := [33]) (LA := []) (m_fr.rf.up (by decide) _) m_fa.rf (by decide) (by decide), by dsimp only; rw [ht]; exact hP⟩, hS.F ht⟩) hS.2.2 d_Mo_count_162
    · refine lv_tableIn (tgt := 163) hx hb d_Mo_count_70 (by decide) (by decide) (off := 93) rfl (by decide) ?_
      refine lv_aload_n hx hb d_Mo_count_163 rfl (lv_at hl 0 rfl) ?_
      refine m_g hx hb hts hown hK hP 32 (by decide) rfl (hts _ k_999) (v := .int (I 32)) rfl d_Mo_count_164 ?_
      refine W.widen (k := 0) (n := 0) (Nat.le_of_ble_eq_true rfl) (Nat.le_of_ble_eq_true rfl) ?_
      exact W.iret (v := (I 32)) hx hb hr (fun t ht hW => ⟨⟨(I 32), ((upd I 33 0), T, A, U), rfl, hok.to (L := [33]) (LA := []) (m_fr.rf.up (by decide) _) m_fa.rf (by decide) (by decide), by dsimp only; rw [ht]; exact hP⟩, hS.F ht⟩) hS.2.2 d_Mo_count_167
    · refine lv_tableIn (tgt := 168) hx hb d_Mo_count_70 (by decide) (by decide) (off := 98) rfl (by decide) ?_
      refine lv_aload_n hx hb d_Mo_count_168 rfl (lv_at hl 0 rfl) ?_
      refine m_g hx hb hts hown hK hP 42 (by decide) rfl (hts _ k_1009) (v := .int (I 42)) rfl d_Mo_count_169 ?_
      refine W.widen (k := 0) (n := 0) (Nat.le_of_ble_eq_true rfl) (Nat.le_of_ble_eq_true rfl) ?_
      exact W.iret (v := (I 42)) hx hb hr (fun t ht hW => ⟨⟨(I 42), ((upd I 33 0), T, A, U), rfl, hok.to (L := [33]) (LA := []) (m_fr.rf.up (by decide) _) m_fa.rf (by decide) (by decide), by dsimp only; rw [ht]; exact hP⟩, hS.F ht⟩) hS.2.2 d_Mo_count_172
    · refine lv_tableIn (tgt := 173) hx hb d_Mo_count_70 (by decide) (by decide) (off := 103) rfl (by decide) ?_
      refine lv_aload_n hx hb d_Mo_count_173 rfl (lv_at hl 0 rfl) ?_
      refine m_g hx hb hts hown hK hP 43 (by decide) rfl (hts _ k_1010) (v := .int (I 43)) rfl d_Mo_count_174 ?_
      refine W.widen (k := 0) (n := 0) (Nat.le_of_ble_eq_true rfl) (Nat.le_of_ble_eq_true rfl) ?_
      exact W.iret (v := (I 43)) hx hb hr (fun t ht hW => ⟨⟨(I 43), ((upd I 33 0), T, A, U), rfl, hok.to (L := [33]) (LA := []) (m_fr.rf.up (by decide) _) m_fa.rf (by decide) (by decide), by dsimp only; rw [ht]; exact hP⟩, hS.F ht⟩) hS.2.2 d_Mo_count_177
    · refine lv_tableIn (tgt := 178) hx hb d_Mo_count_70 (by decide) (by decide) (off := 108) rfl (by decide) ?_
      refine lv_aload_n hx hb d_Mo_count_178 rfl (lv_at hl 0 rfl) ?_
      refine m_g hx hb hts hown hK hP 9 (by decide) rfl (hts _ k_976) (v := .int (I 9)) rfl d_Mo_count_179 ?_
      refine W.widen (k := 0) (n := 0) (Nat.le_of_ble_eq_true rfl) (Nat.le_of_ble_eq_true rfl) ?_
      exact W.iret (v := (I 9)) hx hb hr (fun t ht hW => ⟨⟨(I 9), ((upd I 33 0), T, A, U), rfl, hok.to (L := [33]) (LA := []) (m_fr.rf.up (by decide) _) m_fa.rf (by decide) (by decide), by dsimp only; rw [ht]; exact hP⟩, hS.F ht⟩) hS.2.2 d_Mo_count_182
    · refine lv_tableIn (tgt := 183) hx hb d_Mo_count_70 (by decide) (by decide) (off := 113) rfl (by decide) ?_
      refine lv_iload_n hx hb d_Mo_count_183 rfl (lv_at hl 3 rfl) ?_
      refine W.widen (k := 0) (n := 0) (Nat.le_of_ble_eq_true rfl) (Nat.le_of_ble_eq_true rfl) ?_
      exact W.iret (v := x3) hx hb hr (fun t ht hW => ⟨⟨x3, ((upd I 33 0), T, A, U), rfl, hok.to (L := [33]) (LA := []) (m_fr.rf.up (by decide) _) m_fa.rf (by decide) (by decide), by dsimp only; rw [ht]; exact hP⟩, hS.F ht⟩) hS.2.2 d_Mo_count_184
  · have c_1 : ¬ 90 ≤ t1 := fun h9 => c_1 ((x_leN (a := 90) (b := t1) (by omega) (by omega)).mpr h9)
    refine lv_aload_n hx hb d_Mo_count_19 rfl (lv_at hl 0 rfl) ?_
    refine m_g hx hb hts hown hK hP 9 (by decide) rfl (hts _ k_976) (v := .int (I 9)) rfl d_Mo_count_20 ?_
    refine lv_iconst (v := 1) hx hb d_Mo_count_23 (by decide) ?_
    refine lv_icmp_ne (tgt := 69) hx hb d_Mo_count_24 (by decide) (fun c_4 => ?_) (fun c_4 => ?_)
    · refine lv_iload_n hx hb d_Mo_count_69 rfl (lv_at hl 1 rfl) ?_
      clear ih hn9
      rcases x_9 vv with h9 | rfl | rfl | rfl | rfl | rfl | rfl | rfl | rfl | rfl
      · refine lv_tableOut (tgt := 185) hx hb d_Mo_count_70 h9 (by decide) ?_
        refine lv_iconst (v := (-1)) hx hb d_Mo_count_185 (by decide) ?_
        refine W.widen (k := 0) (n := 0) (Nat.le_of_ble_eq_true rfl) (Nat.le_of_ble_eq_true rfl) ?_
        exact W.iret (v := (-1)) hx hb hr (fun t ht hW => ⟨⟨(-1), ((upd I 33 0), T, A, U), rfl, hok.to (L := [33]) (LA := []) (m_fr.rf.up (by decide) _) m_fa.rf (by decide) (by decide), by dsimp only; rw [ht]; exact hP⟩, hS.F ht⟩) hS.2.2 d_Mo_count_186
      · refine lv_tableIn (tgt := 120) hx hb d_Mo_count_70 (by decide) (by decide) (off := 50) rfl (by decide) ?_
        refine lv_aload_n hx hb d_Mo_count_120 rfl (lv_at hl 0 rfl) ?_
        refine m_g hx hb hts hown hK hP 5 (by decide) rfl (hts _ k_972) (v := .int (I 5)) rfl d_Mo_count_121 ?_
        refine W.widen (k := 0) (n := 0) (Nat.le_of_ble_eq_true rfl) (Nat.le_of_ble_eq_true rfl) ?_
        exact W.iret (v := (I 5)) hx hb hr (fun t ht hW => ⟨⟨(I 5), ((upd I 33 0), T, A, U), rfl, hok.to (L := [33]) (LA := []) (m_fr.rf.up (by decide) _) m_fa.rf (by decide) (by decide), by dsimp only; rw [ht]; exact hP⟩, hS.F ht⟩) hS.2.2 d_Mo_count_124
      · refine lv_tableIn (tgt := 125) hx hb d_Mo_count_70 (by decide) (by decide) (off := 55) rfl (by decide) ?_
        refine lv_aload_n hx hb d_Mo_count_125 rfl (lv_at hl 0 rfl) ?_
        refine m_g hx hb hts hown hK hP 34 (by decide) rfl (hts _ k_1001) (v := .long T) rfl d_Mo_count_126 ?_
        refine lv_l2i (v := (Int64.toInt32 T)) hx hb d_Mo_count_129 rfl ?_
        refine W.widen (k := 0) (n := 0) (Nat.le_of_ble_eq_true rfl) (Nat.le_of_ble_eq_true rfl) ?_
        exact W.iret (v := (Int64.toInt32 T)) hx hb hr (fun t ht hW => ⟨⟨(Int64.toInt32 T), ((upd I 33 0), T, A, U), rfl, hok.to (L := [33]) (LA := []) (m_fr.rf.up (by decide) _) m_fa.rf (by decide) (by decide), by dsimp only; rw [ht]; exact hP⟩, hS.F ht⟩) hS.2.2 d_Mo_count_130
      · refine lv_tableIn (tgt := 131) hx hb d_Mo_count_70 (by decide) (by decide) (off := 61) rfl (by decide) ?_
        refine lv_aload_n hx hb d_Mo_count_131 rfl (lv_at hl 0 rfl) ?_
        refine m_g hx hb hts hown hK hP 9 (by decide) rfl (hts _ k_976) (v := .int (I 9)) rfl d_Mo_count_132 ?_
        refine lv_iconst (v := 1) hx hb d_Mo_count_135 (by decide) ?_
        refine lv_icmp_ne (tgt := 159) hx hb d_Mo_count_136 (by decide) (fun c_5 => ?_) (fun c_5 => ?_)
        · refine lv_iconst (v := 0) hx hb d_Mo_count_159 (by decide) ?_
          refine W.widen (k := 0) (n := 0) (Nat.le_of_ble_eq_true rfl) (Nat.le_of_ble_eq_true rfl) ?_
          exact W.iret (v := 0) hx hb hr (fun t ht hW => ⟨⟨0, ((upd I 33 0), T, A, U), rfl, hok.to (L := [33]) (LA := []) (m_fr.rf.up (by decide) _) m_fa.rf (by decide) (by decide), by dsimp only; rw [ht]; exact hP⟩, hS.F ht⟩) hS.2.2 d_Mo_count_160
        · refine lv_aload_n hx hb d_Mo_count_139 rfl (lv_at hl 0 rfl) ?_
          refine m_g hx hb hts hown hK hP 29 (by decide) rfl (hts _ k_996) (v := .int (I 29)) rfl d_Mo_count_140 ?_
          refine lv_aload_n hx hb d_Mo_count_143 rfl (lv_at hl 0 rfl) ?_
          refine m_g hx hb hts hown hK hP 30 (by decide) rfl (hts _ k_997) (v := .int (I 30)) rfl d_Mo_count_144 ?_
          refine lv_if_lt (tgt := 154) hx hb d_Mo_count_147 (by decide) (fun c_6 => ?_) (fun c_6 => ?_)
          · refine lv_iconst (v := 0) hx hb d_Mo_count_154 (by decide) ?_
            refine lv_iadd hx hb d_Mo_count_155 ?_
            refine lv_goto (tgt := 160) hx hb d_Mo_count_156 (by decide) ?_
            refine W.widen (k := 0) (n := 0) (Nat.le_of_ble_eq_true rfl) (Nat.le_of_ble_eq_true rfl) ?_
            exact W.iret (v := ((I 29) + 0)) hx hb hr (fun t ht hW => ⟨⟨((I 29) + 0), ((upd I 33 0), T, A, U), rfl, hok.to (L := [33]) (LA := []) (m_fr.rf.up (by decide) _) m_fa.rf (by decide) (by decide), by dsimp only; rw [ht]; exact hP⟩, hS.F ht⟩) hS.2.2 d_Mo_count_160
          · refine lv_iconst (v := 1) hx hb d_Mo_count_150 (by decide) ?_
            refine lv_goto (tgt := 155) hx hb d_Mo_count_151 (by decide) ?_
            refine lv_iadd hx hb d_Mo_count_155 ?_
            refine lv_goto (tgt := 160) hx hb d_Mo_count_156 (by decide) ?_
            refine W.widen (k := 0) (n := 0) (Nat.le_of_ble_eq_true rfl) (Nat.le_of_ble_eq_true rfl) ?_
            exact W.iret (v := ((I 29) + 1)) hx hb hr (fun t ht hW => ⟨⟨((I 29) + 1), ((upd I 33 0), T, A, U), rfl, hok.to (L := [33]) (LA := []) (m_fr.rf.up (by decide) _) m_fa.rf (by decide) (by decide), by dsimp only; rw [ht]; exact hP⟩, hS.F ht⟩) hS.2.2 d_Mo_count_160
      · refine lv_tableIn (tgt := 161) hx hb d_Mo_count_70 (by decide) (by decide) (off := 91) rfl (by decide) ?_
        refine lv_iload_n hx hb d_Mo_count_161 rfl (lv_at hl 2 rfl) ?_
        refine W.widen (k := 0) (n := 0) (Nat.le_of_ble_eq_true rfl) (Nat.le_of_ble_eq_true rfl) ?_
        exact W.iret (v := x2) hx hb hr (fun t ht hW => ⟨⟨x2, ((upd I 33 0), T, A, U), rfl, hok.to (L := [33]) (LA := []) (m_fr.rf.up (by decide) _) m_fa.rf (by decide) (by decide), by dsimp only; rw [ht]; exact hP⟩, hS.F ht⟩) hS.2.2 d_Mo_count_162
      · refine lv_tableIn (tgt := 163) hx hb d_Mo_count_70 (by decide) (by decide) (off := 93) rfl (by decide) ?_
        refine lv_aload_n hx hb d_Mo_count_163 rfl (lv_at hl 0 rfl) ?_
        refine m_g hx hb hts hown hK hP 32 (by decide) rfl (hts _ k_999) (v := .int (I 32)) rfl d_Mo_count_164 ?_
        refine W.widen (k := 0) (n := 0) (Nat.le_of_ble_eq_true rfl) (Nat.le_of_ble_eq_true rfl) ?_
        exact W.iret (v := (I 32)) hx hb hr (fun t ht hW => ⟨⟨(I 32), ((upd I 33 0), T, A, U), rfl, hok.to (L := [33]) (LA := []) (m_fr.rf.up (by decide) _) m_fa.rf (by decide) (by decide), by dsimp only; rw [ht]; exact hP⟩, hS.F ht⟩) hS.2.2 d_Mo_count_167
      · refine lv_tableIn (tgt := 168) hx hb d_Mo_count_70 (by decide) (by decide) (off := 98) rfl (by decide) ?_
        refine lv_aload_n hx hb d_Mo_count_168 rfl (lv_at hl 0 rfl) ?_
        refine m_g hx hb hts hown hK hP 42 (by decide) rfl (hts _ k_1009) (v := .int (I 42)) rfl d_Mo_count_169 ?_
        refine W.widen (k := 0) (n := 0) (Nat.le_of_ble_eq_true rfl) (Nat.le_of_ble_eq_true rfl) ?_
        exact W.iret (v := (I 42)) hx hb hr (fun t ht hW => ⟨⟨(I 42), ((upd I 33 0), T, A, U), rfl, hok.to (L := [33]) (LA := []) (m_fr.rf.up (by decide) _) m_fa.rf (by decide) (by decide), by dsimp only; rw [ht]; exact hP⟩, hS.F ht⟩) hS.2.2 d_Mo_count_172
      · refine lv_tableIn (tgt := 173) hx hb d_Mo_count_70 (by decide) (by decide) (off := 103) rfl (by decide) ?_
        refine lv_aload_n hx hb d_Mo_count_173 rfl (lv_at hl 0 rfl) ?_
        refine m_g hx hb hts hown hK hP 43 (by decide) rfl (hts _ k_1010) (v := .int (I 43)) rfl d_Mo_count_174 ?_
        refine W.widen (k := 0) (n := 0) (Nat.le_of_ble_eq_true rfl) (Nat.le_of_ble_eq_true rfl) ?_
        exact W.iret (v := (I 43)) hx hb hr (fun t ht hW => ⟨⟨(I 43), ((upd I 33 0), T, A, U), rfl, hok.to (L := [33]) (LA := []) (m_fr.rf.up (by decide) _) m_fa.rf (by decide) (by decide), by dsimp only; rw [ht]; exact hP⟩, hS.F ht⟩) hS.2.2 d_Mo_count_177
      · refine lv_tableIn (tgt := 178) hx hb d_Mo_count_70 (by decide) (by decide) (off := 108) rfl (by decide) ?_
        refine lv_aload_n hx hb d_Mo_count_178 rfl (lv_at hl 0 rfl) ?_
        refine m_g hx hb hts hown hK hP 9 (by decide) rfl (hts _ k_976) (v := .int (I 9)) rfl d_Mo_count_179 ?_
        refine W.widen (k := 0) (n := 0) (Nat.le_of_ble_eq_true rfl) (Nat.le_of_ble_eq_true rfl) ?_
        exact W.iret (v := (I 9)) hx hb hr (fun t ht hW => ⟨⟨(I 9), ((upd I 33 0), T, A, U), rfl, hok.to (L := [33]) (LA := []) (m_fr.rf.up (by decide) _) m_fa.rf (by decide) (by decide), by dsimp only; rw [ht]; exact hP⟩, hS.F ht⟩) hS.2.2 d_Mo_count_182
      · refine lv_tableIn (tgt := 183) hx hb d_Mo_count_70 (by decide) (by decide) (off := 113) rfl (by decide) ?_
        refine lv_iload_n hx hb d_Mo_count_183 rfl (lv_at hl 3 rfl) ?_
        refine W.widen (k := 0) (n := 0) (Nat.le_of_ble_eq_true rfl) (Nat.le_of_ble_eq_true rfl) ?_
        exact W.iret (v := x3) hx hb hr (fun t ht hW => ⟨⟨x3, ((upd I 33 0), T, A, U), rfl, hok.to (L := [33]) (LA := []) (m_fr.rf.up (by decide) _) m_fa.rf (by decide) (by decide), by dsimp only; rw [ht]; exact hP⟩, hS.F ht⟩) hS.2.2 d_Mo_count_184
    · refine lv_aload_n hx hb d_Mo_count_27 rfl (lv_at hl 0 rfl) ?_
      refine m_g hx hb hts hown hK hP 27 (by decide) rfl (hts _ k_994) (v := .ref (ad 27)) rfl d_Mo_count_28 ?_
      refine lv_iload hx hb d_Mo_count_31 (lv_at hl 4 rfl) ?_
      refine m_zld hx hb hK hP 19 rfl (by decide) (j := (Int32.ofNat t1)) (x_inN (by omega) (by decide)) d_Mo_count_33 ?_
      refine W.eq (g2 := F0 m 34 ls [.int (A 27 (t1))]) (by rw [x_nat (a := t1) (by omega)]) ?_
      refine lv_if_eq (tgt := 40) hx hb d_Mo_count_34 (by decide) (fun c_7 => ?_) (fun c_7 => ?_)
      · refine lv_aload_n hx hb d_Mo_count_40 rfl (lv_at hl 0 rfl) ?_
        refine m_g hx hb hts hown hK hP 27 (by decide) rfl (hts _ k_994) (v := .ref (ad 27)) rfl d_Mo_count_41 ?_
        refine lv_iload hx hb d_Mo_count_44 (lv_at hl 4 rfl) ?_
        refine m_zld hx hb hK hP 19 rfl (by decide) (j := (Int32.ofNat t1)) (x_inN (by omega) (by decide)) d_Mo_count_46 ?_
        refine W.eq (g2 := F0 m 47 ls [.int (A 27 (t1))]) (by rw [x_nat (a := t1) (by omega)]) ?_
        refine lv_if_eq (tgt := 63) hx hb d_Mo_count_47 (by decide) (fun c_8 => ?_) (fun c_8 => ?_)
        · refine lv_iinc (v := (Int32.ofNat (t1 + 1))) (lv' := [(4, .int (Int32.ofNat (t1 + 1))), (0, .ref h0), (1, .int vv), (2, .int x2), (3, .int x3)]) hx hb d_Mo_count_63 hl (k := 4) rfl (x_incN t1) (by decide) rfl (fun ls hl => ?_)
          refine lv_goto (tgt := 12) hx hb d_Mo_count_66 (by decide) ?_
          exact ih (90 - (t1 + 1)) (by omega) H locs ls ⟨_, _, t1 + 1, rfl, by omega, hP, hD, hS, lv_sub hl [1, 2, 3, 4, 0] rfl⟩
        · refine lv_aload_n hx hb d_Mo_count_50 rfl (lv_at hl 0 rfl) ?_
          refine m_g hx hb hts hown hK hP 28 (by decide) rfl (hts _ k_995) (v := .ref (ad 28)) rfl d_Mo_count_51 ?_
          refine lv_iload hx hb d_Mo_count_54 (lv_at hl 4 rfl) ?_
          refine m_zld hx hb hK hP 20 rfl (by decide) (j := (Int32.ofNat t1)) (x_inN (by omega) (by decide)) d_Mo_count_56 ?_
          refine W.eq (g2 := F0 m 57 ls [.int (A 28 (t1))]) (by rw [x_nat (a := t1) (by omega)]) ?_
          refine lv_if_eq (tgt := 63) hx hb d_Mo_count_57 (by decide) (fun c_9 => ?_) (fun c_9 => ?_)
          · refine lv_iinc (v := (Int32.ofNat (t1 + 1))) (lv' := [(4, .int (Int32.ofNat (t1 + 1))), (0, .ref h0), (1, .int vv), (2, .int x2), (3, .int x3)]) hx hb d_Mo_count_63 hl (k := 4) rfl (x_incN t1) (by decide) rfl (fun ls hl => ?_)
            refine lv_goto (tgt := 12) hx hb d_Mo_count_66 (by decide) ?_
            exact ih (90 - (t1 + 1)) (by omega) H locs ls ⟨_, _, t1 + 1, rfl, by omega, hP, hD, hS, lv_sub hl [1, 2, 3, 4, 0] rfl⟩
          · refine lv_iinc (v := (x3 + Int32.ofInt 1)) (lv' := [(3, .int (x3 + Int32.ofInt 1)), (0, .ref h0), (1, .int vv), (2, .int x2), (4, .int (Int32.ofNat t1))]) hx hb d_Mo_count_60 hl (k := 3) rfl rfl (by decide) rfl (fun ls hl => ?_)
            refine lv_iinc (v := (Int32.ofNat (t1 + 1))) (lv' := [(4, .int (Int32.ofNat (t1 + 1))), (3, .int (x3 + Int32.ofInt 1)), (0, .ref h0), (1, .int vv), (2, .int x2)]) hx hb d_Mo_count_63 hl (k := 4) rfl (x_incN t1) (by decide) rfl (fun ls hl => ?_)
            refine lv_goto (tgt := 12) hx hb d_Mo_count_66 (by decide) ?_
            exact ih (90 - (t1 + 1)) (by omega) H locs ls ⟨_, _, t1 + 1, rfl, by omega, hP, hD, hS, lv_sub hl [2, 3, 4, 1, 0] rfl⟩
      · refine lv_iinc (v := (x2 + Int32.ofInt 1)) (lv' := [(2, .int (x2 + Int32.ofInt 1)), (0, .ref h0), (1, .int vv), (3, .int x3), (4, .int (Int32.ofNat t1))]) hx hb d_Mo_count_37 hl (k := 2) rfl rfl (by decide) rfl (fun ls hl => ?_)
        refine lv_aload_n hx hb d_Mo_count_40 rfl (lv_at hl 1 rfl) ?_
        refine m_g hx hb hts hown hK hP 27 (by decide) rfl (hts _ k_994) (v := .ref (ad 27)) rfl d_Mo_count_41 ?_
        refine lv_iload hx hb d_Mo_count_44 (lv_at hl 4 rfl) ?_
        refine m_zld hx hb hK hP 19 rfl (by decide) (j := (Int32.ofNat t1)) (x_inN (by omega) (by decide)) d_Mo_count_46 ?_
        refine W.eq (g2 := F0 m 47 ls [.int (A 27 (t1))]) (by rw [x_nat (a := t1) (by omega)]) ?_
        refine lv_if_eq (tgt := 63) hx hb d_Mo_count_47 (by decide) (fun c_10 => ?_) (fun c_10 => ?_)
        · refine lv_iinc (v := (Int32.ofNat (t1 + 1))) (lv' := [(4, .int (Int32.ofNat (t1 + 1))), (2, .int (x2 + Int32.ofInt 1)), (0, .ref h0), (1, .int vv), (3, .int x3)]) hx hb d_Mo_count_63 hl (k := 4) rfl (x_incN t1) (by decide) rfl (fun ls hl => ?_)
          refine lv_goto (tgt := 12) hx hb d_Mo_count_66 (by decide) ?_
          exact ih (90 - (t1 + 1)) (by omega) H locs ls ⟨_, _, t1 + 1, rfl, by omega, hP, hD, hS, lv_sub hl [2, 3, 1, 4, 0] rfl⟩
        · refine lv_aload_n hx hb d_Mo_count_50 rfl (lv_at hl 1 rfl) ?_
          refine m_g hx hb hts hown hK hP 28 (by decide) rfl (hts _ k_995) (v := .ref (ad 28)) rfl d_Mo_count_51 ?_
          refine lv_iload hx hb d_Mo_count_54 (lv_at hl 4 rfl) ?_
          refine m_zld hx hb hK hP 20 rfl (by decide) (j := (Int32.ofNat t1)) (x_inN (by omega) (by decide)) d_Mo_count_56 ?_
          refine W.eq (g2 := F0 m 57 ls [.int (A 28 (t1))]) (by rw [x_nat (a := t1) (by omega)]) ?_
          refine lv_if_eq (tgt := 63) hx hb d_Mo_count_57 (by decide) (fun c_11 => ?_) (fun c_11 => ?_)
          · refine lv_iinc (v := (Int32.ofNat (t1 + 1))) (lv' := [(4, .int (Int32.ofNat (t1 + 1))), (2, .int (x2 + Int32.ofInt 1)), (0, .ref h0), (1, .int vv), (3, .int x3)]) hx hb d_Mo_count_63 hl (k := 4) rfl (x_incN t1) (by decide) rfl (fun ls hl => ?_)
            refine lv_goto (tgt := 12) hx hb d_Mo_count_66 (by decide) ?_
            exact ih (90 - (t1 + 1)) (by omega) H locs ls ⟨_, _, t1 + 1, rfl, by omega, hP, hD, hS, lv_sub hl [2, 3, 1, 4, 0] rfl⟩
          · refine lv_iinc (v := (x3 + Int32.ofInt 1)) (lv' := [(3, .int (x3 + Int32.ofInt 1)), (2, .int (x2 + Int32.ofInt 1)), (0, .ref h0), (1, .int vv), (4, .int (Int32.ofNat t1))]) hx hb d_Mo_count_60 hl (k := 3) rfl rfl (by decide) rfl (fun ls hl => ?_)
            refine lv_iinc (v := (Int32.ofNat (t1 + 1))) (lv' := [(4, .int (Int32.ofNat (t1 + 1))), (3, .int (x3 + Int32.ofInt 1)), (2, .int (x2 + Int32.ofInt 1)), (0, .ref h0), (1, .int vv)]) hx hb d_Mo_count_63 hl (k := 4) rfl (x_incN t1) (by decide) rfl (fun ls hl => ?_)
            refine lv_goto (tgt := 12) hx hb d_Mo_count_66 (by decide) ?_
            exact ih (90 - (t1 + 1)) (by omega) H locs ls ⟨_, _, t1 + 1, rfl, by omega, hP, hD, hS, lv_sub hl [3, 4, 2, 1, 0] rfl⟩
theorem m_OK.emp {S : Nat} {I I' : Nat → Int32} {A : Nat → Nat → Int32} {L : List Nat} (h : m_OK S I A) (hf : m_fr L I I') (h4 : I' 4 = Int32.ofNat 0) (hL : ∀ k ∈ [9, 29, 30, 42, 43], k ∉ L) : m_OK 0 I' A := by
  obtain ⟨⟨h1, h2⟩, h3, h5⟩ := h
  have e9 := hf 9 (hL 9 (by decide))
  refine ⟨⟨by omega, h4⟩, h3.fr hf (hL 42 (by decide)) (hL 43 (by decide)), ?_⟩
  rcases h5 with h5 | h5 | h5 | ⟨h5, h6⟩
  · exact Or.inl (e9.trans h5)
  · exact Or.inr (Or.inl (e9.trans h5))
  · exact Or.inr (Or.inr (Or.inl (e9.trans h5)))
  · exact Or.inr (Or.inr (Or.inr ⟨e9.trans h5, h6.to hf (LA := []) m_fa.rf (fun k hk => hL k (by simp at hk ⊢; omega)) (by decide)⟩))
set_option maxHeartbeats 4000000 in
set_option maxRecDepth 100000 in
theorem m_load (l : Launch) (dC : Nat → ClassId) (dI : Nat → Nat → Nat) (ar : Nat → ClassId) (N0 : Nat) (z : Nat → Nat) (h0 : Nat) (ad : Nat → Nat) (I : Nat → Int32) (T : Int64) (A : Nat → Nat → Int32) (U : Nat → Int64) (S : Nat) (sz : Nat) (hok : m_OK S I A) : Met l ({ cls := "ChannelMachineModel", name := "load", desc := "()I" } : Jvm.MethodName) ((Jvm.Cond.code ({ cls := "ChannelMachineModel", name := "load", desc := "()I" } : Jvm.MethodName) prog_12_method_23_code (3 : Nat) (Option.some Jvm.ClassFile.FieldType.int)) :: x_T) ({ frames := 6, cells := 0, slots := 0, locals := 142 }) (x_Pc (dC, dI) ar N0 z (m_W h0 ad ar I T A U) sz [.ref h0]) (va_Qi (fun (r : Int32) (u : (Nat → Int32) × Int64 × (Nat → Nat → Int32) × (Nat → Int64)) => m_OK 0 u.1 u.2.2.1) (fun u t => va_P (dC, dI) x_cl (m_W h0 ad ar u.1 u.2.1 u.2.2.1 u.2.2.2) t.heap) (va_A (m_W h0 ad ar I T A U) sz)) 0 0 (va_A (m_W h0 ad ar I T A U) sz) := by
  refine Met.ofW (cc := prog_12_method_23_code) (maxL := 3) (ret := (some .int)) (by decide) rfl ?_
  intro p e s m args below meth c s₁ B hml hv
  obtain ⟨rfl, hsz, hN0, hP, hU, hZ, hD0⟩ := hv
  have hK := hU.1
  have hx := B.exec
  have hb := B.bytes
  have hr := B.returns
  have hts : ∀ w ∈ x_T, w.before ([.ref h0] : List Value).toArray s = true := fun w h => atoms_spec (ws := (Jvm.Cond.code ({ cls := "ChannelMachineModel", name := "load", desc := "()I" } : Jvm.MethodName) prog_12_method_23_code (3 : Nat) (Option.some Jvm.ClassFile.FieldType.int)) :: x_T) B.pre w (List.mem_cons_of_mem _ h)
  have hown : s.vm.findClass "ChannelMachineModel" = some m.cls := findClass_of_methodNamed B.named
  have hlocks := B.notSynchronized
  subst hsz
  have hD := hD0.self (sz := s.heap.size)
  have hAN := x_AN hD0 hN0
  generalize hAe : va_A (m_W h0 ad ar I T A U) s.heap.size = Bq at hD hAN ⊢
  have hA : ∀ q : Nat, s.heap.size ≤ q → Bq q := fun q h => by rw [← hAe]; exact Or.inr h
  have hS : va_S Bq s.heap s.heap [] := va_S.rf
  have hl := lv_entry ([.ref h0]) (n := 3) (Nat.le_of_ble_eq_true rfl)
  rw [lg_entry_eq]
  generalize (lg_sl ([.ref h0]) ++ List.replicate (3 - (lg_sl ([.ref h0])).length) Slot.unset).toArray = ls at hl ⊢
  have hl : lv_has ls 3 [(0, .ref h0)] := hl
  refine lv_aload_n hx hb d_Mo_load_0 rfl (lv_at hl 0 rfl) ?_
  have hFc := m_free hD hS hA
  refine va_calli (va_runV (As := []) (rest := []) ⟨hx, hb, hml, hown, hts⟩ (m_read l dC dI ar N0 z h0 ad I T A U S s.heap.size hok.1.2 hok.1.1) (cwV 0 hts (x_goodV k_1128 k_1130 kp_50 k_9 k_1131) rfl rfl rfl (by decide +kernel) ⟨Nat.le_of_ble_eq_true rfl, Nat.le_of_ble_eq_true rfl⟩) ⟨x_blind, va_recv hK hP (ci := 6) (q0 := 0) rfl rfl, fun U9 hU9 hW9 => x_pre hU9 hW9 hP hD hU hZ hS hAN hN0⟩ rfl rfl hl.1 rfl (lv_room (Nat.le_of_ble_eq_true rfl)) d_Mo_load_1 ⟨Nat.le_of_ble_eq_true rfl, Nat.le_of_ble_eq_true rfl⟩) hS (fun q _ h => hFc q h) hFc (fun r_1 u t H1 locs ht hvm hw hB hz1 hk1 hS => ?_)
  obtain ⟨I3, T3, A3, U3⟩ := u
  dsimp only at hw hB
  rw [ht] at hB
  have hP : va_P (dC, dI) x_cl (m_W h0 ad ar I3 T3 A3 U3) H1 := hB
  have hD : va_D Bq (m_W h0 ad ar I3 T3 A3 U3) := m_D hD
  generalize H1 = H at hP hS ⊢
  refine W.widen (k := 0) (n := 0) (Nat.le_of_ble_eq_true rfl) (Nat.le_of_ble_eq_true rfl) ?_
  obtain ⟨fr4, fa4, eT, eU, hr9⟩ := hw
  cases eT
  cases eU
  rcases hr9 with rfl | ⟨rfl, a1, i7, ha1, V, own, pown, bl, role, hwf⟩
  · refine lv_istore_n (lv' := [(1, .int 0), (0, .ref h0)]) hx hb d_Mo_load_4 rfl hl (by decide) rfl (fun ls hl => ?_)
    refine lv_iload_n hx hb d_Mo_load_5 rfl (lv_at hl 0 rfl) ?_
    refine lv_if_ne (tgt := 17) hx hb d_Mo_load_6 (by decide) (fun c_5 => absurd rfl c_5) (fun _ => ?_)
    refine lv_aload_n hx hb d_Mo_load_9 rfl (lv_at hl 1 rfl) ?_
    refine lv_aload_n hx hb d_Mo_load_10 rfl (lv_at hl 1 rfl) ?_
    refine m_g hx hb hts hown hK hP 6 (by decide) rfl (hts _ k_973) (v := .int (I3 6)) rfl d_Mo_load_11 ?_
    refine m_p hx hb hts hown hK hP hD hS 5 (by decide) rfl (hts _ k_972) rfl (by decide +kernel) rfl (by decide) (x := (I3 6)) d_Mo_load_14 (fun H locs hP hD hS => ?_)
    refine lv_aload_n hx hb d_Mo_load_17 rfl (lv_at hl 1 rfl) ?_
    refine lv_iconst (v := 0) hx hb d_Mo_load_18 (by decide) ?_
    refine m_p hx hb hts hown hK hP hD hS 4 (by decide) rfl (hts _ k_971) rfl (by decide +kernel) rfl (by decide) (x := 0) d_Mo_load_19 (fun H locs hP hD hS => ?_)
    refine lv_aload_n hx hb d_Mo_load_22 rfl (lv_at hl 1 rfl) ?_
    refine lv_iload_n hx hb d_Mo_load_23 rfl (lv_at hl 0 rfl) ?_
    have hFc := m_free hD hS hA
    refine va_calli (va_runV (As := [.int 0]) (rest := []) ⟨hx, hb, hml, hown, hts⟩ (m_bad l dC dI ar N0 z h0 ad (upd (upd I3 5 (I3 6)) 4 0) T A3 U (0) H.size ) (cwV 1 hts (x_goodV k_1116 k_1118 kp_48 k_9 k_1119) rfl rfl rfl (by decide +kernel) ⟨Nat.le_of_ble_eq_true rfl, Nat.le_of_ble_eq_true rfl⟩) ⟨x_blind, va_recv hK hP (ci := 6) (q0 := 0) rfl rfl, fun U9 hU9 hW9 => x_pre hU9 hW9 hP hD hU hZ hS hAN hN0⟩ rfl rfl hl.1 rfl (lv_room (Nat.le_of_ble_eq_true rfl)) d_Mo_load_24 ⟨Nat.le_of_ble_eq_true rfl, Nat.le_of_ble_eq_true rfl⟩) hS (fun q _ h => hFc q h) hFc (fun r_6 u t H1 locs ht hvm hw hB hz1 hk1 hS => ?_)
    obtain ⟨I8, T8, A8, U8⟩ := u
    dsimp only at hw hB
    rw [ht] at hB
    have hP : va_P (dC, dI) x_cl (m_W h0 ad ar I8 T8 A8 U8) H1 := hB
    have hD : va_D Bq (m_W h0 ad ar I8 T8 A8 U8) := m_D hD
    generalize H1 = H at hP hS ⊢
    refine W.widen (k := 0) (n := 0) (Nat.le_of_ble_eq_true rfl) (Nat.le_of_ble_eq_true rfl) ?_
    rcases hw with ⟨b_9, rfl, h9⟩ | ⟨b_9, rfl, h9⟩
    · cases h9
      refine lv_if_eq (tgt := 32) hx hb d_Mo_load_27 (by decide) (fun c_10 => absurd c_10 (by decide)) (fun _ => ?_)
      refine lv_iconst (v := 0) hx hb d_Mo_load_30 (by decide) ?_
      refine W.widen (k := 0) (n := 0) (Nat.le_of_ble_eq_true rfl) (Nat.le_of_ble_eq_true rfl) ?_
      exact W.iret (v := 0) hx hb hr (fun t ht hW => ⟨⟨0, ((upd (upd (upd I3 5 (I3 6)) 4 0) 33 1), T, A3, U), rfl, m_OK.emp (hok.to (L := [6, 7, 8, 10, 18]) (LA := [2, 11, 12, 13, 14, 15, 16, 17, 19]) fr4 fa4 (by decide) (by decide)) (L := [4, 5, 33]) (((m_fr.rf.up (by decide) _).up (by decide) _).up (by decide) _) rfl (by decide), by dsimp only; rw [ht]; exact hP⟩, hS.F ht⟩) hS.2.2 d_Mo_load_31
    · exact absurd rfl b_9
  · refine lv_istore_n (lv' := [(1, .int 1), (0, .ref h0)]) hx hb d_Mo_load_4 rfl hl (by decide) rfl (fun ls hl => ?_)
    refine lv_iload_n hx hb d_Mo_load_5 rfl (lv_at hl 0 rfl) ?_
    refine lv_if_ne (tgt := 17) hx hb d_Mo_load_6 (by decide) (fun _ => ?_) (fun c_11 => absurd c_11 (by decide))
    refine lv_aload_n hx hb d_Mo_load_17 rfl (lv_at hl 1 rfl) ?_
    refine lv_iconst (v := 0) hx hb d_Mo_load_18 (by decide) ?_
    refine m_p hx hb hts hown hK hP hD hS 4 (by decide) rfl (hts _ k_971) rfl (by decide +kernel) rfl (by decide) (x := 0) d_Mo_load_19 (fun H locs hP hD hS => ?_)
    refine lv_aload_n hx hb d_Mo_load_22 rfl (lv_at hl 1 rfl) ?_
    refine lv_iload_n hx hb d_Mo_load_23 rfl (lv_at hl 0 rfl) ?_
    have hFc := m_free hD hS hA
    refine va_calli (va_runV (As := [.int 1]) (rest := []) ⟨hx, hb, hml, hown, hts⟩ (m_bad l dC dI ar N0 z h0 ad (upd I3 4 0) T A3 U (1) H.size ) (cwV 1 hts (x_goodV k_1116 k_1118 kp_48 k_9 k_1119) rfl rfl rfl (by decide +kernel) ⟨Nat.le_of_ble_eq_true rfl, Nat.le_of_ble_eq_true rfl⟩) ⟨x_blind, va_recv hK hP (ci := 6) (q0 := 0) rfl rfl, fun U9 hU9 hW9 => x_pre hU9 hW9 hP hD hU hZ hS hAN hN0⟩ rfl rfl hl.1 rfl (lv_room (Nat.le_of_ble_eq_true rfl)) d_Mo_load_24 ⟨Nat.le_of_ble_eq_true rfl, Nat.le_of_ble_eq_true rfl⟩) hS (fun q _ h => hFc q h) hFc (fun r_12 u t H1 locs ht hvm hw hB hz1 hk1 hS => ?_)
    obtain ⟨I14, T14, A14, U14⟩ := u
    dsimp only at hw hB
    rw [ht] at hB
    have hP : va_P (dC, dI) x_cl (m_W h0 ad ar I14 T14 A14 U14) H1 := hB
    have hD : va_D Bq (m_W h0 ad ar I14 T14 A14 U14) := m_D hD
    generalize H1 = H at hP hS ⊢
    refine W.widen (k := 0) (n := 0) (Nat.le_of_ble_eq_true rfl) (Nat.le_of_ble_eq_true rfl) ?_
    rcases hw with ⟨b_15, rfl, h9⟩ | ⟨b_15, rfl, h9⟩
    · exact absurd b_15 (by decide)
    · cases h9
      refine lv_if_eq (tgt := 32) hx hb d_Mo_load_27 (by decide) (fun _ => ?_) (fun c_16 => absurd (by decide) c_16)
      refine lv_iconst (v := 0) hx hb d_Mo_load_32 (by decide) ?_
      refine W.eq (g2 := F0 m 33 ls [.int (Int32.ofNat 0)]) rfl ?_
      refine lv_istore_n (lv' := [(2, .int (Int32.ofNat 0)), (1, .int 1), (0, .ref h0)]) hx hb d_Mo_load_33 rfl hl (by decide) rfl (fun ls hl => ?_)
      refine x_while (fun n H locs ls => ∃ (A1 : Nat → Nat → Int32) (i1 : Nat), n = a1 - i1 ∧ i1 ≤ a1 ∧ m_fa [1] A3 A1 ∧ (∀ j, j < i1 → A1 1 j = A3 2 j) ∧ va_P (dC, dI) x_cl (m_W h0 ad ar (upd (upd I3 4 0) 33 0) T A1 U) H ∧ va_D Bq (m_W h0 ad ar (upd (upd I3 4 0) 33 0) T A1 U) ∧ va_S Bq s.heap H locs ∧ lv_has ls 3 [(0, .ref h0), (2, .int (Int32.ofNat i1))]) (fun n ih H locs ls h9 => ?_) ⟨A3, 0, rfl, Nat.zero_le _, m_fa.rf, fun j hj => absurd hj (Nat.not_lt_zero j), hP, hD, hS, lv_sub hl [2, 0] rfl⟩
      obtain ⟨A1, i1, hn9, q1, hfa, g1, hP, hD, hS, hl⟩ := h9
      refine lv_iload_n hx hb d_Mo_load_34 rfl (lv_at hl 1 rfl) ?_
      refine lv_aload_n hx hb d_Mo_load_35 rfl (lv_at hl 0 rfl) ?_
      refine m_g hx hb hts hown hK hP 7 (by decide) rfl (hts _ k_974) (v := .int (Int32.ofNat a1)) (congrArg Value.int i7) d_Mo_load_36 ?_
      refine lv_icmp_ge (tgt := 60) hx hb d_Mo_load_39 (by decide) (fun c_17 => ?_) (fun c_17 => ?_)
      · have c_17 : a1 ≤ i1 := (x_leN (a := a1) (b := i1) (by omega) (by omega)).mp c_17
        refine lv_iconst (v := 0) hx hb d_Mo_load_60 (by decide) ?_
        refine W.eq (g2 := F0 m 61 ls [.int (Int32.ofNat 0)]) rfl ?_
        refine lv_istore_n (lv' := [(2, .int (Int32.ofNat 0)), (0, .ref h0)]) hx hb d_Mo_load_61 rfl hl (by decide) rfl (fun ls hl => ?_)
        have hwf1 : m_WF (A1 1) V own pown bl role a1 := hwf.same (fun j hj => g1 j (by omega))
        clear ih hn9
        clear g1 hfa
        refine x_while (fun n H locs ls => ∃ (A2 : Nat → Nat → Int32) (i2 : Nat), n = 6 - i2 ∧ i2 ≤ 6 ∧ A2 1 = A1 1 ∧ (∀ j, j < i2 → A2 35 j = -1) ∧ (∀ j, j < i2 → A2 38 j = -1) ∧ va_P (dC, dI) x_cl (m_W h0 ad ar (upd (upd I3 4 0) 33 0) T A2 U) H ∧ va_D Bq (m_W h0 ad ar (upd (upd I3 4 0) 33 0) T A2 U) ∧ va_S Bq s.heap H locs ∧ lv_has ls 3 [(0, .ref h0), (2, .int (Int32.ofNat i2))]) (fun n ih H locs ls h9 => ?_) ⟨A1, 0, rfl, Nat.zero_le _, rfl, fun j hj => absurd hj (Nat.not_lt_zero j), fun j hj => absurd hj (Nat.not_lt_zero j), hP, hD, hS, lv_sub hl [1, 0] rfl⟩
        obtain ⟨A2, i2, hn9, q2, e1, g35, g38, hP, hD, hS, hl⟩ := h9
        refine lv_iload_n hx hb d_Mo_load_62 rfl (lv_at hl 1 rfl) ?_
        refine lv_bipush (v := 6) hx hb d_Mo_load_63 (by decide) ?_
        refine lv_icmp_ge (tgt := 95) hx hb d_Mo_load_65 (by decide) (fun c_18 => ?_) (fun c_18 => ?_)
        · have c_18 : 6 ≤ i2 := (x_leN (a := 6) (b := i2) (by omega) (by omega)).mp c_18
          refine lv_iconst (v := 0) hx hb d_Mo_load_95 (by decide) ?_
          refine W.eq (g2 := F0 m 96 ls [.int (Int32.ofNat 0)]) rfl ?_
          refine lv_istore_n (lv' := [(2, .int (Int32.ofNat 0)), (0, .ref h0)]) hx hb d_Mo_load_96 rfl hl (by decide) rfl (fun ls hl => ?_)
          have hwf2 : m_WF (A2 1) V own pown bl role a1 := by rw [e1]; exact hwf1
          have g35 : ∀ j, j < 6 → A2 35 j = -1 := fun j hj => g35 j (by omega)
          have g38 : ∀ j, j < 6 → A2 38 j = -1 := fun j hj => g38 j (by omega)
          clear ih hn9
          refine x_while (fun n H locs ls => ∃ (A3 : Nat → Nat → Int32) (i3 : Nat), n = 90 - i3 ∧ i3 ≤ 90 ∧ m_fa [27, 28] A2 A3 ∧ (∀ j, j < i3 → A3 27 j = 0) ∧ va_P (dC, dI) x_cl (m_W h0 ad ar (upd (upd I3 4 0) 33 0) T A3 U) H ∧ va_D Bq (m_W h0 ad ar (upd (upd I3 4 0) 33 0) T A3 U) ∧ va_S Bq s.heap H locs ∧ lv_has ls 3 [(0, .ref h0), (2, .int (Int32.ofNat i3))]) (fun n ih H locs ls h9 => ?_) ⟨A2, 0, rfl, Nat.zero_le _, m_fa.rf, fun j hj => absurd hj (Nat.not_lt_zero j), hP, hD, hS, lv_sub hl [1, 0] rfl⟩
          obtain ⟨A3, i3, hn9, q3, hfa, g27, hP, hD, hS, hl⟩ := h9
          refine lv_iload_n hx hb d_Mo_load_97 rfl (lv_at hl 1 rfl) ?_
          refine lv_bipush (v := 90) hx hb d_Mo_load_98 (by decide) ?_
          refine lv_icmp_ge (tgt := 123) hx hb d_Mo_load_100 (by decide) (fun c_19 => ?_) (fun c_19 => ?_)
          · have c_19 : 90 ≤ i3 := (x_leN (a := 90) (b := i3) (by omega) (by omega)).mp c_19
            have g27 : ∀ j, j < 90 → A3 27 j = 0 := fun j hj => g27 j (by omega)
            refine lv_aload_n hx hb d_Mo_load_123 rfl (lv_at hl 0 rfl) ?_
            refine lv_aload_n hx hb d_Mo_load_124 rfl (lv_at hl 0 rfl) ?_
            refine lv_aload_n hx hb d_Mo_load_125 rfl (lv_at hl 0 rfl) ?_
            refine lv_aload_n hx hb d_Mo_load_126 rfl (lv_at hl 0 rfl) ?_
            refine lv_aload_n hx hb d_Mo_load_127 rfl (lv_at hl 0 rfl) ?_
            refine lv_iconst (v := 0) hx hb d_Mo_load_128 (by decide) ?_
            refine lv_dup_x1 hx hb d_Mo_load_129 rfl rfl ?_
            refine m_p hx hb hts hown hK hP hD hS 31 (by decide) rfl (hts _ k_998) rfl (by decide +kernel) rfl (by decide) (x := 0) d_Mo_load_130 (fun H locs hP hD hS => ?_)
            refine lv_dup_x1 hx hb d_Mo_load_133 rfl rfl ?_
            refine m_p hx hb hts hown hK hP hD hS 32 (by decide) rfl (hts _ k_999) rfl (by decide +kernel) rfl (by decide) (x := 0) d_Mo_load_134 (fun H locs hP hD hS => ?_)
            refine lv_dup_x1 hx hb d_Mo_load_137 rfl rfl ?_
            refine m_p hx hb hts hown hK hP hD hS 43 (by decide) rfl (hts _ k_1010) rfl (by decide +kernel) rfl (by decide) (x := 0) d_Mo_load_138 (fun H locs hP hD hS => ?_)
            refine lv_dup_x1 hx hb d_Mo_load_141 rfl rfl ?_
            refine m_p hx hb hts hown hK hP hD hS 42 (by decide) rfl (hts _ k_1009) rfl (by decide +kernel) rfl (by decide) (x := 0) d_Mo_load_142 (fun H locs hP hD hS => ?_)
            refine m_p hx hb hts hown hK hP hD hS 29 (by decide) rfl (hts _ k_996) rfl (by decide +kernel) rfl (by decide) (x := 0) d_Mo_load_145 (fun H locs hP hD hS => ?_)
            refine lv_aload_n hx hb d_Mo_load_148 rfl (lv_at hl 0 rfl) ?_
            refine lv_lconst (v := 0) hx hb d_Mo_load_149 (by decide) ?_
            refine m_pt hx hb hts hown hK hP hD hS (hts _ k_1001) d_Mo_load_150 (fun H locs hP hD hS => ?_)
            refine lv_aload_n hx hb d_Mo_load_153 rfl (lv_at hl 0 rfl) ?_
            refine lv_iconst (v := (-1)) hx hb d_Mo_load_154 (by decide) ?_
            refine m_p hx hb hts hown hK hP hD hS 30 (by decide) rfl (hts _ k_997) rfl (by decide +kernel) rfl (by decide) (x := (-1)) d_Mo_load_155 (fun H locs hP hD hS => ?_)
            refine lv_aload_n hx hb d_Mo_load_158 rfl (lv_at hl 0 rfl) ?_
            refine lv_aload_n hx hb d_Mo_load_159 rfl (lv_at hl 0 rfl) ?_
            refine m_g hx hb hts hown hK hP 1 (by decide) rfl (hts _ k_968) (v := .ref (ad 1)) rfl d_Mo_load_160 ?_
            refine lv_iconst (v := 0) hx hb d_Mo_load_163 (by decide) ?_
            refine W.eq (g2 := F0 m 164 ls [.int (Int32.ofNat 0), .ref (ad 1), .ref h0]) rfl ?_
            refine m_ld hx hb hK hP 1 rfl (by decide) (j := (Int32.ofNat 0)) (x_inN (by omega) (by decide)) d_Mo_load_164 ?_
            refine W.eq (g2 := F0 m 165 ls [.int (A3 1 (0)), .ref h0]) (by rw [x_nat (a := 0) (by omega)]) ?_
            refine lv_bipush (v := 12) hx hb d_Mo_load_165 (by decide) ?_
            refine lv_icmp_ne (tgt := 174) hx hb d_Mo_load_167 (by decide) (fun c_20 => ?_) (fun c_20 => ?_)
            · refine lv_iconst (v := 1) hx hb d_Mo_load_174 (by decide) ?_
              refine m_p hx hb hts hown hK hP hD hS 9 (by decide) rfl (hts _ k_976) rfl (by decide +kernel) rfl (by decide) (x := 1) d_Mo_load_175 (fun H locs hP hD hS => ?_)
              refine lv_aload_n hx hb d_Mo_load_178 rfl (lv_at hl 0 rfl) ?_
              refine m_g hx hb hts hown hK hP 9 (by decide) rfl (hts _ k_976) (v := .int 1) rfl d_Mo_load_179 ?_
              refine lv_iconst (v := 1) hx hb d_Mo_load_182 (by decide) ?_
              refine lv_icmp_ne (tgt := 192) hx hb d_Mo_load_183 (by decide) (fun c_21 => absurd rfl c_21) (fun _ => ?_)
              refine lv_aload_n hx hb d_Mo_load_186 rfl (lv_at hl 0 rfl) ?_
              refine lv_iconst (v := 0) hx hb d_Mo_load_187 (by decide) ?_
              refine lv_iconst (v := (-1)) hx hb d_Mo_load_188 (by decide) ?_
              have hFc := m_free hD hS hA
              refine va_callv (va_runV (As := [.int 0, .int (-1)]) (rest := []) ⟨hx, hb, hml, hown, hts⟩ (m_make l dC dI ar N0 z h0 ad (upd (upd (upd (upd (upd (upd (upd (upd (upd I3 4 0) 33 0) 31 0) 32 0) 43 0) 42 0) 29 0) 30 (-1)) 9 1) 0 A3 U 0 0 (-1) H.size rfl (by omega) (fun h9 => h9 0 (by omega) (g27 0 (by omega)))) (cwV 2 hts (x_goodV k_1190 k_1192 kp_64 k_9 k_1193) rfl rfl rfl (by decide +kernel) ⟨Nat.le_of_ble_eq_true rfl, Nat.le_of_ble_eq_true rfl⟩) ⟨x_blind, va_recv hK hP (ci := 6) (q0 := 0) rfl rfl, fun U9 hU9 hW9 => x_pre hU9 hW9 hP hD hU hZ hS hAN hN0⟩ rfl rfl hl.1 rfl (lv_room (Nat.le_of_ble_eq_true rfl)) d_Mo_load_189 ⟨Nat.le_of_ble_eq_true rfl, Nat.le_of_ble_eq_true rfl⟩) hS (fun q _ h => hFc q h) hFc (fun u t H1 locs ht hvm hw hB hz1 hk1 hS => ?_)
              obtain ⟨I23, T23, A23, U23⟩ := u
              dsimp only at hw hB
              rw [ht] at hB
              have hP : va_P (dC, dI) x_cl (m_W h0 ad ar I23 T23 A23 U23) H1 := hB
              have hD : va_D Bq (m_W h0 ad ar I23 T23 A23 U23) := m_D hD
              generalize H1 = H at hP hS ⊢
              refine W.widen (k := 0) (n := 0) (Nat.le_of_ble_eq_true rfl) (Nat.le_of_ble_eq_true rfl) ?_
              obtain ⟨t0, ht0, hn0, e1, e2, e3, e4⟩ := hw
              rw [e1, e2, e3, e4] at hP hD
              have hP : va_P (dC, dI) x_cl (m_W h0 ad ar (upd (upd (upd (upd (upd (upd (upd (upd (upd (upd I3 4 0) 33 0) 31 0) 32 0) 43 0) 42 0) 29 0) 30 (-1)) 9 1) 29 (Int32.ofNat (0 + 1))) 0 (m_up (m_up (m_up (m_up (m_up (m_up A3 27 (upd (A3 27) t0 1)) 28 (upd (A3 28) t0 0)) 20 (upd (A3 20) t0 0)) 21 (upd (A3 21) t0 (-1))) 22 (upd (A3 22) t0 0)) 24 (upd (A3 24) 0 (Int32.ofNat t0))) U) H := hP
              have hD : va_D Bq (m_W h0 ad ar (upd (upd (upd (upd (upd (upd (upd (upd (upd (upd I3 4 0) 33 0) 31 0) 32 0) 43 0) 42 0) 29 0) 30 (-1)) 9 1) 29 (Int32.ofNat (0 + 1))) 0 (m_up (m_up (m_up (m_up (m_up (m_up A3 27 (upd (A3 27) t0 1)) 28 (upd (A3 28) t0 0)) 20 (upd (A3 20) t0 0)) 21 (upd (A3 21) t0 (-1))) 22 (upd (A3 22) t0 0)) 24 (upd (A3 24) 0 (Int32.ofNat t0))) U) := hD
              refine lv_aload_n hx hb d_Mo_load_192 rfl (lv_at hl 0 rfl) ?_
              refine m_g hx hb hts hown hK hP 8 (by decide) rfl (hts _ k_975) (v := .int (I3 8)) rfl d_Mo_load_193 ?_
              refine W.widen (k := 0) (n := 0) (Nat.le_of_ble_eq_true rfl) (Nat.le_of_ble_eq_true rfl) ?_
              exact W.iret (v := (I3 8)) hx hb hr (fun t ht hW => ⟨⟨(I3 8), ((upd (upd (upd (upd (upd (upd (upd (upd (upd (upd I3 4 0) 33 0) 31 0) 32 0) 43 0) 42 0) 29 0) 30 (-1)) 9 1) 29 (Int32.ofNat (0 + 1))), 0, (m_up (m_up (m_up (m_up (m_up (m_up A3 27 (upd (A3 27) t0 1)) 28 (upd (A3 28) t0 0)) 20 (upd (A3 20) t0 0)) 21 (upd (A3 21) t0 (-1))) 22 (upd (A3 22) t0 0)) 24 (upd (A3 24) 0 (Int32.ofNat t0))), U), rfl, ⟨⟨by omega, rfl⟩, ⟨⟨0, by omega, rfl⟩, 0, by omega, rfl⟩, Or.inr (Or.inr (Or.inr ⟨rfl, V, own, pown, bl, role, a1, 1, _, _, _, rfl, m_RI.init (A := A3) (A' := (m_up (m_up (m_up (m_up (m_up (m_up A3 27 (upd (A3 27) t0 1)) 28 (upd (A3 28) t0 0)) 20 (upd (A3 20) t0 0)) 21 (upd (A3 21) t0 (-1))) 22 (upd (A3 22) t0 0)) 24 (upd (A3 24) 0 (Int32.ofNat t0)))) (t0 := t0) (by rw [hfa 1 (by decide)]; exact hwf2) (by omega) ht0 g27 (fun c hc => by rw [hfa 35 (by decide)]; exact g35 c hc) (fun c hc => by rw [hfa 38 (by decide)]; exact g38 c hc) rfl rfl rfl rfl rfl rfl rfl rfl rfl, Or.inl rfl⟩))⟩, by dsimp only; rw [ht]; exact hP⟩, hS.F ht⟩) hS.2.2 d_Mo_load_196
            · refine lv_iconst (v := 2) hx hb d_Mo_load_170 (by decide) ?_
              refine lv_goto (tgt := 175) hx hb d_Mo_load_171 (by decide) ?_
              refine m_p hx hb hts hown hK hP hD hS 9 (by decide) rfl (hts _ k_976) rfl (by decide +kernel) rfl (by decide) (x := 2) d_Mo_load_175 (fun H locs hP hD hS => ?_)
              refine lv_aload_n hx hb d_Mo_load_178 rfl (lv_at hl 0 rfl) ?_
              refine m_g hx hb hts hown hK hP 9 (by decide) rfl (hts _ k_976) (v := .int 2) rfl d_Mo_load_179 ?_
              refine lv_iconst (v := 1) hx hb d_Mo_load_182 (by decide) ?_
              refine lv_icmp_ne (tgt := 192) hx hb d_Mo_load_183 (by decide) (fun _ => ?_) (fun c_24 => absurd c_24 (by decide))
              refine lv_aload_n hx hb d_Mo_load_192 rfl (lv_at hl 0 rfl) ?_
              refine m_g hx hb hts hown hK hP 8 (by decide) rfl (hts _ k_975) (v := .int (I3 8)) rfl d_Mo_load_193 ?_
              refine W.widen (k := 0) (n := 0) (Nat.le_of_ble_eq_true rfl) (Nat.le_of_ble_eq_true rfl) ?_
              exact W.iret (v := (I3 8)) hx hb hr (fun t ht hW => ⟨⟨(I3 8), ((upd (upd (upd (upd (upd (upd (upd (upd (upd I3 4 0) 33 0) 31 0) 32 0) 43 0) 42 0) 29 0) 30 (-1)) 9 2), 0, A3, U), rfl, ⟨⟨by omega, rfl⟩, ⟨⟨0, by omega, rfl⟩, 0, by omega, rfl⟩, Or.inr (Or.inl rfl)⟩, by dsimp only; rw [ht]; exact hP⟩, hS.F ht⟩) hS.2.2 d_Mo_load_196
          · have c_19 : ¬ 90 ≤ i3 := fun h9 => c_19 ((x_leN (a := 90) (b := i3) (by omega) (by omega)).mpr h9)
            refine lv_aload_n hx hb d_Mo_load_103 rfl (lv_at hl 0 rfl) ?_
            refine m_g hx hb hts hown hK hP 27 (by decide) rfl (hts _ k_994) (v := .ref (ad 27)) rfl d_Mo_load_104 ?_
            refine lv_iload_n hx hb d_Mo_load_107 rfl (lv_at hl 1 rfl) ?_
            refine lv_aload_n hx hb d_Mo_load_108 rfl (lv_at hl 0 rfl) ?_
            refine m_g hx hb hts hown hK hP 28 (by decide) rfl (hts _ k_995) (v := .ref (ad 28)) rfl d_Mo_load_109 ?_
            refine lv_iload_n hx hb d_Mo_load_112 rfl (lv_at hl 1 rfl) ?_
            refine lv_iconst (v := 0) hx hb d_Mo_load_113 (by decide) ?_
            refine lv_dup_x2 hx hb d_Mo_load_114 rfl rfl rfl ?_
            refine m_zst hx hb hK hP hD hS 20 rfl (by decide) (j := (Int32.ofNat i3)) (x := 0) (x_inN (by omega) (by decide)) d_Mo_load_115 (fun H locs hP hD hS => ?_)
            rw [x_nat (a := i3) (by omega)] at hP hD
            rw [show vp_nar .boolean 0 = 0 from rfl] at hP hD
            have hP : va_P (dC, dI) x_cl (m_W h0 ad ar (upd (upd I3 4 0) 33 0) T (m_up A3 28 (upd (A3 28) i3 0)) U) H := hP
            have hD : va_D Bq (m_W h0 ad ar (upd (upd I3 4 0) 33 0) T (m_up A3 28 (upd (A3 28) i3 0)) U) := hD
            refine m_zst hx hb hK hP hD hS 19 rfl (by decide) (j := (Int32.ofNat i3)) (x := 0) (x_inN (by omega) (by decide)) d_Mo_load_116 (fun H locs hP hD hS => ?_)
            rw [x_nat (a := i3) (by omega)] at hP hD
            rw [show vp_nar .boolean 0 = 0 from rfl] at hP hD
            have hP : va_P (dC, dI) x_cl (m_W h0 ad ar (upd (upd I3 4 0) 33 0) T (m_up (m_up A3 28 (upd (A3 28) i3 0)) 27 (upd (A3 27) i3 0)) U) H := hP
            have hD : va_D Bq (m_W h0 ad ar (upd (upd I3 4 0) 33 0) T (m_up (m_up A3 28 (upd (A3 28) i3 0)) 27 (upd (A3 27) i3 0)) U) := hD
            refine lv_iinc (v := (Int32.ofNat (i3 + 1))) (lv' := [(2, .int (Int32.ofNat (i3 + 1))), (0, .ref h0)]) hx hb d_Mo_load_117 hl (k := 1) rfl (x_incN i3) (by decide) rfl (fun ls hl => ?_)
            refine lv_goto (tgt := 97) hx hb d_Mo_load_120 (by decide) ?_
            refine ih (90 - (i3 + 1)) (by omega) H locs ls ⟨(m_up (m_up A3 28 (upd (A3 28) i3 0)) 27 (upd (A3 27) i3 0)), i3 + 1, rfl, by omega, ((hfa.up (by decide) _).up (by decide) _), fun j hj => ?_, hP, hD, hS, lv_sub hl [1, 0] rfl⟩
            show upd (A3 27) i3 0 j = 0
            by_cases ej : j = i3
            · rw [ej, upd_s]
            · rw [upd_n ej]; exact g27 j (by omega)
        · have c_18 : ¬ 6 ≤ i2 := fun h9 => c_18 ((x_leN (a := 6) (b := i2) (by omega) (by omega)).mpr h9)
          refine lv_aload_n hx hb d_Mo_load_68 rfl (lv_at hl 0 rfl) ?_
          refine m_g hx hb hts hown hK hP 3 (by decide) rfl (hts _ k_970) (v := .ref (ad 3)) rfl d_Mo_load_69 ?_
          refine lv_iload_n hx hb d_Mo_load_72 rfl (lv_at hl 1 rfl) ?_
          refine lv_iconst (v := 0) hx hb d_Mo_load_73 (by decide) ?_
          refine m_st hx hb hK hP hD hS 3 rfl (by decide) (j := (Int32.ofNat i2)) (x := 0) (x_inN (by omega) (by decide)) d_Mo_load_74 (fun H locs hP hD hS => ?_)
          rw [x_nat (a := i2) (by omega)] at hP hD
          have hP : va_P (dC, dI) x_cl (m_W h0 ad ar (upd (upd I3 4 0) 33 0) T (m_up A2 3 (upd (A2 3) i2 0)) U) H := hP
          have hD : va_D Bq (m_W h0 ad ar (upd (upd I3 4 0) 33 0) T (m_up A2 3 (upd (A2 3) i2 0)) U) := hD
          refine lv_aload_n hx hb d_Mo_load_75 rfl (lv_at hl 0 rfl) ?_
          refine m_g hx hb hts hown hK hP 35 (by decide) rfl (hts _ k_1002) (v := .ref (ad 35)) rfl d_Mo_load_76 ?_
          refine lv_iload_n hx hb d_Mo_load_79 rfl (lv_at hl 1 rfl) ?_
          refine lv_iconst (v := (-1)) hx hb d_Mo_load_80 (by decide) ?_
          refine m_st hx hb hK hP hD hS 21 rfl (by decide) (j := (Int32.ofNat i2)) (x := (-1)) (x_inN (by omega) (by decide)) d_Mo_load_81 (fun H locs hP hD hS => ?_)
          rw [x_nat (a := i2) (by omega)] at hP hD
          have hP : va_P (dC, dI) x_cl (m_W h0 ad ar (upd (upd I3 4 0) 33 0) T (m_up (m_up A2 3 (upd (A2 3) i2 0)) 35 (upd (A2 35) i2 (-1))) U) H := hP
          have hD : va_D Bq (m_W h0 ad ar (upd (upd I3 4 0) 33 0) T (m_up (m_up A2 3 (upd (A2 3) i2 0)) 35 (upd (A2 35) i2 (-1))) U) := hD
          refine lv_aload_n hx hb d_Mo_load_82 rfl (lv_at hl 0 rfl) ?_
          refine m_g hx hb hts hown hK hP 38 (by decide) rfl (hts _ k_1005) (v := .ref (ad 38)) rfl d_Mo_load_83 ?_
          refine lv_iload_n hx hb d_Mo_load_86 rfl (lv_at hl 1 rfl) ?_
          refine lv_iconst (v := (-1)) hx hb d_Mo_load_87 (by decide) ?_
          refine m_st hx hb hK hP hD hS 24 rfl (by decide) (j := (Int32.ofNat i2)) (x := (-1)) (x_inN (by omega) (by decide)) d_Mo_load_88 (fun H locs hP hD hS => ?_)
          rw [x_nat (a := i2) (by omega)] at hP hD
          have hP : va_P (dC, dI) x_cl (m_W h0 ad ar (upd (upd I3 4 0) 33 0) T (m_up (m_up (m_up A2 3 (upd (A2 3) i2 0)) 35 (upd (A2 35) i2 (-1))) 38 (upd (A2 38) i2 (-1))) U) H := hP
          have hD : va_D Bq (m_W h0 ad ar (upd (upd I3 4 0) 33 0) T (m_up (m_up (m_up A2 3 (upd (A2 3) i2 0)) 35 (upd (A2 35) i2 (-1))) 38 (upd (A2 38) i2 (-1))) U) := hD
          refine lv_iinc (v := (Int32.ofNat (i2 + 1))) (lv' := [(2, .int (Int32.ofNat (i2 + 1))), (0, .ref h0)]) hx hb d_Mo_load_89 hl (k := 1) rfl (x_incN i2) (by decide) rfl (fun ls hl => ?_)
          refine lv_goto (tgt := 62) hx hb d_Mo_load_92 (by decide) ?_
          refine ih (6 - (i2 + 1)) (by omega) H locs ls ⟨(m_up (m_up (m_up A2 3 (upd (A2 3) i2 0)) 35 (upd (A2 35) i2 (-1))) 38 (upd (A2 38) i2 (-1))), i2 + 1, rfl, by omega, e1, fun j hj => ?_, fun j hj => ?_, hP, hD, hS, lv_sub hl [1, 0] rfl⟩
          · show upd (A2 35) i2 (-1) j = -1
            by_cases ej : j = i2
            · rw [ej, upd_s]
            · rw [upd_n ej]; exact g35 j (by omega)
          · show upd (A2 38) i2 (-1) j = -1
            by_cases ej : j = i2
            · rw [ej, upd_s]
            · rw [upd_n ej]; exact g38 j (by omega)
      · have c_17 : ¬ a1 ≤ i1 := fun h9 => c_17 ((x_leN (a := a1) (b := i1) (by omega) (by omega)).mpr h9)
        refine lv_aload_n hx hb d_Mo_load_42 rfl (lv_at hl 0 rfl) ?_
        refine m_g hx hb hts hown hK hP 1 (by decide) rfl (hts _ k_968) (v := .ref (ad 1)) rfl d_Mo_load_43 ?_
        refine lv_iload_n hx hb d_Mo_load_46 rfl (lv_at hl 1 rfl) ?_
        refine lv_aload_n hx hb d_Mo_load_47 rfl (lv_at hl 0 rfl) ?_
        refine m_g hx hb hts hown hK hP 2 (by decide) rfl (hts _ k_969) (v := .ref (ad 2)) rfl d_Mo_load_48 ?_
        refine lv_iload_n hx hb d_Mo_load_51 rfl (lv_at hl 1 rfl) ?_
        refine m_ld hx hb hK hP 2 rfl (by decide) (j := (Int32.ofNat i1)) (x_inN (by omega) (by decide)) d_Mo_load_52 ?_
        refine W.eq (g2 := F0 m 53 ls [.int (A1 2 (i1)), .int (Int32.ofNat i1), .ref (ad 1)]) (by rw [x_nat (a := i1) (by omega)]) ?_
        refine m_st hx hb hK hP hD hS 1 rfl (by decide) (j := (Int32.ofNat i1)) (x := (A1 2 (i1))) (x_inN (by omega) (by decide)) d_Mo_load_53 (fun H locs hP hD hS => ?_)
        rw [x_nat (a := i1) (by omega)] at hP hD
        have hP : va_P (dC, dI) x_cl (m_W h0 ad ar (upd (upd I3 4 0) 33 0) T (m_up A1 1 (upd (A1 1) i1 (A1 2 (i1)))) U) H := hP
        have hD : va_D Bq (m_W h0 ad ar (upd (upd I3 4 0) 33 0) T (m_up A1 1 (upd (A1 1) i1 (A1 2 (i1)))) U) := hD
        refine lv_iinc (v := (Int32.ofNat (i1 + 1))) (lv' := [(2, .int (Int32.ofNat (i1 + 1))), (0, .ref h0)]) hx hb d_Mo_load_54 hl (k := 1) rfl (x_incN i1) (by decide) rfl (fun ls hl => ?_)
        refine lv_goto (tgt := 34) hx hb d_Mo_load_57 (by decide) ?_
        refine ih (a1 - (i1 + 1)) (by omega) H locs ls ⟨(m_up A1 1 (upd (A1 1) i1 (A1 2 (i1)))), i1 + 1, rfl, by omega, hfa.up (by decide) _, fun j hj => ?_, hP, hD, hS, lv_sub hl [1, 0] rfl⟩
        rw [m_up_s]
        by_cases ej : j = i1
        · rw [ej, upd_s, hfa 2 (by decide)]
        · rw [upd_n ej]; exact g1 j (by omega)
