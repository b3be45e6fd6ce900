-- ===== 39.value: binary, value of the reference, by program =====
theorem k_968 : (Jvm.Cond.fieldLink "ChannelMachineModel" (13 : Nat) "ChannelMachineModel" "code" "[I") ∈ x_T := x_at 968 (by decide +kernel) (by decide +kernel)
theorem k_970 : (Jvm.Cond.fieldLink "ChannelMachineModel" (19 : Nat) "ChannelMachineModel" "variables" "[I") ∈ x_T := x_at 970 (by decide +kernel) (by decide +kernel)
theorem k_992 : (Jvm.Cond.fieldLink "ChannelMachineModel" (66 : Nat) "ChannelMachineModel" "pile" "[I") ∈ x_T := x_at 992 (by decide +kernel) (by decide +kernel)
theorem k_1011 : (Jvm.Cond.fieldLink "ChannelMachineModel" (233 : Nat) "ChannelMachineModel" "end" "I") ∈ x_T := x_at 1011 (by decide +kernel) (by decide +kernel)
theorem k_1120 : (Jvm.Cond.methodLink "ChannelMachineModel" (117 : Nat) ({ cls := "ChannelMachineModel", name := "fail", desc := "(I)I" } : Jvm.MethodName)) ∈ x_T := x_at 1120 (by decide +kernel) (by decide +kernel)
theorem k_1122 : (Jvm.Cond.instanceMethod ({ cls := "ChannelMachineModel", name := "fail", desc := "(I)I" } : Jvm.MethodName)) ∈ x_T := x_at 1122 (by decide +kernel) (by decide +kernel)
theorem k_1123 : (Jvm.Cond.code ({ cls := "ChannelMachineModel", name := "fail", desc := "(I)I" } : Jvm.MethodName) prog_12_method_5_code (2 : Nat) (Option.some Jvm.ClassFile.FieldType.int)) ∈ x_T := x_at 1123 (by decide +kernel) (by decide +kernel)
theorem k_1234 : (Jvm.Cond.methodLink "ChannelMachineModel" (229 : Nat) ({ cls := "ChannelMachineModel", name := "binary", desc := "(III)I" } : Jvm.MethodName)) ∈ x_T := x_at 1234 (by decide +kernel) (by decide +kernel)
theorem k_1236 : (Jvm.Cond.instanceMethod ({ cls := "ChannelMachineModel", name := "binary", desc := "(III)I" } : Jvm.MethodName)) ∈ x_T := x_at 1236 (by decide +kernel) (by decide +kernel)
theorem k_1237 : (Jvm.Cond.code ({ cls := "ChannelMachineModel", name := "binary", desc := "(III)I" } : Jvm.MethodName) prog_12_method_31_code (4 : Nat) (Option.some Jvm.ClassFile.FieldType.int)) ∈ x_T := x_at 1237 (by decide +kernel) (by decide +kernel)
theorem kp_49 : (Jvm.Cond.selects "ChannelMachineModel" ({ cls := "ChannelMachineModel", name := "fail", desc := "(I)I" } : Jvm.MethodName) ({ cls := "ChannelMachineModel", name := "fail", desc := "(I)I" } : Jvm.MethodName)) ∈ x_T := x_sel (q := (({ cls := "ChannelMachineModel", name := "fail", desc := "(I)I" } : Jvm.MethodName), 45)) 49 (by decide +kernel) (by decide +kernel)
theorem kp_73 : (Jvm.Cond.selects "ChannelMachineModel" ({ cls := "ChannelMachineModel", name := "binary", desc := "(III)I" } : Jvm.MethodName) ({ cls := "ChannelMachineModel", name := "binary", desc := "(III)I" } : Jvm.MethodName)) ∈ x_T := x_sel (q := (({ cls := "ChannelMachineModel", name := "binary", desc := "(III)I" } : Jvm.MethodName), 45)) 73 (by decide +kernel) (by decide +kernel)
theorem d_Mo_binary_0 : decode prog_12_method_31_code 0 = .ok (.iload_n 1, 1) := by decide +kernel
theorem d_Mo_binary_1 : decode prog_12_method_31_code 1 = .ok (.bipush 47, 2) := by decide +kernel
theorem d_Mo_binary_3 : decode prog_12_method_31_code 3 = .ok (.if_icmp .eq 9, 3) := by decide +kernel
theorem d_Mo_binary_6 : decode prog_12_method_31_code 6 = .ok (.iload_n 1, 1) := by decide +kernel
theorem d_Mo_binary_7 : decode prog_12_method_31_code 7 = .ok (.bipush 37, 2) := by decide +kernel
theorem d_Mo_binary_9 : decode prog_12_method_31_code 9 = .ok (.if_icmp .ne 13, 3) := by decide +kernel
theorem d_Mo_binary_12 : decode prog_12_method_31_code 12 = .ok (.iload_n 3, 1) := by decide +kernel
theorem d_Mo_binary_13 : decode prog_12_method_31_code 13 = .ok (.ifCond .ne 9, 3) := by decide +kernel
theorem d_Mo_binary_16 : decode prog_12_method_31_code 16 = .ok (.aload_n 0, 1) := by decide +kernel
theorem d_Mo_binary_17 : decode prog_12_method_31_code 17 = .ok (.iconst 3, 1) := by decide +kernel
theorem d_Mo_binary_18 : decode prog_12_method_31_code 18 = .ok (.invokevirtual 117, 3) := by decide +kernel
theorem d_Mo_binary_21 : decode prog_12_method_31_code 21 = .ok (.ireturn, 1) := by decide +kernel
theorem d_Mo_binary_22 : decode prog_12_method_31_code 22 = .ok (.iload_n 1, 1) := by decide +kernel
theorem d_Mo_binary_23 : decode prog_12_method_31_code 23 = .ok (.lookupswitch 88 #[(37, 73), (42, 65), (43, 57), (45, 61), (47, 69), (60, 77)], 57) := by decide +kernel
theorem d_Mo_binary_80 : decode prog_12_method_31_code 80 = .ok (.iload_n 2, 1) := by decide +kernel
theorem d_Mo_binary_81 : decode prog_12_method_31_code 81 = .ok (.iload_n 3, 1) := by decide +kernel
theorem d_Mo_binary_82 : decode prog_12_method_31_code 82 = .ok (.iadd, 1) := by decide +kernel
theorem d_Mo_binary_83 : decode prog_12_method_31_code 83 = .ok (.ireturn, 1) := by decide +kernel
theorem d_Mo_binary_84 : decode prog_12_method_31_code 84 = .ok (.iload_n 2, 1) := by decide +kernel
theorem d_Mo_binary_85 : decode prog_12_method_31_code 85 = .ok (.iload_n 3, 1) := by decide +kernel
theorem d_Mo_binary_86 : decode prog_12_method_31_code 86 = .ok (.isub, 1) := by decide +kernel
theorem d_Mo_binary_87 : decode prog_12_method_31_code 87 = .ok (.ireturn, 1) := by decide +kernel
theorem d_Mo_binary_88 : decode prog_12_method_31_code 88 = .ok (.iload_n 2, 1) := by decide +kernel
theorem d_Mo_binary_89 : decode prog_12_method_31_code 89 = .ok (.iload_n 3, 1) := by decide +kernel
theorem d_Mo_binary_90 : decode prog_12_method_31_code 90 = .ok (.imul, 1) := by decide +kernel
theorem d_Mo_binary_91 : decode prog_12_method_31_code 91 = .ok (.ireturn, 1) := by decide +kernel
theorem d_Mo_binary_92 : decode prog_12_method_31_code 92 = .ok (.iload_n 2, 1) := by decide +kernel
theorem d_Mo_binary_93 : decode prog_12_method_31_code 93 = .ok (.iload_n 3, 1) := by decide +kernel
theorem d_Mo_binary_94 : decode prog_12_method_31_code 94 = .ok (.idiv, 1) := by decide +kernel
theorem d_Mo_binary_95 : decode prog_12_method_31_code 95 = .ok (.ireturn, 1) := by decide +kernel
theorem d_Mo_binary_96 : decode prog_12_method_31_code 96 = .ok (.iload_n 2, 1) := by decide +kernel
theorem d_Mo_binary_97 : decode prog_12_method_31_code 97 = .ok (.iload_n 3, 1) := by decide +kernel
theorem d_Mo_binary_98 : decode prog_12_method_31_code 98 = .ok (.irem, 1) := by decide +kernel
theorem d_Mo_binary_99 : decode prog_12_method_31_code 99 = .ok (.ireturn, 1) := by decide +kernel
theorem d_Mo_binary_100 : decode prog_12_method_31_code 100 = .ok (.iload_n 2, 1) := by decide +kernel
theorem d_Mo_binary_101 : decode prog_12_method_31_code 101 = .ok (.iload_n 3, 1) := by decide +kernel
theorem d_Mo_binary_102 : decode prog_12_method_31_code 102 = .ok (.if_icmp .ge 7, 3) := by decide +kernel
theorem d_Mo_binary_105 : decode prog_12_method_31_code 105 = .ok (.iconst 1, 1) := by decide +kernel
theorem d_Mo_binary_106 : decode prog_12_method_31_code 106 = .ok (.goto 4, 3) := by decide +kernel
theorem d_Mo_binary_109 : decode prog_12_method_31_code 109 = .ok (.iconst 0, 1) := by decide +kernel
theorem d_Mo_binary_110 : decode prog_12_method_31_code 110 = .ok (.ireturn, 1) := by decide +kernel
theorem d_Mo_binary_111 : decode prog_12_method_31_code 111 = .ok (.iload_n 2, 1) := by decide +kernel
theorem d_Mo_binary_112 : decode prog_12_method_31_code 112 = .ok (.iload_n 3, 1) := by decide +kernel
theorem d_Mo_binary_113 : decode prog_12_method_31_code 113 = .ok (.if_icmp .ne 7, 3) := by decide +kernel
theorem d_Mo_binary_116 : decode prog_12_method_31_code 116 = .ok (.iconst 1, 1) := by decide +kernel
theorem d_Mo_binary_117 : decode prog_12_method_31_code 117 = .ok (.goto 4, 3) := by decide +kernel
theorem d_Mo_binary_120 : decode prog_12_method_31_code 120 = .ok (.iconst 0, 1) := by decide +kernel
theorem d_Mo_binary_121 : decode prog_12_method_31_code 121 = .ok (.ireturn, 1) := by decide +kernel
theorem d_Mo_value_0 : decode prog_12_method_32_code 0 = .ok (.iload_n 1, 1) := by decide +kernel
theorem d_Mo_value_1 : decode prog_12_method_32_code 1 = .ok (.istore_n 2, 1) := by decide +kernel
theorem d_Mo_value_2 : decode prog_12_method_32_code 2 = .ok (.iconst 0, 1) := by decide +kernel
theorem d_Mo_value_3 : decode prog_12_method_32_code 3 = .ok (.istore_n 3, 1) := by decide +kernel
theorem d_Mo_value_4 : decode prog_12_method_32_code 4 = .ok (.aload_n 0, 1) := by decide +kernel
theorem d_Mo_value_5 : decode prog_12_method_32_code 5 = .ok (.getfield 13, 3) := by decide +kernel
theorem d_Mo_value_8 : decode prog_12_method_32_code 8 = .ok (.iload_n 2, 1) := by decide +kernel
theorem d_Mo_value_9 : decode prog_12_method_32_code 9 = .ok (.iaload, 1) := by decide +kernel
theorem d_Mo_value_10 : decode prog_12_method_32_code 10 = .ok (.bipush 24, 2) := by decide +kernel
theorem d_Mo_value_12 : decode prog_12_method_32_code 12 = .ok (.if_icmp .eq 159, 3) := by decide +kernel
theorem d_Mo_value_15 : decode prog_12_method_32_code 15 = .ok (.aload_n 0, 1) := by decide +kernel
theorem d_Mo_value_16 : decode prog_12_method_32_code 16 = .ok (.getfield 103, 3) := by decide +kernel
theorem d_Mo_value_19 : decode prog_12_method_32_code 19 = .ok (.ifCond .ne 152, 3) := by decide +kernel
theorem d_Mo_value_22 : decode prog_12_method_32_code 22 = .ok (.aload_n 0, 1) := by decide +kernel
theorem d_Mo_value_23 : decode prog_12_method_32_code 23 = .ok (.getfield 13, 3) := by decide +kernel
theorem d_Mo_value_26 : decode prog_12_method_32_code 26 = .ok (.iload_n 2, 1) := by decide +kernel
theorem d_Mo_value_27 : decode prog_12_method_32_code 27 = .ok (.iaload, 1) := by decide +kernel
theorem d_Mo_value_28 : decode prog_12_method_32_code 28 = .ok (.istore 4, 2) := by decide +kernel
theorem d_Mo_value_30 : decode prog_12_method_32_code 30 = .ok (.iload 4, 2) := by decide +kernel
theorem d_Mo_value_32 : decode prog_12_method_32_code 32 = .ok (.bipush 20, 2) := by decide +kernel
theorem d_Mo_value_34 : decode prog_12_method_32_code 34 = .ok (.if_icmp .eq 10, 3) := by decide +kernel
theorem d_Mo_value_37 : decode prog_12_method_32_code 37 = .ok (.iload 4, 2) := by decide +kernel
theorem d_Mo_value_39 : decode prog_12_method_32_code 39 = .ok (.bipush 21, 2) := by decide +kernel
theorem d_Mo_value_41 : decode prog_12_method_32_code 41 = .ok (.if_icmp .ne 46, 3) := by decide +kernel
theorem d_Mo_value_44 : decode prog_12_method_32_code 44 = .ok (.aload_n 0, 1) := by decide +kernel
theorem d_Mo_value_45 : decode prog_12_method_32_code 45 = .ok (.getfield 66, 3) := by decide +kernel
theorem d_Mo_value_48 : decode prog_12_method_32_code 48 = .ok (.iload_n 3, 1) := by decide +kernel
theorem d_Mo_value_49 : decode prog_12_method_32_code 49 = .ok (.iload 4, 2) := by decide +kernel
theorem d_Mo_value_51 : decode prog_12_method_32_code 51 = .ok (.bipush 20, 2) := by decide +kernel
theorem d_Mo_value_53 : decode prog_12_method_32_code 53 = .ok (.if_icmp .ne 14, 3) := by decide +kernel
theorem d_Mo_value_56 : decode prog_12_method_32_code 56 = .ok (.aload_n 0, 1) := by decide +kernel
theorem d_Mo_value_57 : decode prog_12_method_32_code 57 = .ok (.getfield 13, 3) := by decide +kernel
theorem d_Mo_value_60 : decode prog_12_method_32_code 60 = .ok (.iload_n 2, 1) := by decide +kernel
theorem d_Mo_value_61 : decode prog_12_method_32_code 61 = .ok (.iconst 1, 1) := by decide +kernel
theorem d_Mo_value_62 : decode prog_12_method_32_code 62 = .ok (.iadd, 1) := by decide +kernel
theorem d_Mo_value_63 : decode prog_12_method_32_code 63 = .ok (.iaload, 1) := by decide +kernel
theorem d_Mo_value_64 : decode prog_12_method_32_code 64 = .ok (.goto 16, 3) := by decide +kernel
theorem d_Mo_value_67 : decode prog_12_method_32_code 67 = .ok (.aload_n 0, 1) := by decide +kernel
theorem d_Mo_value_68 : decode prog_12_method_32_code 68 = .ok (.getfield 19, 3) := by decide +kernel
theorem d_Mo_value_71 : decode prog_12_method_32_code 71 = .ok (.aload_n 0, 1) := by decide +kernel
theorem d_Mo_value_72 : decode prog_12_method_32_code 72 = .ok (.getfield 13, 3) := by decide +kernel
theorem d_Mo_value_75 : decode prog_12_method_32_code 75 = .ok (.iload_n 2, 1) := by decide +kernel
theorem d_Mo_value_76 : decode prog_12_method_32_code 76 = .ok (.iconst 1, 1) := by decide +kernel
theorem d_Mo_value_77 : decode prog_12_method_32_code 77 = .ok (.iadd, 1) := by decide +kernel
theorem d_Mo_value_78 : decode prog_12_method_32_code 78 = .ok (.iaload, 1) := by decide +kernel
theorem d_Mo_value_79 : decode prog_12_method_32_code 79 = .ok (.iaload, 1) := by decide +kernel
theorem d_Mo_value_80 : decode prog_12_method_32_code 80 = .ok (.iastore, 1) := by decide +kernel
theorem d_Mo_value_81 : decode prog_12_method_32_code 81 = .ok (.iinc 3 1, 3) := by decide +kernel
theorem d_Mo_value_84 : decode prog_12_method_32_code 84 = .ok (.goto 69, 3) := by decide +kernel
theorem d_Mo_value_87 : decode prog_12_method_32_code 87 = .ok (.iload 4, 2) := by decide +kernel
theorem d_Mo_value_89 : decode prog_12_method_32_code 89 = .ok (.bipush 23, 2) := by decide +kernel
theorem d_Mo_value_91 : decode prog_12_method_32_code 91 = .ok (.if_icmp .ne 23, 3) := by decide +kernel
theorem d_Mo_value_94 : decode prog_12_method_32_code 94 = .ok (.aload_n 0, 1) := by decide +kernel
theorem d_Mo_value_95 : decode prog_12_method_32_code 95 = .ok (.getfield 66, 3) := by decide +kernel
theorem d_Mo_value_98 : decode prog_12_method_32_code 98 = .ok (.iload_n 3, 1) := by decide +kernel
theorem d_Mo_value_99 : decode prog_12_method_32_code 99 = .ok (.iconst 1, 1) := by decide +kernel
theorem d_Mo_value_100 : decode prog_12_method_32_code 100 = .ok (.isub, 1) := by decide +kernel
theorem d_Mo_value_101 : decode prog_12_method_32_code 101 = .ok (.aload_n 0, 1) := by decide +kernel
theorem d_Mo_value_102 : decode prog_12_method_32_code 102 = .ok (.getfield 66, 3) := by decide +kernel
theorem d_Mo_value_105 : decode prog_12_method_32_code 105 = .ok (.iload_n 3, 1) := by decide +kernel
theorem d_Mo_value_106 : decode prog_12_method_32_code 106 = .ok (.iconst 1, 1) := by decide +kernel
theorem d_Mo_value_107 : decode prog_12_method_32_code 107 = .ok (.isub, 1) := by decide +kernel
theorem d_Mo_value_108 : decode prog_12_method_32_code 108 = .ok (.iaload, 1) := by decide +kernel
theorem d_Mo_value_109 : decode prog_12_method_32_code 109 = .ok (.ineg, 1) := by decide +kernel
theorem d_Mo_value_110 : decode prog_12_method_32_code 110 = .ok (.iastore, 1) := by decide +kernel
theorem d_Mo_value_111 : decode prog_12_method_32_code 111 = .ok (.goto 42, 3) := by decide +kernel
theorem d_Mo_value_114 : decode prog_12_method_32_code 114 = .ok (.aload_n 0, 1) := by decide +kernel
theorem d_Mo_value_115 : decode prog_12_method_32_code 115 = .ok (.getfield 66, 3) := by decide +kernel
theorem d_Mo_value_118 : decode prog_12_method_32_code 118 = .ok (.iload_n 3, 1) := by decide +kernel
theorem d_Mo_value_119 : decode prog_12_method_32_code 119 = .ok (.iconst 2, 1) := by decide +kernel
theorem d_Mo_value_120 : decode prog_12_method_32_code 120 = .ok (.isub, 1) := by decide +kernel
theorem d_Mo_value_121 : decode prog_12_method_32_code 121 = .ok (.aload_n 0, 1) := by decide +kernel
theorem d_Mo_value_122 : decode prog_12_method_32_code 122 = .ok (.aload_n 0, 1) := by decide +kernel
theorem d_Mo_value_123 : decode prog_12_method_32_code 123 = .ok (.getfield 13, 3) := by decide +kernel
theorem d_Mo_value_126 : decode prog_12_method_32_code 126 = .ok (.iload_n 2, 1) := by decide +kernel
theorem d_Mo_value_127 : decode prog_12_method_32_code 127 = .ok (.iconst 1, 1) := by decide +kernel
theorem d_Mo_value_128 : decode prog_12_method_32_code 128 = .ok (.iadd, 1) := by decide +kernel
theorem d_Mo_value_129 : decode prog_12_method_32_code 129 = .ok (.iaload, 1) := by decide +kernel
theorem d_Mo_value_130 : decode prog_12_method_32_code 130 = .ok (.aload_n 0, 1) := by decide +kernel
theorem d_Mo_value_131 : decode prog_12_method_32_code 131 = .ok (.getfield 66, 3) := by decide +kernel
theorem d_Mo_value_134 : decode prog_12_method_32_code 134 = .ok (.iload_n 3, 1) := by decide +kernel
theorem d_Mo_value_135 : decode prog_12_method_32_code 135 = .ok (.iconst 2, 1) := by decide +kernel
theorem d_Mo_value_136 : decode prog_12_method_32_code 136 = .ok (.isub, 1) := by decide +kernel
theorem d_Mo_value_137 : decode prog_12_method_32_code 137 = .ok (.iaload, 1) := by decide +kernel
theorem d_Mo_value_138 : decode prog_12_method_32_code 138 = .ok (.aload_n 0, 1) := by decide +kernel
theorem d_Mo_value_139 : decode prog_12_method_32_code 139 = .ok (.getfield 66, 3) := by decide +kernel
theorem d_Mo_value_142 : decode prog_12_method_32_code 142 = .ok (.iload_n 3, 1) := by decide +kernel
theorem d_Mo_value_143 : decode prog_12_method_32_code 143 = .ok (.iconst 1, 1) := by decide +kernel
theorem d_Mo_value_144 : decode prog_12_method_32_code 144 = .ok (.isub, 1) := by decide +kernel
theorem d_Mo_value_145 : decode prog_12_method_32_code 145 = .ok (.iaload, 1) := by decide +kernel
theorem d_Mo_value_146 : decode prog_12_method_32_code 146 = .ok (.invokevirtual 229, 3) := by decide +kernel
theorem d_Mo_value_149 : decode prog_12_method_32_code 149 = .ok (.iastore, 1) := by decide +kernel
theorem d_Mo_value_150 : decode prog_12_method_32_code 150 = .ok (.iinc 3 (-1), 3) := by decide +kernel
theorem d_Mo_value_153 : decode prog_12_method_32_code 153 = .ok (.iload_n 2, 1) := by decide +kernel
theorem d_Mo_value_154 : decode prog_12_method_32_code 154 = .ok (.iload 4, 2) := by decide +kernel
theorem d_Mo_value_156 : decode prog_12_method_32_code 156 = .ok (.bipush 23, 2) := by decide +kernel
theorem d_Mo_value_158 : decode prog_12_method_32_code 158 = .ok (.if_icmp .ne 7, 3) := by decide +kernel
theorem d_Mo_value_161 : decode prog_12_method_32_code 161 = .ok (.iconst 1, 1) := by decide +kernel
theorem d_Mo_value_162 : decode prog_12_method_32_code 162 = .ok (.goto 4, 3) := by decide +kernel
theorem d_Mo_value_165 : decode prog_12_method_32_code 165 = .ok (.iconst 2, 1) := by decide +kernel
theorem d_Mo_value_166 : decode prog_12_method_32_code 166 = .ok (.iadd, 1) := by decide +kernel
theorem d_Mo_value_167 : decode prog_12_method_32_code 167 = .ok (.istore_n 2, 1) := by decide +kernel
theorem d_Mo_value_168 : decode prog_12_method_32_code 168 = .ok (.goto (-164), 3) := by decide +kernel
theorem d_Mo_value_171 : decode prog_12_method_32_code 171 = .ok (.aload_n 0, 1) := by decide +kernel
theorem d_Mo_value_172 : decode prog_12_method_32_code 172 = .ok (.iload_n 2, 1) := by decide +kernel
theorem d_Mo_value_173 : decode prog_12_method_32_code 173 = .ok (.iconst 1, 1) := by decide +kernel
theorem d_Mo_value_174 : decode prog_12_method_32_code 174 = .ok (.iadd, 1) := by decide +kernel
theorem d_Mo_value_175 : decode prog_12_method_32_code 175 = .ok (.putfield 233, 3) := by decide +kernel
theorem d_Mo_value_178 : decode prog_12_method_32_code 178 = .ok (.aload_n 0, 1) := by decide +kernel
theorem d_Mo_value_179 : decode prog_12_method_32_code 179 = .ok (.getfield 66, 3) := by decide +kernel
theorem d_Mo_value_182 : decode prog_12_method_32_code 182 = .ok (.iconst 0, 1) := by decide +kernel
theorem d_Mo_value_183 : decode prog_12_method_32_code 183 = .ok (.iaload, 1) := by decide +kernel
theorem d_Mo_value_184 : decode prog_12_method_32_code 184 = .ok (.ireturn, 1) := by decide +kernel
set_option maxHeartbeats 4000000 in
set_option maxRecDepth 100000 in
theorem m_binary (l : Launch) (dC : Nat → ClassId) (dI : Nat → Nat → Nat) (ar : Nat → ClassId) (N0 : Nat) (z : Nat → Nat) (h0 : Nat) (ad : Nat → Nat) (I : Nat → Int32) (T : Int64) (A : Nat → Nat → Int32) (U : Nat → Int64) (ov x9 y9 : Int32) (sz : Nat) : Met l ({ cls := "ChannelMachineModel", name := "binary", desc := "(III)I" } : Jvm.MethodName) ((Jvm.Cond.code ({ cls := "ChannelMachineModel", name := "binary", desc := "(III)I" } : Jvm.MethodName) prog_12_method_31_code (4 : Nat) (Option.some Jvm.ClassFile.FieldType.int)) :: x_T) ({ frames := 1, cells := 0, slots := 0, locals := 21 }) (x_Pc (dC, dI) ar N0 z (m_W h0 ad ar I T A U) sz [.ref h0, .int ov, .int x9, .int y9]) (va_Qi (fun (r : Int32) (u : (Nat → Int32) × Int64 × (Nat → Nat → Int32) × (Nat → Int64)) => u = (I, T, A, U) ∨ u = (upd I 33 3, T, A, U)) (fun u t => va_P (dC, dI) x_cl (m_W h0 ad ar u.1 u.2.1 u.2.2.1 u.2.2.2) t.heap) (va_A (m_W h0 ad ar I T A U) sz)) 0 0 (va_A (m_W h0 ad ar I T A U) sz) := by
  refine Met.ofW (cc := prog_12_method_31_code) (maxL := 4) (ret := (some .int)) (by decide) rfl ?_
  intro p e s m args below meth c s₁ B hml hv
  obtain ⟨rfl, hsz, hN0, hP, hU, hZ, hD0⟩ := hv
  have hK := hU.1
  have hx := B.exec
  have hb := B.bytes
  have hr := B.returns
  have hts : ∀ w ∈ x_T, w.before ([.ref h0, .int ov, .int x9, .int y9] : List Value).toArray s = true := fun w h => atoms_spec (ws := (Jvm.Cond.code ({ cls := "ChannelMachineModel", name := "binary", desc := "(III)I" } : Jvm.MethodName) prog_12_method_31_code (4 : Nat) (Option.some Jvm.ClassFile.FieldType.int)) :: x_T) B.pre w (List.mem_cons_of_mem _ h)
  have hown : s.vm.findClass "ChannelMachineModel" = some m.cls := findClass_of_methodNamed B.named
  have hlocks := B.notSynchronized
  subst hsz
  have hD := hD0.self (sz := s.heap.size)
  have hAN := x_AN hD0 hN0
  generalize hAe : va_A (m_W h0 ad ar I T A U) s.heap.size = Bq at hD hAN ⊢
  have hA : ∀ q : Nat, s.heap.size ≤ q → Bq q := fun q h => by rw [← hAe]; exact Or.inr h
  have hS : va_S Bq s.heap s.heap [] := va_S.rf
  have hl := lv_entry ([.ref h0, .int ov, .int x9, .int y9]) (n := 4) (Nat.le_of_ble_eq_true rfl)
  rw [lg_entry_eq]
  generalize (lg_sl ([.ref h0, .int ov, .int x9, .int y9]) ++ List.replicate (4 - (lg_sl ([.ref h0, .int ov, .int x9, .int y9])).length) Slot.unset).toArray = ls at hl ⊢
  have hl : lv_has ls 4 [(0, .ref h0), (1, .int ov), (2, .int x9), (3, .int y9)] := hl
  refine lv_iload_n hx hb d_Mo_binary_0 rfl (lv_at hl 1 rfl) ?_
  refine lv_bipush (v := 47) hx hb d_Mo_binary_1 (by decide) ?_
  refine lv_icmp_eq (tgt := 12) hx hb d_Mo_binary_3 (by decide) (fun c1 => ?_) (fun c1 => ?_)
  · refine lv_iload_n hx hb d_Mo_binary_12 rfl (lv_at hl 3 rfl) ?_
    refine lv_if_ne (tgt := 22) hx hb d_Mo_binary_13 (by decide) (fun c2 => ?_) (fun c2 => ?_)
    · refine lv_iload_n hx hb d_Mo_binary_22 rfl (lv_at hl 1 rfl) ?_
      by_cases s3 : ov = 37
      · refine lv_lookup (tgt := 96) hx hb d_Mo_binary_23 (by decide) (off := 73) (by rw [s3]; decide) (by decide) ?_
        refine lv_iload_n hx hb d_Mo_binary_96 rfl (lv_at hl 2 rfl) ?_
        refine lv_iload_n hx hb d_Mo_binary_97 rfl (lv_at hl 3 rfl) ?_
        refine lv_irem hx hb d_Mo_binary_98 c2 ?_
        refine lv_topi (fun d4 _ => ?_)
        refine W.widen (k := 0) (n := 0) (Nat.le_of_ble_eq_true rfl) (Nat.le_of_ble_eq_true rfl) ?_
        exact W.iret (v := d4) hx hb hr (fun t ht hW => ⟨⟨d4, (I, T, A, U), rfl, Or.inl rfl, by dsimp only; rw [ht]; exact hP⟩, hS.F ht⟩) hS.2.2 d_Mo_binary_99
      · by_cases s5 : ov = 42
        · refine lv_lookup (tgt := 88) hx hb d_Mo_binary_23 (by decide) (off := 65) (by rw [s5]; decide) (by decide) ?_
          refine lv_iload_n hx hb d_Mo_binary_88 rfl (lv_at hl 2 rfl) ?_
          refine lv_iload_n hx hb d_Mo_binary_89 rfl (lv_at hl 3 rfl) ?_
          refine lv_imul hx hb d_Mo_binary_90 ?_
          refine W.widen (k := 0) (n := 0) (Nat.le_of_ble_eq_true rfl) (Nat.le_of_ble_eq_true rfl) ?_
          exact W.iret (v := (x9 * y9)) hx hb hr (fun t ht hW => ⟨⟨(x9 * y9), (I, T, A, U), rfl, Or.inl rfl, by dsimp only; rw [ht]; exact hP⟩, hS.F ht⟩) hS.2.2 d_Mo_binary_91
        · by_cases s6 : ov = 43
          · refine lv_lookup (tgt := 80) hx hb d_Mo_binary_23 (by decide) (off := 57) (by rw [s6]; decide) (by decide) ?_
            refine lv_iload_n hx hb d_Mo_binary_80 rfl (lv_at hl 2 rfl) ?_
            refine lv_iload_n hx hb d_Mo_binary_81 rfl (lv_at hl 3 rfl) ?_
            refine lv_iadd hx hb d_Mo_binary_82 ?_
            refine W.widen (k := 0) (n := 0) (Nat.le_of_ble_eq_true rfl) (Nat.le_of_ble_eq_true rfl) ?_
            exact W.iret (v := (x9 + y9)) hx hb hr (fun t ht hW => ⟨⟨(x9 + y9), (I, T, A, U), rfl, Or.inl rfl, by dsimp only; rw [ht]; exact hP⟩, hS.F ht⟩) hS.2.2 d_Mo_binary_83
          · by_cases s7 : ov = 45
            · refine lv_lookup (tgt := 84) hx hb d_Mo_binary_23 (by decide) (off := 61) (by rw [s7]; decide) (by decide) ?_
              refine lv_iload_n hx hb d_Mo_binary_84 rfl (lv_at hl 2 rfl) ?_
              refine lv_iload_n hx hb d_Mo_binary_85 rfl (lv_at hl 3 rfl) ?_
              refine lv_isub hx hb d_Mo_binary_86 ?_
              refine W.widen (k := 0) (n := 0) (Nat.le_of_ble_eq_true rfl) (Nat.le_of_ble_eq_true rfl) ?_
              exact W.iret (v := (x9 - y9)) hx hb hr (fun t ht hW => ⟨⟨(x9 - y9), (I, T, A, U), rfl, Or.inl rfl, by dsimp only; rw [ht]; exact hP⟩, hS.F ht⟩) hS.2.2 d_Mo_binary_87
            · by_cases s8 : ov = 47
              · refine lv_lookup (tgt := 92) hx hb d_Mo_binary_23 (by decide) (off := 69) (by rw [s8]; decide) (by decide) ?_
                refine lv_iload_n hx hb d_Mo_binary_92 rfl (lv_at hl 2 rfl) ?_
                refine lv_iload_n hx hb d_Mo_binary_93 rfl (lv_at hl 3 rfl) ?_
                refine lv_idiv hx hb d_Mo_binary_94 c2 ?_
                refine lv_topi (fun d9 _ => ?_)
                refine W.widen (k := 0) (n := 0) (Nat.le_of_ble_eq_true rfl) (Nat.le_of_ble_eq_true rfl) ?_
                exact W.iret (v := d9) hx hb hr (fun t ht hW => ⟨⟨d9, (I, T, A, U), rfl, Or.inl rfl, by dsimp only; rw [ht]; exact hP⟩, hS.F ht⟩) hS.2.2 d_Mo_binary_95
              · by_cases s10 : ov = 60
                · refine lv_lookup (tgt := 100) hx hb d_Mo_binary_23 (by decide) (off := 77) (by rw [s10]; decide) (by decide) ?_
                  refine lv_iload_n hx hb d_Mo_binary_100 rfl (lv_at hl 2 rfl) ?_
                  refine lv_iload_n hx hb d_Mo_binary_101 rfl (lv_at hl 3 rfl) ?_
                  refine lv_icmp_ge (tgt := 109) hx hb d_Mo_binary_102 (by decide) (fun c11 => ?_) (fun c11 => ?_)
                  · refine lv_iconst (v := 0) hx hb d_Mo_binary_109 (by decide) ?_
                    refine W.widen (k := 0) (n := 0) (Nat.le_of_ble_eq_true rfl) (Nat.le_of_ble_eq_true rfl) ?_
                    exact W.iret (v := 0) hx hb hr (fun t ht hW => ⟨⟨0, (I, T, A, U), rfl, Or.inl rfl, by dsimp only; rw [ht]; exact hP⟩, hS.F ht⟩) hS.2.2 d_Mo_binary_110
                  · refine lv_iconst (v := 1) hx hb d_Mo_binary_105 (by decide) ?_
                    refine lv_goto (tgt := 110) hx hb d_Mo_binary_106 (by decide) ?_
                    refine W.widen (k := 0) (n := 0) (Nat.le_of_ble_eq_true rfl) (Nat.le_of_ble_eq_true rfl) ?_
                    exact W.iret (v := 1) hx hb hr (fun t ht hW => ⟨⟨1, (I, T, A, U), rfl, Or.inl rfl, by dsimp only; rw [ht]; exact hP⟩, hS.F ht⟩) hS.2.2 d_Mo_binary_110
                · refine lv_lookup (tgt := 111) hx hb d_Mo_binary_23 (by decide) (off := 88) (by show Op.lookupswitch.offset [(37, 73), (42, 65), (43, 57), (45, 61), (47, 69), (60, 77)] 88 (Int32.toInt ov) = 88; rw [lv_osw s3 (by decide), lv_osw s5 (by decide), lv_osw s6 (by decide), lv_osw s7 (by decide), lv_osw s8 (by decide), lv_osw s10 (by decide)]; rfl) (by decide) ?_
                  refine lv_iload_n hx hb d_Mo_binary_111 rfl (lv_at hl 2 rfl) ?_
                  refine lv_iload_n hx hb d_Mo_binary_112 rfl (lv_at hl 3 rfl) ?_
                  refine lv_icmp_ne (tgt := 120) hx hb d_Mo_binary_113 (by decide) (fun c12 => ?_) (fun c12 => ?_)
                  · refine lv_iconst (v := 0) hx hb d_Mo_binary_120 (by decide) ?_
                    refine W.widen (k := 0) (n := 0) (Nat.le_of_ble_eq_true rfl) (Nat.le_of_ble_eq_true rfl) ?_
                    exact W.iret (v := 0) hx hb hr (fun t ht hW => ⟨⟨0, (I, T, A, U), rfl, Or.inl rfl, by dsimp only; rw [ht]; exact hP⟩, hS.F ht⟩) hS.2.2 d_Mo_binary_121
                  · refine lv_iconst (v := 1) hx hb d_Mo_binary_116 (by decide) ?_
                    refine lv_goto (tgt := 121) hx hb d_Mo_binary_117 (by decide) ?_
                    refine W.widen (k := 0) (n := 0) (Nat.le_of_ble_eq_true rfl) (Nat.le_of_ble_eq_true rfl) ?_
                    exact W.iret (v := 1) hx hb hr (fun t ht hW => ⟨⟨1, (I, T, A, U), rfl, Or.inl rfl, by dsimp only; rw [ht]; exact hP⟩, hS.F ht⟩) hS.2.2 d_Mo_binary_121
    · refine lv_aload_n hx hb d_Mo_binary_16 rfl (lv_at hl 0 rfl) ?_
      refine lv_iconst (v := 3) hx hb d_Mo_binary_17 (by decide) ?_
      have hFc := m_free hD hS hA
      refine va_calli (va_runV (As := [.int 3]) (rest := []) ⟨hx, hb, hml, hown, hts⟩ (m_fail l dC dI ar N0 z h0 ad I T A U (3) s.heap.size ) (cwV 1 hts (x_goodV k_1120 k_1122 kp_49 k_9 k_1123) rfl rfl rfl (by decide +kernel) ⟨Nat.le_of_ble_eq_true rfl, Nat.le_of_ble_eq_true rfl⟩) ⟨x_blind, va_recv hK hP (ci := 6) (q0 := 0) rfl rfl, fun U9 hU9 hW9 => x_pre hU9 hW9 hP hD hU hZ hS hAN hN0⟩ rfl rfl hl.1 rfl (lv_room (Nat.le_of_ble_eq_true rfl)) d_Mo_binary_18 ⟨Nat.le_of_ble_eq_true rfl, Nat.le_of_ble_eq_true rfl⟩) hS (fun q _ h => hFc q h) hFc (fun r13 u t H1 locs ht hvm hw hB hz1 hk1 hS => ?_)
      obtain ⟨I15, T15, A15, U15⟩ := u
      dsimp only at hw hB
      rw [ht] at hB
      have hP : va_P (dC, dI) x_cl (m_W h0 ad ar I15 T15 A15 U15) H1 := hB
      have hD : va_D Bq (m_W h0 ad ar I15 T15 A15 U15) := m_D hD
      generalize H1 = H at hP hS ⊢
      refine W.widen (k := 0) (n := 0) (Nat.le_of_ble_eq_true rfl) (Nat.le_of_ble_eq_true rfl) ?_
      obtain ⟨h9, rfl⟩ := hw
      cases h9
      refine W.widen (k := 0) (n := 0) (Nat.le_of_ble_eq_true rfl) (Nat.le_of_ble_eq_true rfl) ?_
      exact W.iret (v := 0) hx hb hr (fun t ht hW => ⟨⟨0, ((upd I 33 3), T, A, U), rfl, Or.inr rfl, by dsimp only; rw [ht]; exact hP⟩, hS.F ht⟩) hS.2.2 d_Mo_binary_21
  · refine lv_iload_n hx hb d_Mo_binary_6 rfl (lv_at hl 1 rfl) ?_
    refine lv_bipush (v := 37) hx hb d_Mo_binary_7 (by decide) ?_
    refine lv_icmp_ne (tgt := 22) hx hb d_Mo_binary_9 (by decide) (fun c16 => ?_) (fun c16 => ?_)
    · refine lv_iload_n hx hb d_Mo_binary_22 rfl (lv_at hl 1 rfl) ?_
      by_cases s17 : ov = 37
      · exact absurd s17 c16
      · by_cases s18 : ov = 42
        · refine lv_lookup (tgt := 88) hx hb d_Mo_binary_23 (by decide) (off := 65) (by rw [s18]; decide) (by decide) ?_
          refine lv_iload_n hx hb d_Mo_binary_88 rfl (lv_at hl 2 rfl) ?_
          refine lv_iload_n hx hb d_Mo_binary_89 rfl (lv_at hl 3 rfl) ?_
          refine lv_imul hx hb d_Mo_binary_90 ?_
          refine W.widen (k := 0) (n := 0) (Nat.le_of_ble_eq_true rfl) (Nat.le_of_ble_eq_true rfl) ?_
          exact W.iret (v := (x9 * y9)) hx hb hr (fun t ht hW => ⟨⟨(x9 * y9), (I, T, A, U), rfl, Or.inl rfl, by dsimp only; rw [ht]; exact hP⟩, hS.F ht⟩) hS.2.2 d_Mo_binary_91
        · by_cases s19 : ov = 43
          · refine lv_lookup (tgt := 80) hx hb d_Mo_binary_23 (by decide) (off := 57) (by rw [s19]; decide) (by decide) ?_
            refine lv_iload_n hx hb d_Mo_binary_80 rfl (lv_at hl 2 rfl) ?_
            refine lv_iload_n hx hb d_Mo_binary_81 rfl (lv_at hl 3 rfl) ?_
            refine lv_iadd hx hb d_Mo_binary_82 ?_
            refine W.widen (k := 0) (n := 0) (Nat.le_of_ble_eq_true rfl) (Nat.le_of_ble_eq_true rfl) ?_
            exact W.iret (v := (x9 + y9)) hx hb hr (fun t ht hW => ⟨⟨(x9 + y9), (I, T, A, U), rfl, Or.inl rfl, by dsimp only; rw [ht]; exact hP⟩, hS.F ht⟩) hS.2.2 d_Mo_binary_83
          · by_cases s20 : ov = 45
            · refine lv_lookup (tgt := 84) hx hb d_Mo_binary_23 (by decide) (off := 61) (by rw [s20]; decide) (by decide) ?_
              refine lv_iload_n hx hb d_Mo_binary_84 rfl (lv_at hl 2 rfl) ?_
              refine lv_iload_n hx hb d_Mo_binary_85 rfl (lv_at hl 3 rfl) ?_
              refine lv_isub hx hb d_Mo_binary_86 ?_
              refine W.widen (k := 0) (n := 0) (Nat.le_of_ble_eq_true rfl) (Nat.le_of_ble_eq_true rfl) ?_
              exact W.iret (v := (x9 - y9)) hx hb hr (fun t ht hW => ⟨⟨(x9 - y9), (I, T, A, U), rfl, Or.inl rfl, by dsimp only; rw [ht]; exact hP⟩, hS.F ht⟩) hS.2.2 d_Mo_binary_87
            · by_cases s21 : ov = 47
              · exact absurd s21 c1
              · by_cases s22 : ov = 60
                · refine lv_lookup (tgt := 100) hx hb d_Mo_binary_23 (by decide) (off := 77) (by rw [s22]; decide) (by decide) ?_
                  refine lv_iload_n hx hb d_Mo_binary_100 rfl (lv_at hl 2 rfl) ?_
                  refine lv_iload_n hx hb d_Mo_binary_101 rfl (lv_at hl 3 rfl) ?_
                  refine lv_icmp_ge (tgt := 109) hx hb d_Mo_binary_102 (by decide) (fun c23 => ?_) (fun c23 => ?_)
                  · refine lv_iconst (v := 0) hx hb d_Mo_binary_109 (by decide) ?_
                    refine W.widen (k := 0) (n := 0) (Nat.le_of_ble_eq_true rfl) (Nat.le_of_ble_eq_true rfl) ?_
                    exact W.iret (v := 0) hx hb hr (fun t ht hW => ⟨⟨0, (I, T, A, U), rfl, Or.inl rfl, by dsimp only; rw [ht]; exact hP⟩, hS.F ht⟩) hS.2.2 d_Mo_binary_110
                  · refine lv_iconst (v := 1) hx hb d_Mo_binary_105 (by decide) ?_
                    refine lv_goto (tgt := 110) hx hb d_Mo_binary_106 (by decide) ?_
                    refine W.widen (k := 0) (n := 0) (Nat.le_of_ble_eq_true rfl) (Nat.le_of_ble_eq_true rfl) ?_
                    exact W.iret (v := 1) hx hb hr (fun t ht hW => ⟨⟨1, (I, T, A, U), rfl, Or.inl rfl, by dsimp only; rw [ht]; exact hP⟩, hS.F ht⟩) hS.2.2 d_Mo_binary_110
                · refine lv_lookup (tgt := 111) hx hb d_Mo_binary_23 (by decide) (off := 88) (by show Op.lookupswitch.offset [(37, 73), (42, 65), (43, 57), (45, 61), (47, 69), (60, 77)] 88 (Int32.toInt ov) = 88; rw [lv_osw s17 (by decide), lv_osw s18 (by decide), lv_osw s19 (by decide), lv_osw s20 (by decide), lv_osw s21 (by decide), lv_osw s22 (by decide)]; rfl) (by decide) ?_
                  refine lv_iload_n hx hb d_Mo_binary_111 rfl (lv_at hl 2 rfl) ?_
                  refine lv_iload_n hx hb d_Mo_binary_112 rfl (lv_at hl 3 rfl) ?_
                  refine lv_icmp_ne (tgt := 120) hx hb d_Mo_binary_113 (by decide) (fun c24 => ?_) (fun c24 => ?_)
                  · refine lv_iconst (v := 0) hx hb d_Mo_binary_120 (by decide) ?_
                    refine W.widen (k := 0) (n := 0) (Nat.le_of_ble_eq_true rfl) (Nat.le_of_ble_eq_true rfl) ?_
                    exact W.iret (v := 0) hx hb hr (fun t ht hW => ⟨⟨0, (I, T, A, U), rfl, Or.inl rfl, by dsimp only; rw [ht]; exact hP⟩, hS.F ht⟩) hS.2.2 d_Mo_binary_121
                  · refine lv_iconst (v := 1) hx hb d_Mo_binary_116 (by decide) ?_
                    refine lv_goto (tgt := 121) hx hb d_Mo_binary_117 (by decide) ?_
                    refine W.widen (k := 0) (n := 0) (Nat.le_of_ble_eq_true rfl) (Nat.le_of_ble_eq_true rfl) ?_
                    exact W.iret (v := 1) hx hb hr (fun t ht hW => ⟨⟨1, (I, T, A, U), rfl, Or.inl rfl, by dsimp only; rw [ht]; exact hP⟩, hS.F ht⟩) hS.2.2 d_Mo_binary_121
    · refine lv_iload_n hx hb d_Mo_binary_12 rfl (lv_at hl 3 rfl) ?_
      refine lv_if_ne (tgt := 22) hx hb d_Mo_binary_13 (by decide) (fun c25 => ?_) (fun c25 => ?_)
      · refine lv_iload_n hx hb d_Mo_binary_22 rfl (lv_at hl 1 rfl) ?_
        by_cases s26 : ov = 37
        · refine lv_lookup (tgt := 96) hx hb d_Mo_binary_23 (by decide) (off := 73) (by rw [s26]; decide) (by decide) ?_
          refine lv_iload_n hx hb d_Mo_binary_96 rfl (lv_at hl 2 rfl) ?_
          refine lv_iload_n hx hb d_Mo_binary_97 rfl (lv_at hl 3 rfl) ?_
          refine lv_irem hx hb d_Mo_binary_98 c25 ?_
          refine lv_topi (fun d27 _ => ?_)
          refine W.widen (k := 0) (n := 0) (Nat.le_of_ble_eq_true rfl) (Nat.le_of_ble_eq_true rfl) ?_
          exact W.iret (v := d27) hx hb hr (fun t ht hW => ⟨⟨d27, (I, T, A, U), rfl, Or.inl rfl, by dsimp only; rw [ht]; exact hP⟩, hS.F ht⟩) hS.2.2 d_Mo_binary_99
        · by_cases s28 : ov = 42
          · refine lv_lookup (tgt := 88) hx hb d_Mo_binary_23 (by decide) (off := 65) (by rw [s28]; decide) (by decide) ?_
            refine lv_iload_n hx hb d_Mo_binary_88 rfl (lv_at hl 2 rfl) ?_
            refine lv_iload_n hx hb d_Mo_binary_89 rfl (lv_at hl 3 rfl) ?_
            refine lv_imul hx hb d_Mo_binary_90 ?_
            refine W.widen (k := 0) (n := 0) (Nat.le_of_ble_eq_true rfl) (Nat.le_of_ble_eq_true rfl) ?_
            exact W.iret (v := (x9 * y9)) hx hb hr (fun t ht hW => ⟨⟨(x9 * y9), (I, T, A, U), rfl, Or.inl rfl, by dsimp only; rw [ht]; exact hP⟩, hS.F ht⟩) hS.2.2 d_Mo_binary_91
          · by_cases s29 : ov = 43
            · refine lv_lookup (tgt := 80) hx hb d_Mo_binary_23 (by decide) (off := 57) (by rw [s29]; decide) (by decide) ?_
              refine lv_iload_n hx hb d_Mo_binary_80 rfl (lv_at hl 2 rfl) ?_
              refine lv_iload_n hx hb d_Mo_binary_81 rfl (lv_at hl 3 rfl) ?_
              refine lv_iadd hx hb d_Mo_binary_82 ?_
              refine W.widen (k := 0) (n := 0) (Nat.le_of_ble_eq_true rfl) (Nat.le_of_ble_eq_true rfl) ?_
              exact W.iret (v := (x9 + y9)) hx hb hr (fun t ht hW => ⟨⟨(x9 + y9), (I, T, A, U), rfl, Or.inl rfl, by dsimp only; rw [ht]; exact hP⟩, hS.F ht⟩) hS.2.2 d_Mo_binary_83
            · by_cases s30 : ov = 45
              · refine lv_lookup (tgt := 84) hx hb d_Mo_binary_23 (by decide) (off := 61) (by rw [s30]; decide) (by decide) ?_
                refine lv_iload_n hx hb d_Mo_binary_84 rfl (lv_at hl 2 rfl) ?_
                refine lv_iload_n hx hb d_Mo_binary_85 rfl (lv_at hl 3 rfl) ?_
                refine lv_isub hx hb d_Mo_binary_86 ?_
                refine W.widen (k := 0) (n := 0) (Nat.le_of_ble_eq_true rfl) (Nat.le_of_ble_eq_true rfl) ?_
                exact W.iret (v := (x9 - y9)) hx hb hr (fun t ht hW => ⟨⟨(x9 - y9), (I, T, A, U), rfl, Or.inl rfl, by dsimp only; rw [ht]; exact hP⟩, hS.F ht⟩) hS.2.2 d_Mo_binary_87
              · by_cases s31 : ov = 47
                · exact absurd s31 c1
                · by_cases s32 : ov = 60
                  · refine lv_lookup (tgt := 100) hx hb d_Mo_binary_23 (by decide) (off := 77) (by rw [s32]; decide) (by decide) ?_
                    refine lv_iload_n hx hb d_Mo_binary_100 rfl (lv_at hl 2 rfl) ?_
                    refine lv_iload_n hx hb d_Mo_binary_101 rfl (lv_at hl 3 rfl) ?_
                    refine lv_icmp_ge (tgt := 109) hx hb d_Mo_binary_102 (by decide) (fun c33 => ?_) (fun c33 => ?_)
                    · refine lv_iconst (v := 0) hx hb d_Mo_binary_109 (by decide) ?_
                      refine W.widen (k := 0) (n := 0) (Nat.le_of_ble_eq_true rfl) (Nat.le_of_ble_eq_true rfl) ?_
                      exact W.iret (v := 0) hx hb hr (fun t ht hW => ⟨⟨0, (I, T, A, U), rfl, Or.inl rfl, by dsimp only; rw [ht]; exact hP⟩, hS.F ht⟩) hS.2.2 d_Mo_binary_110
                    · refine lv_iconst (v := 1) hx hb d_Mo_binary_105 (by decide) ?_
                      refine lv_goto (tgt := 110) hx hb d_Mo_binary_106 (by decide) ?_
                      refine W.widen (k := 0) (n := 0) (Nat.le_of_ble_eq_true rfl) (Nat.le_of_ble_eq_true rfl) ?_
                      exact W.iret (v := 1) hx hb hr (fun t ht hW => ⟨⟨1, (I, T, A, U), rfl, Or.inl rfl, by dsimp only; rw [ht]; exact hP⟩, hS.F ht⟩) hS.2.2 d_Mo_binary_110
                  · refine lv_lookup (tgt := 111) hx hb d_Mo_binary_23 (by decide) (off := 88) (by show Op.lookupswitch.offset [(37, 73), (42, 65), (43, 57), (45, 61), (47, 69), (60, 77)] 88 (Int32.toInt ov) = 88; rw [lv_osw s26 (by decide), lv_osw s28 (by decide), lv_osw s29 (by decide), lv_osw s30 (by decide), lv_osw s31 (by decide), lv_osw s32 (by decide)]; rfl) (by decide) ?_
                    refine lv_iload_n hx hb d_Mo_binary_111 rfl (lv_at hl 2 rfl) ?_
                    refine lv_iload_n hx hb d_Mo_binary_112 rfl (lv_at hl 3 rfl) ?_
                    refine lv_icmp_ne (tgt := 120) hx hb d_Mo_binary_113 (by decide) (fun c34 => ?_) (fun c34 => ?_)
                    · refine lv_iconst (v := 0) hx hb d_Mo_binary_120 (by decide) ?_
                      refine W.widen (k := 0) (n := 0) (Nat.le_of_ble_eq_true rfl) (Nat.le_of_ble_eq_true rfl) ?_
                      exact W.iret (v := 0) hx hb hr (fun t ht hW => ⟨⟨0, (I, T, A, U), rfl, Or.inl rfl, by dsimp only; rw [ht]; exact hP⟩, hS.F ht⟩) hS.2.2 d_Mo_binary_121
                    · refine lv_iconst (v := 1) hx hb d_Mo_binary_116 (by decide) ?_
                      refine lv_goto (tgt := 121) hx hb d_Mo_binary_117 (by decide) ?_
                      refine W.widen (k := 0) (n := 0) (Nat.le_of_ble_eq_true rfl) (Nat.le_of_ble_eq_true rfl) ?_
                      exact W.iret (v := 1) hx hb hr (fun t ht hW => ⟨⟨1, (I, T, A, U), rfl, Or.inl rfl, by dsimp only; rw [ht]; exact hP⟩, hS.F ht⟩) hS.2.2 d_Mo_binary_121
      · refine lv_aload_n hx hb d_Mo_binary_16 rfl (lv_at hl 0 rfl) ?_
        refine lv_iconst (v := 3) hx hb d_Mo_binary_17 (by decide) ?_
        have hFc := m_free hD hS hA
        refine va_calli (va_runV (As := [.int 3]) (rest := []) ⟨hx, hb, hml, hown, hts⟩ (m_fail l dC dI ar N0 z h0 ad I T A U (3) s.heap.size ) (cwV 1 hts (x_goodV k_1120 k_1122 kp_49 k_9 k_1123) rfl rfl rfl (by decide +kernel) ⟨Nat.le_of_ble_eq_true rfl, Nat.le_of_ble_eq_true rfl⟩) ⟨x_blind, va_recv hK hP (ci := 6) (q0 := 0) rfl rfl, fun U9 hU9 hW9 => x_pre hU9 hW9 hP hD hU hZ hS hAN hN0⟩ rfl rfl hl.1 rfl (lv_room (Nat.le_of_ble_eq_true rfl)) d_Mo_binary_18 ⟨Nat.le_of_ble_eq_true rfl, Nat.le_of_ble_eq_true rfl⟩) hS (fun q _ h => hFc q h) hFc (fun r35 u t H1 locs ht hvm hw hB hz1 hk1 hS => ?_)
        obtain ⟨I37, T37, A37, U37⟩ := u
        dsimp only at hw hB
        rw [ht] at hB
        have hP : va_P (dC, dI) x_cl (m_W h0 ad ar I37 T37 A37 U37) H1 := hB
        have hD : va_D Bq (m_W h0 ad ar I37 T37 A37 U37) := m_D hD
        generalize H1 = H at hP hS ⊢
        refine W.widen (k := 0) (n := 0) (Nat.le_of_ble_eq_true rfl) (Nat.le_of_ble_eq_true rfl) ?_
        obtain ⟨h9, rfl⟩ := hw
        cases h9
        refine W.widen (k := 0) (n := 0) (Nat.le_of_ble_eq_true rfl) (Nat.le_of_ble_eq_true rfl) ?_
        exact W.iret (v := 0) hx hb hr (fun t ht hW => ⟨⟨0, ((upd I 33 3), T, A, U), rfl, Or.inr rfl, by dsimp only; rw [ht]; exact hP⟩, hS.F ht⟩) hS.2.2 d_Mo_binary_21
set_option maxHeartbeats 4000000 in
set_option maxRecDepth 100000 in
theorem m_value (l : Launch) (dC : Nat → ClassId) (dI : Nat → Nat → Nat) (ar : Nat → ClassId) (N0 : Nat) (z : Nat → Nat) (h0 : Nat) (ad : Nat → Nat) (I : Nat → Int32) (T : Int64) (A : Nat → Nat → Int32) (U : Nat → Int64) (p9 q : Nat) (sz : Nat) (hq : q < 1200) (h33 : I 33 = 0) (htk : m_TK (A 1) p9 q 1 72) (h24 : A 1 q = 24) : Met l ({ cls := "ChannelMachineModel", name := "value", desc := "(I)I" } : Jvm.MethodName) ((Jvm.Cond.code ({ cls := "ChannelMachineModel", name := "value", desc := "(I)I" } : Jvm.MethodName) prog_12_method_32_code (5 : Nat) (Option.some Jvm.ClassFile.FieldType.int)) :: x_T) ({ frames := 2, cells := 0, slots := 0, locals := 44 }) (x_Pc (dC, dI) ar N0 z (m_W h0 ad ar I T A U) sz [.ref h0, .int (Int32.ofNat p9)]) (va_Qi (fun (r : Int32) (u : (Nat → Int32) × Int64 × (Nat → Nat → Int32) × (Nat → Int64)) => m_fr [33, 44] I u.1 ∧ m_fa [25] A u.2.2.1 ∧ u.2.1 = T ∧ u.2.2.2 = U ∧ ((u.1 33 = 0 ∧ u.1 44 = Int32.ofNat (q + 1)) ∨ u.1 33 = 3)) (fun u t => va_P (dC, dI) x_cl (m_W h0 ad ar u.1 u.2.1 u.2.2.1 u.2.2.2) t.heap) (va_A (m_W h0 ad ar I T A U) sz)) 0 0 (va_A (m_W h0 ad ar I T A U) sz) := by
  refine Met.ofW (cc := prog_12_method_32_code) (maxL := 5) (ret := (some .int)) (by decide) rfl ?_
  intro p e s m args below meth c s₁ B hml hv
  obtain ⟨rfl, hsz, hN0, hP, hU, hZ, hD0⟩ := hv
  have hK := hU.1
  have hx := B.exec
  have hb := B.bytes
  have hr := B.returns
  have hts : ∀ w ∈ x_T, w.before ([.ref h0, .int (Int32.ofNat p9)] : List Value).toArray s = true := fun w h => atoms_spec (ws := (Jvm.Cond.code ({ cls := "ChannelMachineModel", name := "value", desc := "(I)I" } : Jvm.MethodName) prog_12_method_32_code (5 : Nat) (Option.some Jvm.ClassFile.FieldType.int)) :: x_T) B.pre w (List.mem_cons_of_mem _ h)
  have hown : s.vm.findClass "ChannelMachineModel" = some m.cls := findClass_of_methodNamed B.named
  have hlocks := B.notSynchronized
  subst hsz
  have hD := hD0.self (sz := s.heap.size)
  have hAN := x_AN hD0 hN0
  generalize hAe : va_A (m_W h0 ad ar I T A U) s.heap.size = Bq at hD hAN ⊢
  have hA : ∀ q : Nat, s.heap.size ≤ q → Bq q := fun q h => by rw [← hAe]; exact Or.inr h
  have hS : va_S Bq s.heap s.heap [] := va_S.rf
  have hl := lv_entry ([.ref h0, .int (Int32.ofNat p9)]) (n := 5) (Nat.le_of_ble_eq_true rfl)
  rw [lg_entry_eq]
  generalize (lg_sl ([.ref h0, .int (Int32.ofNat p9)]) ++ List.replicate (5 - (lg_sl ([.ref h0, .int (Int32.ofNat p9)])).length) Slot.unset).toArray = ls at hl ⊢
  have hl : lv_has ls 5 [(0, .ref h0), (1, .int (Int32.ofNat p9))] := hl
  refine lv_iload_n hx hb d_Mo_value_0 rfl (lv_at hl 1 rfl) ?_
  refine lv_istore_n (lv' := [(2, .int (Int32.ofNat p9)), (0, .ref h0), (1, .int (Int32.ofNat p9))]) hx hb d_Mo_value_1 rfl hl (by decide) rfl (fun ls hl => ?_)
  refine lv_iconst (v := 0) hx hb d_Mo_value_2 (by decide) ?_
  refine lv_istore_n (lv' := [(3, .int 0), (2, .int (Int32.ofNat p9)), (0, .ref h0), (1, .int (Int32.ofNat p9))]) hx hb d_Mo_value_3 rfl hl (by decide) rfl (fun ls hl => ?_)
  obtain ⟨K, bs, ns, g1, g2, g3, g4, g5, g6⟩ := htk
  have hbs : ∀ k, k ≤ K → bs k ≤ q := fun k hk => by rw [← g3]; exact m_TK.le g5 (K - k) k (by omega)
  refine x_while (fun n H locs ls => ∃ (I1 : Nat → Int32) (A1 : Nat → Nat → Int32) (k1 : Nat), n = K - k1 ∧ k1 ≤ K ∧ m_fr [33, 44] I I1 ∧ m_fa [25] A A1 ∧ (I1 33 = 0 ∨ I1 33 = 3) ∧ va_P (dC, dI) x_cl (m_W h0 ad ar I1 T A1 U) H ∧ va_D Bq (m_W h0 ad ar I1 T A1 U) ∧ va_S Bq s.heap H locs ∧ lv_has ls 5 [(0, .ref h0), (2, .int (Int32.ofNat (bs k1))), (3, .int (Int32.ofNat (ns k1)))]) (fun n ih H locs ls h9 => ?_) ⟨I, A, 0, rfl, Nat.zero_le _, m_fr.rf, m_fa.rf, Or.inl h33, hP, hD, hS, by rw [g1, g2]; exact lv_sub hl [2, 1, 0] rfl⟩
  obtain ⟨I1, A1, k1, hn9, hk1K, hfr, hfa, h33a, hP, hD, hS, hl⟩ := h9
  have e1a : A1 1 = A 1 := hfa 1 (by decide)
  have e3a : A1 3 = A 3 := hfa 3 (by decide)
  have hb1 := hbs k1 hk1K
  have hn1 := g6 k1 hk1K
  refine lv_aload_n hx hb d_Mo_value_4 rfl (lv_at hl 0 rfl) ?_
  refine m_g hx hb hts hown hK hP 1 (by decide) rfl (hts _ k_968) (v := .ref (ad 1)) rfl d_Mo_value_5 ?_
  refine lv_iload_n hx hb d_Mo_value_8 rfl (lv_at hl 1 rfl) ?_
  refine m_ld hx hb hK hP 1 rfl (by decide) (j := (Int32.ofNat (bs k1))) (x_inN (by omega) (by decide)) d_Mo_value_9 ?_
  refine W.eq (g2 := F0 m 10 ls [.int (A1 1 ((bs k1)))]) (by rw [x_nat (a := (bs k1)) (by omega)]) ?_
  refine lv_bipush (v := 24) hx hb d_Mo_value_10 (by decide) ?_
  refine lv_icmp_eq (tgt := 171) hx hb d_Mo_value_12 (by decide) (fun c1 => ?_) (fun c1 => ?_)
  · have hq1 : bs k1 = q := by
      rcases Nat.lt_or_ge k1 K with h8 | h8
      · exfalso
        rw [e1a] at c1
        rcases g5 k1 h8 with ⟨_, _, h | ⟨h, _⟩⟩ | ⟨_, h, _⟩ | ⟨_, h, _⟩ <;> (rw [c1] at h; exact absurd h (by decide))
      · rw [show k1 = K by omega]; exact g3
    refine lv_aload_n hx hb d_Mo_value_171 rfl (lv_at hl 0 rfl) ?_
    refine lv_iload_n hx hb d_Mo_value_172 rfl (lv_at hl 1 rfl) ?_
    refine lv_iconst (v := 1) hx hb d_Mo_value_173 (by decide) ?_
    refine lv_iadd hx hb d_Mo_value_174 ?_
    refine W.eq (g2 := F0 m 175 ls [.int (Int32.ofNat ((bs k1) + 1)), .ref h0]) (by rw [← x_addN (a := (bs k1)) (b := 1)] <;> rfl) ?_
    refine m_p hx hb hts hown hK hP hD hS 44 (by decide) rfl (hts _ k_1011) rfl (by decide +kernel) rfl (by decide) (x := (Int32.ofNat ((bs k1) + 1))) d_Mo_value_175 (fun H locs hP hD hS => ?_)
    refine lv_aload_n hx hb d_Mo_value_178 rfl (lv_at hl 0 rfl) ?_
    refine m_g hx hb hts hown hK hP 25 (by decide) rfl (hts _ k_992) (v := .ref (ad 25)) rfl d_Mo_value_179 ?_
    refine lv_iconst (v := 0) hx hb d_Mo_value_182 (by decide) ?_
    refine m_ld hx hb hK hP 17 rfl (by decide) (j := 0) (by unfold vp_in; decide) d_Mo_value_183 ?_
    refine W.eq (g2 := F0 m 184 ls [.int (A1 25 (0))]) (by rw [show Int32.toNatClampNeg (0 : Int32) = 0 from by decide]) ?_
    refine W.widen (k := 0) (n := 0) (Nat.le_of_ble_eq_true rfl) (Nat.le_of_ble_eq_true rfl) ?_
    exact W.iret (v := (A1 25 (0))) hx hb hr (fun t ht hW => ⟨⟨(A1 25 (0)), ((upd I1 44 (Int32.ofNat ((bs k1) + 1))), T, A1, U), rfl, ⟨hfr.up (by decide) _, hfa, rfl, rfl, h33a.imp (fun h => ⟨h, by show Int32.ofNat (bs k1 + 1) = _; rw [hq1]⟩) id⟩, by dsimp only; rw [ht]; exact hP⟩, hS.F ht⟩) hS.2.2 d_Mo_value_184
  · refine lv_aload_n hx hb d_Mo_value_15 rfl (lv_at hl 0 rfl) ?_
    refine m_g hx hb hts hown hK hP 33 (by decide) rfl (hts _ k_1000) (v := .int (I1 33)) rfl d_Mo_value_16 ?_
    refine lv_if_ne (tgt := 171) hx hb d_Mo_value_19 (by decide) (fun c2 => ?_) (fun c2 => ?_)
    · refine lv_aload_n hx hb d_Mo_value_171 rfl (lv_at hl 0 rfl) ?_
      refine lv_iload_n hx hb d_Mo_value_172 rfl (lv_at hl 1 rfl) ?_
      refine lv_iconst (v := 1) hx hb d_Mo_value_173 (by decide) ?_
      refine lv_iadd hx hb d_Mo_value_174 ?_
      refine W.eq (g2 := F0 m 175 ls [.int (Int32.ofNat ((bs k1) + 1)), .ref h0]) (by rw [← x_addN (a := (bs k1)) (b := 1)] <;> rfl) ?_
      refine m_p hx hb hts hown hK hP hD hS 44 (by decide) rfl (hts _ k_1011) rfl (by decide +kernel) rfl (by decide) (x := (Int32.ofNat ((bs k1) + 1))) d_Mo_value_175 (fun H locs hP hD hS => ?_)
      refine lv_aload_n hx hb d_Mo_value_178 rfl (lv_at hl 0 rfl) ?_
      refine m_g hx hb hts hown hK hP 25 (by decide) rfl (hts _ k_992) (v := .ref (ad 25)) rfl d_Mo_value_179 ?_
      refine lv_iconst (v := 0) hx hb d_Mo_value_182 (by decide) ?_
      refine m_ld hx hb hK hP 17 rfl (by decide) (j := 0) (by unfold vp_in; decide) d_Mo_value_183 ?_
      refine W.eq (g2 := F0 m 184 ls [.int (A1 25 (0))]) (by rw [show Int32.toNatClampNeg (0 : Int32) = 0 from by decide]) ?_
      refine W.widen (k := 0) (n := 0) (Nat.le_of_ble_eq_true rfl) (Nat.le_of_ble_eq_true rfl) ?_
      exact W.iret (v := (A1 25 (0))) hx hb hr (fun t ht hW => ⟨⟨(A1 25 (0)), ((upd I1 44 (Int32.ofNat ((bs k1) + 1))), T, A1, U), rfl, ⟨hfr.up (by decide) _, hfa, rfl, rfl, Or.inr (h33a.resolve_left c2)⟩, by dsimp only; rw [ht]; exact hP⟩, hS.F ht⟩) hS.2.2 d_Mo_value_184
    · have hkK : k1 < K := by
        rcases Nat.lt_or_ge k1 K with h8 | h8
        · exact h8
        · exact absurd (by rw [e1a, show k1 = K by omega, g3]; exact h24) c1
      have hn2 := g6 (k1 + 1) (by omega)
      have hb2 := hbs (k1 + 1) (by omega)
      rcases g5 k1 hkK with ⟨e1, e2, h20 | ⟨h21, v9, hv9, ev9⟩⟩ | ⟨e1, h23, e2, e3⟩ | ⟨e1, h22, e2, e3⟩
      · refine lv_aload_n hx hb d_Mo_value_22 rfl (lv_at hl 0 rfl) ?_
        refine m_g hx hb hts hown hK hP 1 (by decide) rfl (hts _ k_968) (v := .ref (ad 1)) rfl d_Mo_value_23 ?_
        refine lv_iload_n hx hb d_Mo_value_26 rfl (lv_at hl 1 rfl) ?_
        refine m_ld hx hb hK hP 1 rfl (by decide) (j := (Int32.ofNat (bs k1))) (x_inN (by omega) (by decide)) d_Mo_value_27 ?_
        refine W.eq (g2 := F0 m 28 ls [.int 20]) (by rw [x_nat (a := bs k1) (by omega), e1a, h20]) ?_
        refine lv_istore (lv' := [(4, .int 20), (0, .ref h0), (2, .int (Int32.ofNat (bs k1))), (3, .int (Int32.ofNat (ns k1)))]) hx hb d_Mo_value_28 hl (by decide) rfl (fun ls hl => ?_)
        refine lv_iload hx hb d_Mo_value_30 (lv_at hl 0 rfl) ?_
        refine lv_bipush (v := 20) hx hb d_Mo_value_32 (by decide) ?_
        refine lv_icmp_eq (tgt := 44) hx hb d_Mo_value_34 (by decide) (fun _ => ?_) (fun c3 => absurd (by decide) c3)
        refine lv_aload_n hx hb d_Mo_value_44 rfl (lv_at hl 1 rfl) ?_
        refine m_g hx hb hts hown hK hP 25 (by decide) rfl (hts _ k_992) (v := .ref (ad 25)) rfl d_Mo_value_45 ?_
        refine lv_iload_n hx hb d_Mo_value_48 rfl (lv_at hl 3 rfl) ?_
        refine lv_iload hx hb d_Mo_value_49 (lv_at hl 0 rfl) ?_
        refine lv_bipush (v := 20) hx hb d_Mo_value_51 (by decide) ?_
        refine lv_icmp_ne (tgt := 67) hx hb d_Mo_value_53 (by decide) (fun c4 => absurd rfl c4) (fun _ => ?_)
        refine lv_aload_n hx hb d_Mo_value_56 rfl (lv_at hl 1 rfl) ?_
        refine m_g hx hb hts hown hK hP 1 (by decide) rfl (hts _ k_968) (v := .ref (ad 1)) rfl d_Mo_value_57 ?_
        refine lv_iload_n hx hb d_Mo_value_60 rfl (lv_at hl 2 rfl) ?_
        refine lv_iconst (v := 1) hx hb d_Mo_value_61 (by decide) ?_
        refine lv_iadd hx hb d_Mo_value_62 ?_
        refine W.eq (g2 := F0 m 63 ls [.int (Int32.ofNat ((bs k1) + 1)), .ref (ad 1), .int (Int32.ofNat (ns k1)), .ref (ad 25)]) (by rw [← x_addN (a := (bs k1)) (b := 1)] <;> rfl) ?_
        refine m_ld hx hb hK hP 1 rfl (by decide) (j := (Int32.ofNat ((bs k1) + 1))) (x_inN (by omega) (by decide)) d_Mo_value_63 ?_
        refine W.eq (g2 := F0 m 64 ls [.int (A1 1 (((bs k1) + 1))), .int (Int32.ofNat (ns k1)), .ref (ad 25)]) (by rw [x_nat (a := ((bs k1) + 1)) (by omega)]) ?_
        refine lv_goto (tgt := 80) hx hb d_Mo_value_64 (by decide) ?_
        refine m_st hx hb hK hP hD hS 17 rfl (by decide) (j := (Int32.ofNat (ns k1))) (x := (A1 1 (((bs k1) + 1)))) (x_inN (by omega) (by decide)) d_Mo_value_80 (fun H locs hP hD hS => ?_)
        rw [x_nat (a := (ns k1)) (by omega)] at hP hD
        refine lv_iinc (v := (Int32.ofNat ((ns k1) + 1))) (lv' := [(3, .int (Int32.ofNat ((ns k1) + 1))), (4, .int 20), (0, .ref h0), (2, .int (Int32.ofNat (bs k1)))]) hx hb d_Mo_value_81 hl (k := 3) rfl (x_incN ((ns k1))) (by decide) rfl (fun ls hl => ?_)
        refine lv_goto (tgt := 153) hx hb d_Mo_value_84 (by decide) ?_
        refine lv_iload_n hx hb d_Mo_value_153 rfl (lv_at hl 3 rfl) ?_
        refine lv_iload hx hb d_Mo_value_154 (lv_at hl 1 rfl) ?_
        refine lv_bipush (v := 23) hx hb d_Mo_value_156 (by decide) ?_
        refine lv_icmp_ne (tgt := 165) hx hb d_Mo_value_158 (by decide) (fun _ => ?_) (fun c5 => absurd c5 (by decide))
        refine lv_iconst (v := 2) hx hb d_Mo_value_165 (by decide) ?_
        refine lv_iadd hx hb d_Mo_value_166 ?_
        refine W.eq (g2 := F0 m 167 ls [.int (Int32.ofNat ((bs k1) + 2))]) (by rw [← x_addN (a := (bs k1)) (b := 2)] <;> rfl) ?_
        refine lv_istore_n (lv' := [(2, .int (Int32.ofNat ((bs k1) + 2))), (3, .int (Int32.ofNat ((ns k1) + 1))), (4, .int 20), (0, .ref h0)]) hx hb d_Mo_value_167 rfl hl (by decide) rfl (fun ls hl => ?_)
        refine lv_goto (tgt := 4) hx hb d_Mo_value_168 (by decide) ?_
        exact ih (K - (k1 + 1)) (by omega) H locs ls ⟨I1, (m_up A1 25 (upd (A1 25) ((ns k1)) (A1 1 (((bs k1) + 1))))), k1 + 1, rfl, by omega, hfr, hfa.up (by decide) _, Or.inl c2, hP, hD, hS, by rw [e1, e2]; exact lv_sub hl [3, 0, 1] rfl⟩
      · refine lv_aload_n hx hb d_Mo_value_22 rfl (lv_at hl 0 rfl) ?_
        refine m_g hx hb hts hown hK hP 1 (by decide) rfl (hts _ k_968) (v := .ref (ad 1)) rfl d_Mo_value_23 ?_
        refine lv_iload_n hx hb d_Mo_value_26 rfl (lv_at hl 1 rfl) ?_
        refine m_ld hx hb hK hP 1 rfl (by decide) (j := (Int32.ofNat (bs k1))) (x_inN (by omega) (by decide)) d_Mo_value_27 ?_
        refine W.eq (g2 := F0 m 28 ls [.int 21]) (by rw [x_nat (a := bs k1) (by omega), e1a, h21]) ?_
        refine lv_istore (lv' := [(4, .int 21), (0, .ref h0), (2, .int (Int32.ofNat (bs k1))), (3, .int (Int32.ofNat (ns k1)))]) hx hb d_Mo_value_28 hl (by decide) rfl (fun ls hl => ?_)
        refine lv_iload hx hb d_Mo_value_30 (lv_at hl 0 rfl) ?_
        refine lv_bipush (v := 20) hx hb d_Mo_value_32 (by decide) ?_
        refine lv_icmp_eq (tgt := 44) hx hb d_Mo_value_34 (by decide) (fun c6 => absurd c6 (by decide)) (fun _ => ?_)
        refine lv_iload hx hb d_Mo_value_37 (lv_at hl 0 rfl) ?_
        refine lv_bipush (v := 21) hx hb d_Mo_value_39 (by decide) ?_
        refine lv_icmp_ne (tgt := 87) hx hb d_Mo_value_41 (by decide) (fun c7 => absurd rfl c7) (fun _ => ?_)
        refine lv_aload_n hx hb d_Mo_value_44 rfl (lv_at hl 1 rfl) ?_
        refine m_g hx hb hts hown hK hP 25 (by decide) rfl (hts _ k_992) (v := .ref (ad 25)) rfl d_Mo_value_45 ?_
        refine lv_iload_n hx hb d_Mo_value_48 rfl (lv_at hl 3 rfl) ?_
        refine lv_iload hx hb d_Mo_value_49 (lv_at hl 0 rfl) ?_
        refine lv_bipush (v := 20) hx hb d_Mo_value_51 (by decide) ?_
        refine lv_icmp_ne (tgt := 67) hx hb d_Mo_value_53 (by decide) (fun _ => ?_) (fun c8 => absurd c8 (by decide))
        refine lv_aload_n hx hb d_Mo_value_67 rfl (lv_at hl 1 rfl) ?_
        refine m_g hx hb hts hown hK hP 3 (by decide) rfl (hts _ k_970) (v := .ref (ad 3)) rfl d_Mo_value_68 ?_
        refine lv_aload_n hx hb d_Mo_value_71 rfl (lv_at hl 1 rfl) ?_
        refine m_g hx hb hts hown hK hP 1 (by decide) rfl (hts _ k_968) (v := .ref (ad 1)) rfl d_Mo_value_72 ?_
        refine lv_iload_n hx hb d_Mo_value_75 rfl (lv_at hl 2 rfl) ?_
        refine lv_iconst (v := 1) hx hb d_Mo_value_76 (by decide) ?_
        refine lv_iadd hx hb d_Mo_value_77 ?_
        refine W.eq (g2 := F0 m 78 ls [.int (Int32.ofNat ((bs k1) + 1)), .ref (ad 1), .ref (ad 3), .int (Int32.ofNat (ns k1)), .ref (ad 25)]) (by rw [← x_addN (a := (bs k1)) (b := 1)] <;> rfl) ?_
        refine m_ld hx hb hK hP 1 rfl (by decide) (j := (Int32.ofNat ((bs k1) + 1))) (x_inN (by omega) (by decide)) d_Mo_value_78 ?_
        refine W.eq (g2 := F0 m 79 ls [.int (Int32.ofNat v9), .ref (ad 3), .int (Int32.ofNat (ns k1)), .ref (ad 25)]) (by rw [x_nat (a := bs k1 + 1) (by omega), e1a, ev9]) ?_
        refine m_ld hx hb hK hP 3 rfl (by decide) (j := (Int32.ofNat v9)) (x_inN (by omega) (by decide)) d_Mo_value_79 ?_
        refine W.eq (g2 := F0 m 80 ls [.int (A1 3 (v9)), .int (Int32.ofNat (ns k1)), .ref (ad 25)]) (by rw [x_nat (a := v9) (by omega)]) ?_
        refine m_st hx hb hK hP hD hS 17 rfl (by decide) (j := (Int32.ofNat (ns k1))) (x := (A1 3 (v9))) (x_inN (by omega) (by decide)) d_Mo_value_80 (fun H locs hP hD hS => ?_)
        rw [x_nat (a := (ns k1)) (by omega)] at hP hD
        refine lv_iinc (v := (Int32.ofNat ((ns k1) + 1))) (lv' := [(3, .int (Int32.ofNat ((ns k1) + 1))), (4, .int 21), (0, .ref h0), (2, .int (Int32.ofNat (bs k1)))]) hx hb d_Mo_value_81 hl (k := 3) rfl (x_incN ((ns k1))) (by decide) rfl (fun ls hl => ?_)
        refine lv_goto (tgt := 153) hx hb d_Mo_value_84 (by decide) ?_
        refine lv_iload_n hx hb d_Mo_value_153 rfl (lv_at hl 3 rfl) ?_
        refine lv_iload hx hb d_Mo_value_154 (lv_at hl 1 rfl) ?_
        refine lv_bipush (v := 23) hx hb d_Mo_value_156 (by decide) ?_
        refine lv_icmp_ne (tgt := 165) hx hb d_Mo_value_158 (by decide) (fun _ => ?_) (fun c9 => absurd c9 (by decide))
        refine lv_iconst (v := 2) hx hb d_Mo_value_165 (by decide) ?_
        refine lv_iadd hx hb d_Mo_value_166 ?_
        refine W.eq (g2 := F0 m 167 ls [.int (Int32.ofNat ((bs k1) + 2))]) (by rw [← x_addN (a := (bs k1)) (b := 2)] <;> rfl) ?_
        refine lv_istore_n (lv' := [(2, .int (Int32.ofNat ((bs k1) + 2))), (3, .int (Int32.ofNat ((ns k1) + 1))), (4, .int 21), (0, .ref h0)]) hx hb d_Mo_value_167 rfl hl (by decide) rfl (fun ls hl => ?_)
        refine lv_goto (tgt := 4) hx hb d_Mo_value_168 (by decide) ?_
        exact ih (K - (k1 + 1)) (by omega) H locs ls ⟨I1, (m_up A1 25 (upd (A1 25) ((ns k1)) (A1 3 (v9)))), k1 + 1, rfl, by omega, hfr, hfa.up (by decide) _, Or.inl c2, hP, hD, hS, by rw [e1, e2]; exact lv_sub hl [3, 0, 1] rfl⟩
      · refine lv_aload_n hx hb d_Mo_value_22 rfl (lv_at hl 0 rfl) ?_
        refine m_g hx hb hts hown hK hP 1 (by decide) rfl (hts _ k_968) (v := .ref (ad 1)) rfl d_Mo_value_23 ?_
        refine lv_iload_n hx hb d_Mo_value_26 rfl (lv_at hl 1 rfl) ?_
        refine m_ld hx hb hK hP 1 rfl (by decide) (j := (Int32.ofNat (bs k1))) (x_inN (by omega) (by decide)) d_Mo_value_27 ?_
        refine W.eq (g2 := F0 m 28 ls [.int 23]) (by rw [x_nat (a := bs k1) (by omega), e1a, h23]) ?_
        refine lv_istore (lv' := [(4, .int 23), (0, .ref h0), (2, .int (Int32.ofNat (bs k1))), (3, .int (Int32.ofNat (ns k1)))]) hx hb d_Mo_value_28 hl (by decide) rfl (fun ls hl => ?_)
        refine lv_iload hx hb d_Mo_value_30 (lv_at hl 0 rfl) ?_
        refine lv_bipush (v := 20) hx hb d_Mo_value_32 (by decide) ?_
        refine lv_icmp_eq (tgt := 44) hx hb d_Mo_value_34 (by decide) (fun c10 => absurd c10 (by decide)) (fun _ => ?_)
        refine lv_iload hx hb d_Mo_value_37 (lv_at hl 0 rfl) ?_
        refine lv_bipush (v := 21) hx hb d_Mo_value_39 (by decide) ?_
        refine lv_icmp_ne (tgt := 87) hx hb d_Mo_value_41 (by decide) (fun _ => ?_) (fun c11 => absurd c11 (by decide))
        refine lv_iload hx hb d_Mo_value_87 (lv_at hl 0 rfl) ?_
        refine lv_bipush (v := 23) hx hb d_Mo_value_89 (by decide) ?_
        refine lv_icmp_ne (tgt := 114) hx hb d_Mo_value_91 (by decide) (fun c12 => absurd rfl c12) (fun _ => ?_)
        refine lv_aload_n hx hb d_Mo_value_94 rfl (lv_at hl 1 rfl) ?_
        refine m_g hx hb hts hown hK hP 25 (by decide) rfl (hts _ k_992) (v := .ref (ad 25)) rfl d_Mo_value_95 ?_
        refine lv_iload_n hx hb d_Mo_value_98 rfl (lv_at hl 3 rfl) ?_
        refine lv_iconst (v := 1) hx hb d_Mo_value_99 (by decide) ?_
        refine lv_isub hx hb d_Mo_value_100 ?_
        refine W.eq (g2 := F0 m 101 ls [.int (Int32.ofNat ((ns k1) - 1)), .ref (ad 25)]) (by rw [← x_subN (a := (ns k1)) (b := 1) (by omega)] <;> rfl) ?_
        refine lv_aload_n hx hb d_Mo_value_101 rfl (lv_at hl 1 rfl) ?_
        refine m_g hx hb hts hown hK hP 25 (by decide) rfl (hts _ k_992) (v := .ref (ad 25)) rfl d_Mo_value_102 ?_
        refine lv_iload_n hx hb d_Mo_value_105 rfl (lv_at hl 3 rfl) ?_
        refine lv_iconst (v := 1) hx hb d_Mo_value_106 (by decide) ?_
        refine lv_isub hx hb d_Mo_value_107 ?_
        refine W.eq (g2 := F0 m 108 ls [.int (Int32.ofNat ((ns k1) - 1)), .ref (ad 25), .int (Int32.ofNat ((ns k1) - 1)), .ref (ad 25)]) (by rw [← x_subN (a := (ns k1)) (b := 1) (by omega)] <;> rfl) ?_
        refine m_ld hx hb hK hP 17 rfl (by decide) (j := (Int32.ofNat ((ns k1) - 1))) (x_inN (by omega) (by decide)) d_Mo_value_108 ?_
        refine W.eq (g2 := F0 m 109 ls [.int (A1 25 (((ns k1) - 1))), .int (Int32.ofNat ((ns k1) - 1)), .ref (ad 25)]) (by rw [x_nat (a := ((ns k1) - 1)) (by omega)]) ?_
        refine lv_ineg hx hb d_Mo_value_109 ?_
        refine lv_topi (fun d13 _ => ?_)
        refine m_st hx hb hK hP hD hS 17 rfl (by decide) (j := (Int32.ofNat ((ns k1) - 1))) (x := d13) (x_inN (by omega) (by decide)) d_Mo_value_110 (fun H locs hP hD hS => ?_)
        rw [x_nat (a := ((ns k1) - 1)) (by omega)] at hP hD
        refine lv_goto (tgt := 153) hx hb d_Mo_value_111 (by decide) ?_
        refine lv_iload_n hx hb d_Mo_value_153 rfl (lv_at hl 2 rfl) ?_
        refine lv_iload hx hb d_Mo_value_154 (lv_at hl 0 rfl) ?_
        refine lv_bipush (v := 23) hx hb d_Mo_value_156 (by decide) ?_
        refine lv_icmp_ne (tgt := 165) hx hb d_Mo_value_158 (by decide) (fun c14 => absurd rfl c14) (fun _ => ?_)
        refine lv_iconst (v := 1) hx hb d_Mo_value_161 (by decide) ?_
        refine lv_goto (tgt := 166) hx hb d_Mo_value_162 (by decide) ?_
        refine lv_iadd hx hb d_Mo_value_166 ?_
        refine W.eq (g2 := F0 m 167 ls [.int (Int32.ofNat ((bs k1) + 1))]) (by rw [← x_addN (a := (bs k1)) (b := 1)] <;> rfl) ?_
        refine lv_istore_n (lv' := [(2, .int (Int32.ofNat ((bs k1) + 1))), (4, .int 23), (0, .ref h0), (3, .int (Int32.ofNat (ns k1)))]) hx hb d_Mo_value_167 rfl hl (by decide) rfl (fun ls hl => ?_)
        refine lv_goto (tgt := 4) hx hb d_Mo_value_168 (by decide) ?_
        exact ih (K - (k1 + 1)) (by omega) H locs ls ⟨I1, (m_up A1 25 (upd (A1 25) (((ns k1) - 1)) d13)), k1 + 1, rfl, by omega, hfr, hfa.up (by decide) _, Or.inl c2, hP, hD, hS, by rw [e1, e3]; exact lv_sub hl [2, 0, 3] rfl⟩
      · refine lv_aload_n hx hb d_Mo_value_22 rfl (lv_at hl 0 rfl) ?_
        refine m_g hx hb hts hown hK hP 1 (by decide) rfl (hts _ k_968) (v := .ref (ad 1)) rfl d_Mo_value_23 ?_
        refine lv_iload_n hx hb d_Mo_value_26 rfl (lv_at hl 1 rfl) ?_
        refine m_ld hx hb hK hP 1 rfl (by decide) (j := (Int32.ofNat (bs k1))) (x_inN (by omega) (by decide)) d_Mo_value_27 ?_
        refine W.eq (g2 := F0 m 28 ls [.int 22]) (by rw [x_nat (a := bs k1) (by omega), e1a, h22]) ?_
        refine lv_istore (lv' := [(4, .int 22), (0, .ref h0), (2, .int (Int32.ofNat (bs k1))), (3, .int (Int32.ofNat (ns k1)))]) hx hb d_Mo_value_28 hl (by decide) rfl (fun ls hl => ?_)
        refine lv_iload hx hb d_Mo_value_30 (lv_at hl 0 rfl) ?_
        refine lv_bipush (v := 20) hx hb d_Mo_value_32 (by decide) ?_
        refine lv_icmp_eq (tgt := 44) hx hb d_Mo_value_34 (by decide) (fun c15 => absurd c15 (by decide)) (fun _ => ?_)
        refine lv_iload hx hb d_Mo_value_37 (lv_at hl 0 rfl) ?_
        refine lv_bipush (v := 21) hx hb d_Mo_value_39 (by decide) ?_
        refine lv_icmp_ne (tgt := 87) hx hb d_Mo_value_41 (by decide) (fun _ => ?_) (fun c16 => absurd c16 (by decide))
        refine lv_iload hx hb d_Mo_value_87 (lv_at hl 0 rfl) ?_
        refine lv_bipush (v := 23) hx hb d_Mo_value_89 (by decide) ?_
        refine lv_icmp_ne (tgt := 114) hx hb d_Mo_value_91 (by decide) (fun _ => ?_) (fun c17 => absurd c17 (by decide))
        refine lv_aload_n hx hb d_Mo_value_114 rfl (lv_at hl 1 rfl) ?_
        refine m_g hx hb hts hown hK hP 25 (by decide) rfl (hts _ k_992) (v := .ref (ad 25)) rfl d_Mo_value_115 ?_
        refine lv_iload_n hx hb d_Mo_value_118 rfl (lv_at hl 3 rfl) ?_
        refine lv_iconst (v := 2) hx hb d_Mo_value_119 (by decide) ?_
        refine lv_isub hx hb d_Mo_value_120 ?_
        refine W.eq (g2 := F0 m 121 ls [.int (Int32.ofNat ((ns k1) - 2)), .ref (ad 25)]) (by rw [← x_subN (a := (ns k1)) (b := 2) (by omega)] <;> rfl) ?_
        refine lv_aload_n hx hb d_Mo_value_121 rfl (lv_at hl 1 rfl) ?_
        refine lv_aload_n hx hb d_Mo_value_122 rfl (lv_at hl 1 rfl) ?_
        refine m_g hx hb hts hown hK hP 1 (by decide) rfl (hts _ k_968) (v := .ref (ad 1)) rfl d_Mo_value_123 ?_
        refine lv_iload_n hx hb d_Mo_value_126 rfl (lv_at hl 2 rfl) ?_
        refine lv_iconst (v := 1) hx hb d_Mo_value_127 (by decide) ?_
        refine lv_iadd hx hb d_Mo_value_128 ?_
        refine W.eq (g2 := F0 m 129 ls [.int (Int32.ofNat ((bs k1) + 1)), .ref (ad 1), .ref h0, .int (Int32.ofNat ((ns k1) - 2)), .ref (ad 25)]) (by rw [← x_addN (a := (bs k1)) (b := 1)] <;> rfl) ?_
        refine m_ld hx hb hK hP 1 rfl (by decide) (j := (Int32.ofNat ((bs k1) + 1))) (x_inN (by omega) (by decide)) d_Mo_value_129 ?_
        refine W.eq (g2 := F0 m 130 ls [.int (A1 1 (((bs k1) + 1))), .ref h0, .int (Int32.ofNat ((ns k1) - 2)), .ref (ad 25)]) (by rw [x_nat (a := ((bs k1) + 1)) (by omega)]) ?_
        refine lv_aload_n hx hb d_Mo_value_130 rfl (lv_at hl 1 rfl) ?_
        refine m_g hx hb hts hown hK hP 25 (by decide) rfl (hts _ k_992) (v := .ref (ad 25)) rfl d_Mo_value_131 ?_
        refine lv_iload_n hx hb d_Mo_value_134 rfl (lv_at hl 3 rfl) ?_
        refine lv_iconst (v := 2) hx hb d_Mo_value_135 (by decide) ?_
        refine lv_isub hx hb d_Mo_value_136 ?_
        refine W.eq (g2 := F0 m 137 ls [.int (Int32.ofNat ((ns k1) - 2)), .ref (ad 25), .int (A1 1 (((bs k1) + 1))), .ref h0, .int (Int32.ofNat ((ns k1) - 2)), .ref (ad 25)]) (by rw [← x_subN (a := (ns k1)) (b := 2) (by omega)] <;> rfl) ?_
        refine m_ld hx hb hK hP 17 rfl (by decide) (j := (Int32.ofNat ((ns k1) - 2))) (x_inN (by omega) (by decide)) d_Mo_value_137 ?_
        refine W.eq (g2 := F0 m 138 ls [.int (A1 25 (((ns k1) - 2))), .int (A1 1 (((bs k1) + 1))), .ref h0, .int (Int32.ofNat ((ns k1) - 2)), .ref (ad 25)]) (by rw [x_nat (a := ((ns k1) - 2)) (by omega)]) ?_
        refine lv_aload_n hx hb d_Mo_value_138 rfl (lv_at hl 1 rfl) ?_
        refine m_g hx hb hts hown hK hP 25 (by decide) rfl (hts _ k_992) (v := .ref (ad 25)) rfl d_Mo_value_139 ?_
        refine lv_iload_n hx hb d_Mo_value_142 rfl (lv_at hl 3 rfl) ?_
        refine lv_iconst (v := 1) hx hb d_Mo_value_143 (by decide) ?_
        refine lv_isub hx hb d_Mo_value_144 ?_
        refine W.eq (g2 := F0 m 145 ls [.int (Int32.ofNat ((ns k1) - 1)), .ref (ad 25), .int (A1 25 (((ns k1) - 2))), .int (A1 1 (((bs k1) + 1))), .ref h0, .int (Int32.ofNat ((ns k1) - 2)), .ref (ad 25)]) (by rw [← x_subN (a := (ns k1)) (b := 1) (by omega)] <;> rfl) ?_
        refine m_ld hx hb hK hP 17 rfl (by decide) (j := (Int32.ofNat ((ns k1) - 1))) (x_inN (by omega) (by decide)) d_Mo_value_145 ?_
        refine W.eq (g2 := F0 m 146 ls [.int (A1 25 (((ns k1) - 1))), .int (A1 25 (((ns k1) - 2))), .int (A1 1 (((bs k1) + 1))), .ref h0, .int (Int32.ofNat ((ns k1) - 2)), .ref (ad 25)]) (by rw [x_nat (a := ((ns k1) - 1)) (by omega)]) ?_
        have hFc := m_free hD hS hA
        refine va_calli (va_runV (As := [.int (A1 1 (((bs k1) + 1))), .int (A1 25 (((ns k1) - 2))), .int (A1 25 (((ns k1) - 1)))]) (rest := [.int (Int32.ofNat ((ns k1) - 2)), .ref (ad 25)]) ⟨hx, hb, hml, hown, hts⟩ (m_binary l dC dI ar N0 z h0 ad I1 T A1 U ((A1 1 (((bs k1) + 1)))) ((A1 25 (((ns k1) - 2)))) ((A1 25 (((ns k1) - 1)))) H.size ) (cwV 3 hts (x_goodV k_1234 k_1236 kp_73 k_9 k_1237) rfl rfl rfl (by decide +kernel) ⟨Nat.le_of_ble_eq_true rfl, Nat.le_of_ble_eq_true rfl⟩) ⟨x_blind, va_recv hK hP (ci := 6) (q0 := 0) rfl rfl, fun U9 hU9 hW9 => x_pre hU9 hW9 hP hD hU hZ hS hAN hN0⟩ rfl rfl hl.1 rfl (lv_room (Nat.le_of_ble_eq_true rfl)) d_Mo_value_146 ⟨Nat.le_of_ble_eq_true rfl, Nat.le_of_ble_eq_true rfl⟩) hS (fun q _ h => hFc q h) hFc (fun r18 u t H1 locs ht hvm hw hB hz1 hk1 hS => ?_)
        obtain ⟨I20, T20, A20, U20⟩ := u
        dsimp only at hw hB
        rw [ht] at hB
        have hP : va_P (dC, dI) x_cl (m_W h0 ad ar I20 T20 A20 U20) H1 := hB
        have hD : va_D Bq (m_W h0 ad ar I20 T20 A20 U20) := m_D hD
        generalize H1 = H at hP hS ⊢
        refine W.widen (k := 0) (n := 0) (Nat.le_of_ble_eq_true rfl) (Nat.le_of_ble_eq_true rfl) ?_
        rcases hw with h9 | h9
        · cases h9
          refine m_st hx hb hK hP hD hS 17 rfl (by decide) (j := (Int32.ofNat ((ns k1) - 2))) (x := r18) (x_inN (by omega) (by decide)) d_Mo_value_149 (fun H locs hP hD hS => ?_)
          rw [x_nat (a := ((ns k1) - 2)) (by omega)] at hP hD
          refine lv_iinc (v := (Int32.ofNat (ns (k1 + 1)))) (lv' := [(3, .int (Int32.ofNat (ns (k1 + 1)))), (4, .int 22), (0, .ref h0), (2, .int (Int32.ofNat (bs k1)))]) hx hb d_Mo_value_150 hl (k := 3) rfl (by rw [x_decN (a := ns k1) (by omega)]; congr 1; omega) (by decide) rfl (fun ls hl => ?_)
          refine lv_iload_n hx hb d_Mo_value_153 rfl (lv_at hl 3 rfl) ?_
          refine lv_iload hx hb d_Mo_value_154 (lv_at hl 1 rfl) ?_
          refine lv_bipush (v := 23) hx hb d_Mo_value_156 (by decide) ?_
          refine lv_icmp_ne (tgt := 165) hx hb d_Mo_value_158 (by decide) (fun _ => ?_) (fun c21 => absurd c21 (by decide))
          refine lv_iconst (v := 2) hx hb d_Mo_value_165 (by decide) ?_
          refine lv_iadd hx hb d_Mo_value_166 ?_
          refine W.eq (g2 := F0 m 167 ls [.int (Int32.ofNat ((bs k1) + 2))]) (by rw [← x_addN (a := (bs k1)) (b := 2)] <;> rfl) ?_
          refine lv_istore_n (lv' := [(2, .int (Int32.ofNat ((bs k1) + 2))), (3, .int (Int32.ofNat (ns (k1 + 1)))), (4, .int 22), (0, .ref h0)]) hx hb d_Mo_value_167 rfl hl (by decide) rfl (fun ls hl => ?_)
          refine lv_goto (tgt := 4) hx hb d_Mo_value_168 (by decide) ?_
          exact ih (K - (k1 + 1)) (by omega) H locs ls ⟨I1, (m_up A1 25 (upd (A1 25) (((ns k1) - 2)) r18)), k1 + 1, rfl, by omega, hfr, hfa.up (by decide) _, Or.inl c2, hP, hD, hS, by rw [e1]; exact lv_sub hl [3, 0, 1] rfl⟩
        · cases h9
          refine m_st hx hb hK hP hD hS 17 rfl (by decide) (j := (Int32.ofNat ((ns k1) - 2))) (x := r18) (x_inN (by omega) (by decide)) d_Mo_value_149 (fun H locs hP hD hS => ?_)
          rw [x_nat (a := ((ns k1) - 2)) (by omega)] at hP hD
          refine lv_iinc (v := (Int32.ofNat (ns (k1 + 1)))) (lv' := [(3, .int (Int32.ofNat (ns (k1 + 1)))), (4, .int 22), (0, .ref h0), (2, .int (Int32.ofNat (bs k1)))]) hx hb d_Mo_value_150 hl (k := 3) rfl (by rw [x_decN (a := ns k1) (by omega)]; congr 1; omega) (by decide) rfl (fun ls hl => ?_)
          refine lv_iload_n hx hb d_Mo_value_153 rfl (lv_at hl 3 rfl) ?_
          refine lv_iload hx hb d_Mo_value_154 (lv_at hl 1 rfl) ?_
          refine lv_bipush (v := 23) hx hb d_Mo_value_156 (by decide) ?_
          refine lv_icmp_ne (tgt := 165) hx hb d_Mo_value_158 (by decide) (fun _ => ?_) (fun c22 => absurd c22 (by decide))
          refine lv_iconst (v := 2) hx hb d_Mo_value_165 (by decide) ?_
          refine lv_iadd hx hb d_Mo_value_166 ?_
          refine W.eq (g2 := F0 m 167 ls [.int (Int32.ofNat ((bs k1) + 2))]) (by rw [← x_addN (a := (bs k1)) (b := 2)] <;> rfl) ?_
          refine lv_istore_n (lv' := [(2, .int (Int32.ofNat ((bs k1) + 2))), (3, .int (Int32.ofNat (ns (k1 + 1)))), (4, .int 22), (0, .ref h0)]) hx hb d_Mo_value_167 rfl hl (by decide) rfl (fun ls hl => ?_)
          refine lv_goto (tgt := 4) hx hb d_Mo_value_168 (by decide) ?_
          exact ih (K - (k1 + 1)) (by omega) H locs ls ⟨(upd I1 33 3), (m_up A1 25 (upd (A1 25) (((ns k1) - 2)) r18)), k1 + 1, rfl, by omega, (hfr.up (by decide) _), hfa.up (by decide) _, Or.inr rfl, hP, hD, hS, by rw [e1]; exact lv_sub hl [3, 0, 1] rfl⟩
