-- ===== 92.yexpr: an EXPRESSION is read, by program =====
theorem k_504 : (Jvm.Cond.methodLink "ChannelMachine$Reader" (214 : Nat) ({ cls := "ChannelMachine$Reader", name := "joined", desc := "(II)Z" } : Jvm.MethodName)) ∈ x_T := x_at 504 (by decide +kernel) (by decide +kernel)
theorem k_506 : (Jvm.Cond.instanceMethod ({ cls := "ChannelMachine$Reader", name := "joined", desc := "(II)Z" } : Jvm.MethodName)) ∈ x_T := x_at 506 (by decide +kernel) (by decide +kernel)
theorem k_507 : (Jvm.Cond.code ({ cls := "ChannelMachine$Reader", name := "joined", desc := "(II)Z" } : Jvm.MethodName) prog_8_method_28_code (6 : Nat) (Option.some Jvm.ClassFile.FieldType.boolean)) ∈ x_T := x_at 507 (by decide +kernel) (by decide +kernel)
theorem k_508 : (Jvm.Cond.methodLink "ChannelMachine$Reader" (224 : Nat) ({ cls := "ChannelMachine$Reader", name := "unary", desc := "(I)Z" } : Jvm.MethodName)) ∈ x_T := x_at 508 (by decide +kernel) (by decide +kernel)
theorem k_510 : (Jvm.Cond.instanceMethod ({ cls := "ChannelMachine$Reader", name := "unary", desc := "(I)Z" } : Jvm.MethodName)) ∈ x_T := x_at 510 (by decide +kernel) (by decide +kernel)
theorem k_511 : (Jvm.Cond.code ({ cls := "ChannelMachine$Reader", name := "unary", desc := "(I)Z" } : Jvm.MethodName) prog_8_method_29_code (5 : Nat) (Option.some Jvm.ClassFile.FieldType.boolean)) ∈ x_T := x_at 511 (by decide +kernel) (by decide +kernel)
theorem k_512 : (Jvm.Cond.methodLink "ChannelMachine$Reader" (236 : Nat) ({ cls := "ChannelMachine$Reader", name := "isDigit", desc := "(C)Z" } : Jvm.MethodName)) ∈ x_T := x_at 512 (by decide +kernel) (by decide +kernel)
theorem k_513 : (Jvm.Cond.static ({ cls := "ChannelMachine$Reader", name := "isDigit", desc := "(C)Z" } : Jvm.MethodName)) ∈ x_T := x_at 513 (by decide +kernel) (by decide +kernel)
theorem k_514 : (Jvm.Cond.code ({ cls := "ChannelMachine$Reader", name := "isDigit", desc := "(C)Z" } : Jvm.MethodName) prog_8_method_10_code (1 : Nat) (Option.some Jvm.ClassFile.FieldType.boolean)) ∈ x_T := x_at 514 (by decide +kernel) (by decide +kernel)
theorem k_515 : (Jvm.Cond.methodLink "ChannelMachine$Reader" (232 : Nat) ({ cls := "ChannelMachine$Reader", name := "write", desc := "(I)V" } : Jvm.MethodName)) ∈ x_T := x_at 515 (by decide +kernel) (by decide +kernel)
theorem k_517 : (Jvm.Cond.instanceMethod ({ cls := "ChannelMachine$Reader", name := "write", desc := "(I)V" } : Jvm.MethodName)) ∈ x_T := x_at 517 (by decide +kernel) (by decide +kernel)
theorem k_518 : (Jvm.Cond.code ({ cls := "ChannelMachine$Reader", name := "write", desc := "(I)V" } : Jvm.MethodName) prog_8_method_26_code (2 : Nat) (Option.none : Option Jvm.ClassFile.FieldType)) ∈ x_T := x_at 518 (by decide +kernel) (by decide +kernel)
theorem k_519 : (Jvm.Cond.methodLink "ChannelMachine$Reader" (228 : Nat) ({ cls := "ChannelMachine$Reader", name := "isJoining", desc := "(CI)Z" } : Jvm.MethodName)) ∈ x_T := x_at 519 (by decide +kernel) (by decide +kernel)
theorem k_520 : (Jvm.Cond.static ({ cls := "ChannelMachine$Reader", name := "isJoining", desc := "(CI)Z" } : Jvm.MethodName)) ∈ x_T := x_at 520 (by decide +kernel) (by decide +kernel)
theorem k_521 : (Jvm.Cond.code ({ cls := "ChannelMachine$Reader", name := "isJoining", desc := "(CI)Z" } : Jvm.MethodName) prog_8_method_27_code (2 : Nat) (Option.some Jvm.ClassFile.FieldType.boolean)) ∈ x_T := x_at 521 (by decide +kernel) (by decide +kernel)
theorem kp_10 : (Jvm.Cond.selects "ChannelMachine$Reader" ({ cls := "ChannelMachine$Reader", name := "joined", desc := "(II)Z" } : Jvm.MethodName) ({ cls := "ChannelMachine$Reader", name := "joined", desc := "(II)Z" } : Jvm.MethodName)) ∈ x_T := x_sel (q := (({ cls := "ChannelMachine$Reader", name := "joined", desc := "(II)Z" } : Jvm.MethodName), 9)) 10 (by decide +kernel) (by decide +kernel)
theorem kp_11 : (Jvm.Cond.selects "ChannelMachine$Reader" ({ cls := "ChannelMachine$Reader", name := "unary", desc := "(I)Z" } : Jvm.MethodName) ({ cls := "ChannelMachine$Reader", name := "unary", desc := "(I)Z" } : Jvm.MethodName)) ∈ x_T := x_sel (q := (({ cls := "ChannelMachine$Reader", name := "unary", desc := "(I)Z" } : Jvm.MethodName), 9)) 11 (by decide +kernel) (by decide +kernel)
theorem kp_12 : (Jvm.Cond.selects "ChannelMachine$Reader" ({ cls := "ChannelMachine$Reader", name := "write", desc := "(I)V" } : Jvm.MethodName) ({ cls := "ChannelMachine$Reader", name := "write", desc := "(I)V" } : Jvm.MethodName)) ∈ x_T := x_sel (q := (({ cls := "ChannelMachine$Reader", name := "write", desc := "(I)V" } : Jvm.MethodName), 9)) 12 (by decide +kernel) (by decide +kernel)
theorem d_Reader_joined_0 : decode prog_8_method_28_code 0 = .ok (.iload_n 1, 1) := by decide +kernel
theorem d_Reader_joined_1 : decode prog_8_method_28_code 1 = .ok (.iconst 3, 1) := by decide +kernel
theorem d_Reader_joined_2 : decode prog_8_method_28_code 2 = .ok (.if_icmp .lt 9, 3) := by decide +kernel
theorem d_Reader_joined_5 : decode prog_8_method_28_code 5 = .ok (.aload_n 0, 1) := by decide +kernel
theorem d_Reader_joined_6 : decode prog_8_method_28_code 6 = .ok (.iload_n 2, 1) := by decide +kernel
theorem d_Reader_joined_7 : decode prog_8_method_28_code 7 = .ok (.invokevirtual 224, 3) := by decide +kernel
theorem d_Reader_joined_10 : decode prog_8_method_28_code 10 = .ok (.ireturn, 1) := by decide +kernel
theorem d_Reader_joined_11 : decode prog_8_method_28_code 11 = .ok (.aload_n 0, 1) := by decide +kernel
theorem d_Reader_joined_12 : decode prog_8_method_28_code 12 = .ok (.iload_n 1, 1) := by decide +kernel
theorem d_Reader_joined_13 : decode prog_8_method_28_code 13 = .ok (.iconst 1, 1) := by decide +kernel
theorem d_Reader_joined_14 : decode prog_8_method_28_code 14 = .ok (.iadd, 1) := by decide +kernel
theorem d_Reader_joined_15 : decode prog_8_method_28_code 15 = .ok (.iload_n 2, 1) := by decide +kernel
theorem d_Reader_joined_16 : decode prog_8_method_28_code 16 = .ok (.invokevirtual 214, 3) := by decide +kernel
theorem d_Reader_joined_19 : decode prog_8_method_28_code 19 = .ok (.ifCond .ne 5, 3) := by decide +kernel
theorem d_Reader_joined_22 : decode prog_8_method_28_code 22 = .ok (.iconst 0, 1) := by decide +kernel
theorem d_Reader_joined_23 : decode prog_8_method_28_code 23 = .ok (.ireturn, 1) := by decide +kernel
theorem d_Reader_joined_24 : decode prog_8_method_28_code 24 = .ok (.iload_n 1, 1) := by decide +kernel
theorem d_Reader_joined_25 : decode prog_8_method_28_code 25 = .ok (.ifCond .ne 7, 3) := by decide +kernel
theorem d_Reader_joined_28 : decode prog_8_method_28_code 28 = .ok (.iconst 1, 1) := by decide +kernel
theorem d_Reader_joined_29 : decode prog_8_method_28_code 29 = .ok (.goto 5, 3) := by decide +kernel
theorem d_Reader_joined_32 : decode prog_8_method_28_code 32 = .ok (.bipush 72, 2) := by decide +kernel
theorem d_Reader_joined_34 : decode prog_8_method_28_code 34 = .ok (.istore_n 3, 1) := by decide +kernel
theorem d_Reader_joined_35 : decode prog_8_method_28_code 35 = .ok (.iconst 0, 1) := by decide +kernel
theorem d_Reader_joined_36 : decode prog_8_method_28_code 36 = .ok (.istore 4, 2) := by decide +kernel
theorem d_Reader_joined_38 : decode prog_8_method_28_code 38 = .ok (.iload 4, 2) := by decide +kernel
theorem d_Reader_joined_40 : decode prog_8_method_28_code 40 = .ok (.iload_n 3, 1) := by decide +kernel
theorem d_Reader_joined_41 : decode prog_8_method_28_code 41 = .ok (.if_icmp .ge 56, 3) := by decide +kernel
theorem d_Reader_joined_44 : decode prog_8_method_28_code 44 = .ok (.aload_n 0, 1) := by decide +kernel
theorem d_Reader_joined_45 : decode prog_8_method_28_code 45 = .ok (.invokevirtual 52, 3) := by decide +kernel
theorem d_Reader_joined_48 : decode prog_8_method_28_code 48 = .ok (.iload_n 1, 1) := by decide +kernel
theorem d_Reader_joined_49 : decode prog_8_method_28_code 49 = .ok (.invokestatic 228, 3) := by decide +kernel
theorem d_Reader_joined_52 : decode prog_8_method_28_code 52 = .ok (.ifCond .eq 45, 3) := by decide +kernel
theorem d_Reader_joined_55 : decode prog_8_method_28_code 55 = .ok (.aload_n 0, 1) := by decide +kernel
theorem d_Reader_joined_56 : decode prog_8_method_28_code 56 = .ok (.invokevirtual 52, 3) := by decide +kernel
theorem d_Reader_joined_59 : decode prog_8_method_28_code 59 = .ok (.istore 5, 2) := by decide +kernel
theorem d_Reader_joined_61 : decode prog_8_method_28_code 61 = .ok (.aload_n 0, 1) := by decide +kernel
theorem d_Reader_joined_62 : decode prog_8_method_28_code 62 = .ok (.dup, 1) := by decide +kernel
theorem d_Reader_joined_63 : decode prog_8_method_28_code 63 = .ok (.getfield 29, 3) := by decide +kernel
theorem d_Reader_joined_66 : decode prog_8_method_28_code 66 = .ok (.iconst 1, 1) := by decide +kernel
theorem d_Reader_joined_67 : decode prog_8_method_28_code 67 = .ok (.iadd, 1) := by decide +kernel
theorem d_Reader_joined_68 : decode prog_8_method_28_code 68 = .ok (.putfield 29, 3) := by decide +kernel
theorem d_Reader_joined_71 : decode prog_8_method_28_code 71 = .ok (.aload_n 0, 1) := by decide +kernel
theorem d_Reader_joined_72 : decode prog_8_method_28_code 72 = .ok (.iload_n 1, 1) := by decide +kernel
theorem d_Reader_joined_73 : decode prog_8_method_28_code 73 = .ok (.iconst 1, 1) := by decide +kernel
theorem d_Reader_joined_74 : decode prog_8_method_28_code 74 = .ok (.iadd, 1) := by decide +kernel
theorem d_Reader_joined_75 : decode prog_8_method_28_code 75 = .ok (.iload_n 2, 1) := by decide +kernel
theorem d_Reader_joined_76 : decode prog_8_method_28_code 76 = .ok (.invokevirtual 214, 3) := by decide +kernel
theorem d_Reader_joined_79 : decode prog_8_method_28_code 79 = .ok (.ifCond .ne 5, 3) := by decide +kernel
theorem d_Reader_joined_82 : decode prog_8_method_28_code 82 = .ok (.iconst 0, 1) := by decide +kernel
theorem d_Reader_joined_83 : decode prog_8_method_28_code 83 = .ok (.ireturn, 1) := by decide +kernel
theorem d_Reader_joined_84 : decode prog_8_method_28_code 84 = .ok (.aload_n 0, 1) := by decide +kernel
theorem d_Reader_joined_85 : decode prog_8_method_28_code 85 = .ok (.iload 5, 2) := by decide +kernel
theorem d_Reader_joined_87 : decode prog_8_method_28_code 87 = .ok (.ineg, 1) := by decide +kernel
theorem d_Reader_joined_88 : decode prog_8_method_28_code 88 = .ok (.invokevirtual 232, 3) := by decide +kernel
theorem d_Reader_joined_91 : decode prog_8_method_28_code 91 = .ok (.iinc 4 1, 3) := by decide +kernel
theorem d_Reader_joined_94 : decode prog_8_method_28_code 94 = .ok (.goto (-56), 3) := by decide +kernel
theorem d_Reader_joined_97 : decode prog_8_method_28_code 97 = .ok (.iconst 1, 1) := by decide +kernel
theorem d_Reader_joined_98 : decode prog_8_method_28_code 98 = .ok (.ireturn, 1) := by decide +kernel
theorem d_Reader_unary_0 : decode prog_8_method_29_code 0 = .ok (.aload_n 0, 1) := by decide +kernel
theorem d_Reader_unary_1 : decode prog_8_method_29_code 1 = .ok (.invokevirtual 52, 3) := by decide +kernel
theorem d_Reader_unary_4 : decode prog_8_method_29_code 4 = .ok (.istore_n 2, 1) := by decide +kernel
theorem d_Reader_unary_5 : decode prog_8_method_29_code 5 = .ok (.iconst 0, 1) := by decide +kernel
theorem d_Reader_unary_6 : decode prog_8_method_29_code 6 = .ok (.istore_n 3, 1) := by decide +kernel
theorem d_Reader_unary_7 : decode prog_8_method_29_code 7 = .ok (.iconst 0, 1) := by decide +kernel
theorem d_Reader_unary_8 : decode prog_8_method_29_code 8 = .ok (.istore 4, 2) := by decide +kernel
theorem d_Reader_unary_10 : decode prog_8_method_29_code 10 = .ok (.iload 4, 2) := by decide +kernel
theorem d_Reader_unary_12 : decode prog_8_method_29_code 12 = .ok (.iconst 3, 1) := by decide +kernel
theorem d_Reader_unary_13 : decode prog_8_method_29_code 13 = .ok (.if_icmp .ge 42, 3) := by decide +kernel
theorem d_Reader_unary_16 : decode prog_8_method_29_code 16 = .ok (.aload_n 0, 1) := by decide +kernel
theorem d_Reader_unary_17 : decode prog_8_method_29_code 17 = .ok (.invokevirtual 52, 3) := by decide +kernel
theorem d_Reader_unary_20 : decode prog_8_method_29_code 20 = .ok (.invokestatic 236, 3) := by decide +kernel
theorem d_Reader_unary_23 : decode prog_8_method_29_code 23 = .ok (.ifCond .eq 32, 3) := by decide +kernel
theorem d_Reader_unary_26 : decode prog_8_method_29_code 26 = .ok (.iload_n 3, 1) := by decide +kernel
theorem d_Reader_unary_27 : decode prog_8_method_29_code 27 = .ok (.bipush 10, 2) := by decide +kernel
theorem d_Reader_unary_29 : decode prog_8_method_29_code 29 = .ok (.imul, 1) := by decide +kernel
theorem d_Reader_unary_30 : decode prog_8_method_29_code 30 = .ok (.aload_n 0, 1) := by decide +kernel
theorem d_Reader_unary_31 : decode prog_8_method_29_code 31 = .ok (.invokevirtual 52, 3) := by decide +kernel
theorem d_Reader_unary_34 : decode prog_8_method_29_code 34 = .ok (.iadd, 1) := by decide +kernel
theorem d_Reader_unary_35 : decode prog_8_method_29_code 35 = .ok (.bipush 48, 2) := by decide +kernel
theorem d_Reader_unary_37 : decode prog_8_method_29_code 37 = .ok (.isub, 1) := by decide +kernel
theorem d_Reader_unary_38 : decode prog_8_method_29_code 38 = .ok (.istore_n 3, 1) := by decide +kernel
theorem d_Reader_unary_39 : decode prog_8_method_29_code 39 = .ok (.aload_n 0, 1) := by decide +kernel
theorem d_Reader_unary_40 : decode prog_8_method_29_code 40 = .ok (.dup, 1) := by decide +kernel
theorem d_Reader_unary_41 : decode prog_8_method_29_code 41 = .ok (.getfield 29, 3) := by decide +kernel
theorem d_Reader_unary_44 : decode prog_8_method_29_code 44 = .ok (.iconst 1, 1) := by decide +kernel
theorem d_Reader_unary_45 : decode prog_8_method_29_code 45 = .ok (.iadd, 1) := by decide +kernel
theorem d_Reader_unary_46 : decode prog_8_method_29_code 46 = .ok (.putfield 29, 3) := by decide +kernel
theorem d_Reader_unary_49 : decode prog_8_method_29_code 49 = .ok (.iinc 4 1, 3) := by decide +kernel
theorem d_Reader_unary_52 : decode prog_8_method_29_code 52 = .ok (.goto (-42), 3) := by decide +kernel
theorem d_Reader_unary_55 : decode prog_8_method_29_code 55 = .ok (.iload_n 2, 1) := by decide +kernel
theorem d_Reader_unary_56 : decode prog_8_method_29_code 56 = .ok (.invokestatic 236, 3) := by decide +kernel
theorem d_Reader_unary_59 : decode prog_8_method_29_code 59 = .ok (.ifCond .eq 10, 3) := by decide +kernel
theorem d_Reader_unary_62 : decode prog_8_method_29_code 62 = .ok (.aload_n 0, 1) := by decide +kernel
theorem d_Reader_unary_63 : decode prog_8_method_29_code 63 = .ok (.iload_n 3, 1) := by decide +kernel
theorem d_Reader_unary_64 : decode prog_8_method_29_code 64 = .ok (.invokevirtual 232, 3) := by decide +kernel
theorem d_Reader_unary_67 : decode prog_8_method_29_code 67 = .ok (.iconst 1, 1) := by decide +kernel
theorem d_Reader_unary_68 : decode prog_8_method_29_code 68 = .ok (.ireturn, 1) := by decide +kernel
theorem d_Reader_unary_69 : decode prog_8_method_29_code 69 = .ok (.iload_n 2, 1) := by decide +kernel
theorem d_Reader_unary_70 : decode prog_8_method_29_code 70 = .ok (.invokestatic 60, 3) := by decide +kernel
theorem d_Reader_unary_73 : decode prog_8_method_29_code 73 = .ok (.ifCond .eq 27, 3) := by decide +kernel
theorem d_Reader_unary_76 : decode prog_8_method_29_code 76 = .ok (.aload_n 0, 1) := by decide +kernel
theorem d_Reader_unary_77 : decode prog_8_method_29_code 77 = .ok (.sipush 1000, 3) := by decide +kernel
theorem d_Reader_unary_80 : decode prog_8_method_29_code 80 = .ok (.iload_n 2, 1) := by decide +kernel
theorem d_Reader_unary_81 : decode prog_8_method_29_code 81 = .ok (.iadd, 1) := by decide +kernel
theorem d_Reader_unary_82 : decode prog_8_method_29_code 82 = .ok (.bipush 97, 2) := by decide +kernel
theorem d_Reader_unary_84 : decode prog_8_method_29_code 84 = .ok (.isub, 1) := by decide +kernel
theorem d_Reader_unary_85 : decode prog_8_method_29_code 85 = .ok (.invokevirtual 232, 3) := by decide +kernel
theorem d_Reader_unary_88 : decode prog_8_method_29_code 88 = .ok (.aload_n 0, 1) := by decide +kernel
theorem d_Reader_unary_89 : decode prog_8_method_29_code 89 = .ok (.dup, 1) := by decide +kernel
theorem d_Reader_unary_90 : decode prog_8_method_29_code 90 = .ok (.getfield 29, 3) := by decide +kernel
theorem d_Reader_unary_93 : decode prog_8_method_29_code 93 = .ok (.iconst 1, 1) := by decide +kernel
theorem d_Reader_unary_94 : decode prog_8_method_29_code 94 = .ok (.iadd, 1) := by decide +kernel
theorem d_Reader_unary_95 : decode prog_8_method_29_code 95 = .ok (.putfield 29, 3) := by decide +kernel
theorem d_Reader_unary_98 : decode prog_8_method_29_code 98 = .ok (.iconst 1, 1) := by decide +kernel
theorem d_Reader_unary_99 : decode prog_8_method_29_code 99 = .ok (.ireturn, 1) := by decide +kernel
theorem d_Reader_unary_100 : decode prog_8_method_29_code 100 = .ok (.iload_n 1, 1) := by decide +kernel
theorem d_Reader_unary_101 : decode prog_8_method_29_code 101 = .ok (.iconst 5, 1) := by decide +kernel
theorem d_Reader_unary_102 : decode prog_8_method_29_code 102 = .ok (.if_icmp .ge 15, 3) := by decide +kernel
theorem d_Reader_unary_105 : decode prog_8_method_29_code 105 = .ok (.iload_n 2, 1) := by decide +kernel
theorem d_Reader_unary_106 : decode prog_8_method_29_code 106 = .ok (.bipush 45, 2) := by decide +kernel
theorem d_Reader_unary_108 : decode prog_8_method_29_code 108 = .ok (.if_icmp .eq 14, 3) := by decide +kernel
theorem d_Reader_unary_111 : decode prog_8_method_29_code 111 = .ok (.iload_n 2, 1) := by decide +kernel
theorem d_Reader_unary_112 : decode prog_8_method_29_code 112 = .ok (.bipush 40, 2) := by decide +kernel
theorem d_Reader_unary_114 : decode prog_8_method_29_code 114 = .ok (.if_icmp .eq 8, 3) := by decide +kernel
theorem d_Reader_unary_117 : decode prog_8_method_29_code 117 = .ok (.aload_n 0, 1) := by decide +kernel
theorem d_Reader_unary_118 : decode prog_8_method_29_code 118 = .ok (.invokevirtual 42, 3) := by decide +kernel
theorem d_Reader_unary_121 : decode prog_8_method_29_code 121 = .ok (.ireturn, 1) := by decide +kernel
theorem d_Reader_unary_122 : decode prog_8_method_29_code 122 = .ok (.aload_n 0, 1) := by decide +kernel
theorem d_Reader_unary_123 : decode prog_8_method_29_code 123 = .ok (.dup, 1) := by decide +kernel
theorem d_Reader_unary_124 : decode prog_8_method_29_code 124 = .ok (.getfield 29, 3) := by decide +kernel
theorem d_Reader_unary_127 : decode prog_8_method_29_code 127 = .ok (.iconst 1, 1) := by decide +kernel
theorem d_Reader_unary_128 : decode prog_8_method_29_code 128 = .ok (.iadd, 1) := by decide +kernel
theorem d_Reader_unary_129 : decode prog_8_method_29_code 129 = .ok (.putfield 29, 3) := by decide +kernel
theorem d_Reader_unary_132 : decode prog_8_method_29_code 132 = .ok (.iload_n 2, 1) := by decide +kernel
theorem d_Reader_unary_133 : decode prog_8_method_29_code 133 = .ok (.bipush 40, 2) := by decide +kernel
theorem d_Reader_unary_135 : decode prog_8_method_29_code 135 = .ok (.if_icmp .ne 29, 3) := by decide +kernel
theorem d_Reader_unary_138 : decode prog_8_method_29_code 138 = .ok (.aload_n 0, 1) := by decide +kernel
theorem d_Reader_unary_139 : decode prog_8_method_29_code 139 = .ok (.iconst 0, 1) := by decide +kernel
theorem d_Reader_unary_140 : decode prog_8_method_29_code 140 = .ok (.iload_n 1, 1) := by decide +kernel
theorem d_Reader_unary_141 : decode prog_8_method_29_code 141 = .ok (.iconst 1, 1) := by decide +kernel
theorem d_Reader_unary_142 : decode prog_8_method_29_code 142 = .ok (.iadd, 1) := by decide +kernel
theorem d_Reader_unary_143 : decode prog_8_method_29_code 143 = .ok (.invokevirtual 214, 3) := by decide +kernel
theorem d_Reader_unary_146 : decode prog_8_method_29_code 146 = .ok (.ifCond .eq 16, 3) := by decide +kernel
theorem d_Reader_unary_149 : decode prog_8_method_29_code 149 = .ok (.aload_n 0, 1) := by decide +kernel
theorem d_Reader_unary_150 : decode prog_8_method_29_code 150 = .ok (.bipush 41, 2) := by decide +kernel
theorem d_Reader_unary_152 : decode prog_8_method_29_code 152 = .ok (.invokevirtual 56, 3) := by decide +kernel
theorem d_Reader_unary_155 : decode prog_8_method_29_code 155 = .ok (.ifCond .eq 7, 3) := by decide +kernel
theorem d_Reader_unary_158 : decode prog_8_method_29_code 158 = .ok (.iconst 1, 1) := by decide +kernel
theorem d_Reader_unary_159 : decode prog_8_method_29_code 159 = .ok (.goto 4, 3) := by decide +kernel
theorem d_Reader_unary_162 : decode prog_8_method_29_code 162 = .ok (.iconst 0, 1) := by decide +kernel
theorem d_Reader_unary_163 : decode prog_8_method_29_code 163 = .ok (.ireturn, 1) := by decide +kernel
theorem d_Reader_unary_164 : decode prog_8_method_29_code 164 = .ok (.aload_n 0, 1) := by decide +kernel
theorem d_Reader_unary_165 : decode prog_8_method_29_code 165 = .ok (.iload_n 1, 1) := by decide +kernel
theorem d_Reader_unary_166 : decode prog_8_method_29_code 166 = .ok (.iconst 1, 1) := by decide +kernel
theorem d_Reader_unary_167 : decode prog_8_method_29_code 167 = .ok (.iadd, 1) := by decide +kernel
theorem d_Reader_unary_168 : decode prog_8_method_29_code 168 = .ok (.invokevirtual 224, 3) := by decide +kernel
theorem d_Reader_unary_171 : decode prog_8_method_29_code 171 = .ok (.ifCond .ne 5, 3) := by decide +kernel
theorem d_Reader_unary_174 : decode prog_8_method_29_code 174 = .ok (.iconst 0, 1) := by decide +kernel
theorem d_Reader_unary_175 : decode prog_8_method_29_code 175 = .ok (.ireturn, 1) := by decide +kernel
theorem d_Reader_unary_176 : decode prog_8_method_29_code 176 = .ok (.aload_n 0, 1) := by decide +kernel
theorem d_Reader_unary_177 : decode prog_8_method_29_code 177 = .ok (.iconst (-1), 1) := by decide +kernel
theorem d_Reader_unary_178 : decode prog_8_method_29_code 178 = .ok (.invokevirtual 232, 3) := by decide +kernel
theorem d_Reader_unary_181 : decode prog_8_method_29_code 181 = .ok (.iconst 1, 1) := by decide +kernel
theorem d_Reader_unary_182 : decode prog_8_method_29_code 182 = .ok (.ireturn, 1) := by decide +kernel
theorem d_Reader_expression_0 : decode prog_8_method_24_code 0 = .ok (.aload_n 0, 1) := by decide +kernel
theorem d_Reader_expression_1 : decode prog_8_method_24_code 1 = .ok (.iconst 0, 1) := by decide +kernel
theorem d_Reader_expression_2 : decode prog_8_method_24_code 2 = .ok (.putfield 23, 3) := by decide +kernel
theorem d_Reader_expression_5 : decode prog_8_method_24_code 5 = .ok (.aload_n 0, 1) := by decide +kernel
theorem d_Reader_expression_6 : decode prog_8_method_24_code 6 = .ok (.iconst 0, 1) := by decide +kernel
theorem d_Reader_expression_7 : decode prog_8_method_24_code 7 = .ok (.iconst 1, 1) := by decide +kernel
theorem d_Reader_expression_8 : decode prog_8_method_24_code 8 = .ok (.invokevirtual 214, 3) := by decide +kernel
theorem d_Reader_expression_11 : decode prog_8_method_24_code 11 = .ok (.ireturn, 1) := by decide +kernel
set_option maxHeartbeats 4000000 in
set_option maxRecDepth 100000 in
theorem st_J (nn : Nat) (ihJ : ∀ (l : Launch) (dC : Nat → ClassId) (dI : Nat → Nat → Nat) (ar : Nat → ClassId) (N0 : Nat) (z : Nat → Nat) (ad : Nat → Nat) (I : Nat → Int32) (T : Int64) (A : Nat → Nat → Int32) (O : Nat → Option Nat) (pl : va_W) (ln cl lm aa : Nat) (lv dp : Nat) (sz w0 : Nat) (hmi : y_RD I A (ln, cl, lm, aa)) (hcl : cl ≤ 72) (hlv : lv ≤ 3) (hdp : 1 ≤ dp ∧ dp ≤ 5) (hrk : (5 - dp) * 5 + (4 - lv) < nn) , Met l ({ cls := "ChannelMachine$Reader", name := "joined", desc := "(II)Z" } : Jvm.MethodName) ((Jvm.Cond.code ({ cls := "ChannelMachine$Reader", name := "joined", desc := "(II)Z" } : Jvm.MethodName) prog_8_method_28_code (6 : Nat) (Option.some Jvm.ClassFile.FieldType.boolean)) :: x_T) ({ frames := nn + 5, cells := 0, slots := 0, locals := 40 * nn + 120 }) (y_Pc (dC, dI) ar N0 z (y_W ad ar I T A O pl) sz w0 [.ref (ad 1), .int (Int32.ofNat lv), .int (Int32.ofNat dp)]) (va_Qi (fun (r : Int32) (u : (Nat → Int32) × Int64 × (Nat → Nat → Int32) × (Nat → Option Nat) × va_W × (Nat × Nat × Nat × Nat)) => y_RD u.1 u.2.2.1 u.2.2.2.2.2 ∧ u.2.1 = T ∧ u.2.2.2.1 = O ∧ u.2.2.2.2.1 = pl ∧ m_fr [2, 4, 5] I u.1 ∧ u.2.2.2.2.2.1 = ln ∧ u.2.2.2.2.2.2.2.1 = lm ∧ aa ≤ u.2.2.2.2.2.2.2.2 ∧ (u.2.2.2.2.2.2.1 ≤ 72 ∨ 72 < cl) ∧ (r = 0 ∨ r = 1)) (fun u t => va_P (dC, dI) y_cl (y_W ad ar u.1 u.2.1 u.2.2.1 u.2.2.2.1 u.2.2.2.2.1) t.heap ∧ va_D (va_A (y_W ad ar I T A O pl) sz) (y_W ad ar u.1 u.2.1 u.2.2.1 u.2.2.2.1 u.2.2.2.2.1) ∧ True) (va_A (y_W ad ar I T A O pl) sz)) (0) (0) (va_A (y_W ad ar I T A O pl) sz)) (ihU : ∀ (l : Launch) (dC : Nat → ClassId) (dI : Nat → Nat → Nat) (ar : Nat → ClassId) (N0 : Nat) (z : Nat → Nat) (ad : Nat → Nat) (I : Nat → Int32) (T : Int64) (A : Nat → Nat → Int32) (O : Nat → Option Nat) (pl : va_W) (ln cl lm aa : Nat) (dp : Nat) (sz w0 : Nat) (hmi : y_RD I A (ln, cl, lm, aa)) (hcl : cl ≤ 72) (hdp : 1 ≤ dp ∧ dp ≤ 5) (hrk : (5 - dp) * 5 < nn) , Met l ({ cls := "ChannelMachine$Reader", name := "unary", desc := "(I)Z" } : Jvm.MethodName) ((Jvm.Cond.code ({ cls := "ChannelMachine$Reader", name := "unary", desc := "(I)Z" } : Jvm.MethodName) prog_8_method_29_code (5 : Nat) (Option.some Jvm.ClassFile.FieldType.boolean)) :: x_T) ({ frames := nn + 5, cells := 0, slots := 0, locals := 40 * nn + 120 }) (y_Pc (dC, dI) ar N0 z (y_W ad ar I T A O pl) sz w0 [.ref (ad 1), .int (Int32.ofNat dp)]) (va_Qi (fun (r : Int32) (u : (Nat → Int32) × Int64 × (Nat → Nat → Int32) × (Nat → Option Nat) × va_W × (Nat × Nat × Nat × Nat)) => y_RD u.1 u.2.2.1 u.2.2.2.2.2 ∧ u.2.1 = T ∧ u.2.2.2.1 = O ∧ u.2.2.2.2.1 = pl ∧ m_fr [2, 4, 5] I u.1 ∧ u.2.2.2.2.2.1 = ln ∧ u.2.2.2.2.2.2.2.1 = lm ∧ aa ≤ u.2.2.2.2.2.2.2.2 ∧ (u.2.2.2.2.2.2.1 ≤ 72 ∨ 72 < cl) ∧ (r = 0 ∨ r = 1)) (fun u t => va_P (dC, dI) y_cl (y_W ad ar u.1 u.2.1 u.2.2.1 u.2.2.2.1 u.2.2.2.2.1) t.heap ∧ va_D (va_A (y_W ad ar I T A O pl) sz) (y_W ad ar u.1 u.2.1 u.2.2.1 u.2.2.2.1 u.2.2.2.2.1) ∧ True) (va_A (y_W ad ar I T A O pl) sz)) (0) (0) (va_A (y_W ad ar I T A O pl) sz)) (l : Launch) (dC : Nat → ClassId) (dI : Nat → Nat → Nat) (ar : Nat → ClassId) (N0 : Nat) (z : Nat → Nat) (ad : Nat → Nat) (I : Nat → Int32) (T : Int64) (A : Nat → Nat → Int32) (O : Nat → Option Nat) (pl : va_W) (ln cl lm aa : Nat) (lv dp : Nat) (sz w0 : Nat) (hmi : y_RD I A (ln, cl, lm, aa)) (hcl : cl ≤ 72) (hlv : lv ≤ 3) (hdp : 1 ≤ dp ∧ dp ≤ 5) (hrk : (5 - dp) * 5 + (4 - lv) < nn + 1) : Met l ({ cls := "ChannelMachine$Reader", name := "joined", desc := "(II)Z" } : Jvm.MethodName) ((Jvm.Cond.code ({ cls := "ChannelMachine$Reader", name := "joined", desc := "(II)Z" } : Jvm.MethodName) prog_8_method_28_code (6 : Nat) (Option.some Jvm.ClassFile.FieldType.boolean)) :: x_T) ({ frames := nn + 1 + 5, cells := 0, slots := 0, locals := 40 * (nn + 1) + 120 }) (y_Pc (dC, dI) ar N0 z (y_W ad ar I T A O pl) sz w0 [.ref (ad 1), .int (Int32.ofNat lv), .int (Int32.ofNat dp)]) (va_Qi (fun (r : Int32) (u : (Nat → Int32) × Int64 × (Nat → Nat → Int32) × (Nat → Option Nat) × va_W × (Nat × Nat × Nat × Nat)) => y_RD u.1 u.2.2.1 u.2.2.2.2.2 ∧ u.2.1 = T ∧ u.2.2.2.1 = O ∧ u.2.2.2.2.1 = pl ∧ m_fr [2, 4, 5] I u.1 ∧ u.2.2.2.2.2.1 = ln ∧ u.2.2.2.2.2.2.2.1 = lm ∧ aa ≤ u.2.2.2.2.2.2.2.2 ∧ (u.2.2.2.2.2.2.1 ≤ 72 ∨ 72 < cl) ∧ (r = 0 ∨ r = 1)) (fun u t => va_P (dC, dI) y_cl (y_W ad ar u.1 u.2.1 u.2.2.1 u.2.2.2.1 u.2.2.2.2.1) t.heap ∧ va_D (va_A (y_W ad ar I T A O pl) sz) (y_W ad ar u.1 u.2.1 u.2.2.1 u.2.2.2.1 u.2.2.2.2.1) ∧ True) (va_A (y_W ad ar I T A O pl) sz)) (0) (0) (va_A (y_W ad ar I T A O pl) sz) := by
  refine Met.ofW (cc := prog_8_method_28_code) (maxL := 6) (ret := (some .boolean)) (by decide) rfl ?_
  intro p e s m args below meth c s₁ B hml hv
  obtain ⟨rfl, hsz, hN0, hP, hU, hZ, hD0, hw0⟩ := hv
  have hK := hU.2.1
  have hx := B.exec
  have hb := B.bytes
  have hr := B.returns
  have hts : ∀ w ∈ x_T, w.before ([.ref (ad 1), .int (Int32.ofNat lv), .int (Int32.ofNat dp)] : List Value).toArray s = true := fun w h => atoms_spec (ws := (Jvm.Cond.code ({ cls := "ChannelMachine$Reader", name := "joined", desc := "(II)Z" } : Jvm.MethodName) prog_8_method_28_code (6 : Nat) (Option.some Jvm.ClassFile.FieldType.boolean)) :: x_T) B.pre w (List.mem_cons_of_mem _ h)
  have hown : s.vm.findClass "ChannelMachine$Reader" = some m.cls := findClass_of_methodNamed B.named
  have hlocks := B.notSynchronized
  subst hsz
  subst hw0
  have hD := hD0.self (sz := s.heap.size)
  have hAN := x_AN hD0 hN0
  generalize hAe : va_A (y_W ad ar I T A O pl) s.heap.size = Bq at hD hAN ⊢
  have hA : ∀ q : Nat, s.heap.size ≤ q → Bq q := fun q h => by rw [← hAe]; exact Or.inr h
  have hS : va_S Bq s.heap s.heap [] := va_S.rf
  have hl := lv_entry ([.ref (ad 1), .int (Int32.ofNat lv), .int (Int32.ofNat dp)]) (n := 6) (Nat.le_of_ble_eq_true rfl)
  rw [lg_entry_eq]
  generalize (lg_sl ([.ref (ad 1), .int (Int32.ofNat lv), .int (Int32.ofNat dp)]) ++ List.replicate (6 - (lg_sl ([.ref (ad 1), .int (Int32.ofNat lv), .int (Int32.ofNat dp)])).length) Slot.unset).toArray = ls at hl ⊢
  have hl : lv_has ls 6 [(0, .ref (ad 1)), (1, .int (Int32.ofNat lv)), (2, .int (Int32.ofNat dp))] := hl
  have hbn := hmi.2.1
  dsimp only at hbn
  refine lv_iload_n hx hb d_Reader_joined_0 rfl (lv_at hl 1 rfl) ?_
  refine lv_iconst (v := 3) hx hb d_Reader_joined_1 (by decide) ?_
  refine lv_icmp_lt (tgt := 11) hx hb d_Reader_joined_2 (by decide) (fun c_1 => ?_) (fun c_1 => ?_)
  · have c_1 : lv < 3 := (x_ltN (a := lv) (b := 3) (by omega) (by omega)).mp c_1
    refine lv_aload_n hx hb d_Reader_joined_11 rfl (lv_at hl 0 rfl) ?_
    refine lv_iload_n hx hb d_Reader_joined_12 rfl (lv_at hl 1 rfl) ?_
    refine lv_iconst (v := 1) hx hb d_Reader_joined_13 (by decide) ?_
    refine lv_iadd hx hb d_Reader_joined_14 ?_
    refine W.eq (g2 := F0 m 15 ls [.int (Int32.ofNat (lv + 1)), .ref (ad 1)]) (by rw [← x_addN (a := lv) (b := 1)] <;> rfl) ?_
    refine lv_iload_n hx hb d_Reader_joined_15 rfl (lv_at hl 2 rfl) ?_
    have hFc := y_free hD hS hA
    refine va_calli (va_runV (As := [.int (Int32.ofNat (lv + 1)), .int (Int32.ofNat dp)]) (rest := []) ⟨hx, hb, hml, hown, hts⟩ (ihJ l dC dI ar N0 z ad I T A O pl ln cl lm aa ((lv + 1)) dp s.heap.size (y_hs s.heap) hmi (by omega) (by omega) (by omega) (by omega)) (cwV 2 hts (x_goodV k_504 k_506 kp_10 k_2 k_507) rfl rfl rfl (by decide +kernel) ⟨(by show nn + 5 + 1 ≤ nn + 1 + 5; omega), (by show 8 + (6 + 11) + (40 * nn + 120) ≤ 40 * (nn + 1) + 120; omega)⟩) ⟨y_blind, va_recv hK hP (ci := 3) (q0 := 1) rfl (y_W_ob (by decide) (by decide)), fun U9 hU9 hW9 => y_pre hU9 hW9 hP hD hU hZ hS hAN hN0⟩ rfl rfl hl.1 rfl (lv_room (Nat.le_of_ble_eq_true rfl)) d_Reader_joined_16 ⟨(by show 0 + (0) ≤ 0; omega), (by show 0 + (0) ≤ 0; omega)⟩) hS (fun q _ h => hFc q h) hFc (fun r_2 u t H1 locs ht hvm hw hB hz1 hk1 hS => ?_)
    obtain ⟨I3, T3, A3, O3, pl3, q3, s3, cq3, cs3⟩ := u
    dsimp only at hw hB
    rw [ht] at hB
    obtain ⟨hP, hD1, hac3⟩ := hB
    have hD : va_D Bq (y_W ad ar I3 T3 A3 O3 pl3) := hD1.weaken (fun _ q _ h => hFc q.1 h)
    generalize H1 = H at hP hS hac3 ⊢
    have hae3 := hac3
    try unfold y_ac at hae3
    try dsimp only at hae3
    refine W.widen (k := 0) (n := 0) (by omega) (by omega) ?_
    obtain ⟨hmi, e2, e4, e5, fr3, e6, e7, hge3, hcc3, hr9⟩ := hw
    rw [e2, e4, e5] at hP hD
    rw [e6, e7] at hmi
    have hP : va_P (dC, dI) y_cl (y_W ad ar I3 T A3 O pl) H := hP
    have hD : va_D Bq (y_W ad ar I3 T A3 O pl) := hD
    have hbn := hmi.2.1
    dsimp only at hbn
    rcases hr9 with rfl | rfl
    · refine lv_if_ne (tgt := 24) hx hb d_Reader_joined_19 (by decide) (fun c4 => absurd rfl c4) (fun _ => ?_)
      refine lv_iconst (v := 0) hx hb d_Reader_joined_22 (by decide) ?_
      refine y_know (fun hy91 hy92 hy93 hy94 => ?_)
      have hac9 : True := trivial
      refine W.widen (k := 0) (n := 0) (by omega) (by omega) ?_
      exact W.zret (v := 0) hx hb hr (rfl) (fun t ht hW => ⟨⟨0, (I3, T, A3, O, pl, (ln, s3, lm, cs3)), rfl, ⟨hmi, rfl, rfl, rfl, (m_fr.rf.tr fr3 (by decide)), rfl, rfl, by dsimp only; omega, by dsimp only; omega, Or.inl rfl⟩, (by dsimp only; rw [ht]; exact ⟨hP, hD, hac9⟩)⟩, hS.F ht⟩) hS.2.2 d_Reader_joined_23
    · refine lv_if_ne (tgt := 24) hx hb d_Reader_joined_19 (by decide) (fun _ => ?_) (fun c5 => absurd c5 (by decide))
      refine lv_iload_n hx hb d_Reader_joined_24 rfl (lv_at hl 1 rfl) ?_
      refine lv_if_ne (tgt := 32) hx hb d_Reader_joined_25 (by decide) (fun c_6 => ?_) (fun c_6 => ?_)
      · have c_6 : ¬ lv = 0 := fun h9 => c_6 ((x_eqN (a := lv) (b := 0) (by omega) (by omega)).mpr h9)
        refine lv_bipush (v := 72) hx hb d_Reader_joined_32 (by decide) ?_
        refine W.eq (g2 := F0 m 34 ls [.int (Int32.ofNat 72)]) rfl ?_
        refine lv_istore_n (lv' := [(3, .int (Int32.ofNat 72)), (0, .ref (ad 1)), (1, .int (Int32.ofNat lv)), (2, .int (Int32.ofNat dp))]) hx hb d_Reader_joined_34 rfl hl (by decide) rfl (fun ls hl => ?_)
        refine lv_iconst (v := 0) hx hb d_Reader_joined_35 (by decide) ?_
        refine W.eq (g2 := F0 m 36 ls [.int (Int32.ofNat 0)]) rfl ?_
        refine lv_istore (lv' := [(4, .int (Int32.ofNat 0)), (3, .int (Int32.ofNat 72)), (0, .ref (ad 1)), (1, .int (Int32.ofNat lv)), (2, .int (Int32.ofNat dp))]) hx hb d_Reader_joined_36 hl (by decide) rfl (fun ls hl => ?_)
        refine x_while (fun n H locs ls => ∃ (I1 : Nat → Int32) (A1 : Nat → Nat → Int32) (cl1 a1 i1 : Nat), n = 72 - i1 ∧ i1 ≤ 72 ∧ y_RD I1 A1 (ln, cl1, lm, a1) ∧ (aa ≤ a1 ∧ cl1 ≤ 72) ∧ m_fr [2, 4, 5] I I1 ∧ va_P (dC, dI) y_cl (y_W ad ar I1 T A1 O pl) H ∧ va_D Bq (y_W ad ar I1 T A1 O pl) ∧ va_S Bq s.heap H locs ∧ lv_has ls 6 [(0, .ref (ad 1)), (1, .int (Int32.ofNat lv)), (2, .int (Int32.ofNat dp)), (3, .int (Int32.ofNat 72)), (4, .int (Int32.ofNat i1))]) (fun n ih H locs ls h9 => ?_) ⟨I3, A3, s3, cs3, 0, rfl, Nat.zero_le _, hmi, ⟨by omega, by omega⟩, (m_fr.rf.tr fr3 (by decide)), hP, hD, hS, lv_sub hl [2, 3, 4, 1, 0] rfl⟩
        clear hP hD hS hl hmi hbn
        obtain ⟨I1, A1, cl1, a1, i1, hn9, q9, hmi, ha1, hfr, hP, hD, hS, hl⟩ := h9
        have hbn := hmi.2.1
        dsimp only at hbn
        refine lv_iload hx hb d_Reader_joined_38 (lv_at hl 4 rfl) ?_
        refine lv_iload_n hx hb d_Reader_joined_40 rfl (lv_at hl 3 rfl) ?_
        refine lv_icmp_ge (tgt := 97) hx hb d_Reader_joined_41 (by decide) (fun c_7 => ?_) (fun c_7 => ?_)
        · have c_7 : 72 ≤ i1 := (x_leN (a := 72) (b := i1) (by omega) (by omega)).mp c_7
          refine lv_iconst (v := 1) hx hb d_Reader_joined_97 (by decide) ?_
          refine y_know (fun hy91 hy92 hy93 hy94 => ?_)
          have hac9 : True := trivial
          refine W.widen (k := 0) (n := 0) (by omega) (by omega) ?_
          exact W.zret (v := 1) hx hb hr (rfl) (fun t ht hW => ⟨⟨1, (I1, T, A1, O, pl, (ln, cl1, lm, a1)), rfl, ⟨hmi, rfl, rfl, rfl, hfr, rfl, rfl, by dsimp only; omega, by dsimp only; omega, Or.inr rfl⟩, (by dsimp only; rw [ht]; exact ⟨hP, hD, hac9⟩)⟩, hS.F ht⟩) hS.2.2 d_Reader_joined_98
        · have c_7 : ¬ 72 ≤ i1 := fun h9 => c_7 ((x_leN (a := 72) (b := i1) (by omega) (by omega)).mpr h9)
          refine lv_aload_n hx hb d_Reader_joined_44 rfl (lv_at hl 0 rfl) ?_
          have hFc := y_free hD hS hA
          refine va_calli (va_runV (As := []) (rest := []) ⟨hx, hb, hml, hown, hts⟩ (c_Rd_look l dC dI ar N0 z ad I1 T A1 O pl ln cl1 lm a1 H.size (y_hs H) hmi) (cwV 0 hts (x_goodV k_338 k_340 kp_3 k_2 k_341) rfl rfl rfl (by decide +kernel) ⟨Nat.le_trans (m := 5) (Nat.le_of_ble_eq_true rfl) (Nat.le_add_left 5 _), Nat.le_trans (m := 120) (Nat.le_of_ble_eq_true rfl) (Nat.le_add_left 120 _)⟩) ⟨y_blind, va_recv hK hP (ci := 3) (q0 := 1) rfl (y_W_ob (by decide) (by decide)), fun U9 hU9 hW9 => y_pre hU9 hW9 hP hD hU hZ hS hAN hN0⟩ rfl rfl hl.1 rfl (lv_room (Nat.le_of_ble_eq_true rfl)) d_Reader_joined_45 ⟨(by show 0 + (0) ≤ 0; omega), (by show 0 + (0) ≤ 0; omega)⟩) hS (fun q _ h => hFc q h) hFc (fun r_8 u t H1 locs ht hvm hw hB hz1 hk1 hS => ?_)
          obtain ⟨I9, T9, A9, O9, pl9, q9, s9, cq9, cs9⟩ := u
          dsimp only at hw hB
          rw [ht] at hB
          obtain ⟨hP, hD1, hac9⟩ := hB
          have hD : va_D Bq (y_W ad ar I9 T9 A9 O9 pl9) := hD1.weaken (fun _ q _ h => hFc q.1 h)
          generalize H1 = H at hP hS hac9 ⊢
          have hae9 := hac9
          try unfold y_ac at hae9
          try dsimp only at hae9
          refine W.widen (k := 0) (n := 0) (by omega) (by omega) ?_
          obtain ⟨h9, hw⟩ := hw
          cases h9
          obtain rfl := hw
          refine lv_iload_n hx hb d_Reader_joined_48 rfl (lv_at hl 1 rfl) ?_
          have hFc := y_free hD hS hA
          refine va_calli (va_runS (As := [.int (y_lk A1 lm a1), .int (Int32.ofNat lv)]) (rest := []) ⟨hx, hb, hml, hown, hts⟩ (c_Rd_isJoining l dC dI ar N0 z ad I1 T A1 O pl ((y_lk A1 lm a1)) lv H.size (y_hs H) (by omega)) (cwS 2 hts (x_goodS k_519 k_520 k_2 k_521) rfl rfl rfl (by decide +kernel) ⟨Nat.le_trans (m := 5) (Nat.le_of_ble_eq_true rfl) (Nat.le_add_left 5 _), Nat.le_trans (m := 120) (Nat.le_of_ble_eq_true rfl) (Nat.le_add_left 120 _)⟩) ⟨y_blind, fun U9 hU9 hW9 => y_pre hU9 hW9 hP hD hU hZ hS hAN hN0⟩ rfl rfl hl.1 rfl (lv_room (Nat.le_of_ble_eq_true rfl)) d_Reader_joined_49 ⟨(by show 0 + (0) ≤ 0; omega), (by show 0 + (0) ≤ 0; omega)⟩) hS (fun q _ h => hFc q h) hFc (fun r_10 u t H1 locs ht hvm hw hB hz1 hk1 hS => ?_)
          obtain ⟨I11, T11, A11, O11, pl11, q11, s11, cq11, cs11⟩ := u
          dsimp only at hw hB
          rw [ht] at hB
          obtain ⟨hP, hD1, hac11⟩ := hB
          have hD : va_D Bq (y_W ad ar I11 T11 A11 O11 pl11) := hD1.weaken (fun _ q _ h => hFc q.1 h)
          generalize H1 = H at hP hS hac11 ⊢
          have hae11 := hac11
          try unfold y_ac at hae11
          try dsimp only at hae11
          refine W.widen (k := 0) (n := 0) (by omega) (by omega) ?_
          obtain ⟨h9, hw⟩ := hw
          cases h9
          rcases hw with rfl | ⟨rfl, hj12⟩
          · refine lv_if_eq (tgt := 97) hx hb d_Reader_joined_52 (by decide) (fun _ => ?_) (fun c13 => absurd (by decide) c13)
            refine lv_iconst (v := 1) hx hb d_Reader_joined_97 (by decide) ?_
            refine y_know (fun hy91 hy92 hy93 hy94 => ?_)
            have hac9 : True := trivial
            refine W.widen (k := 0) (n := 0) (by omega) (by omega) ?_
            exact W.zret (v := 1) hx hb hr (rfl) (fun t ht hW => ⟨⟨1, (I1, T, A1, O, pl, (ln, cl1, lm, a1)), rfl, ⟨hmi, rfl, rfl, rfl, hfr, rfl, rfl, by dsimp only; omega, by dsimp only; omega, Or.inr rfl⟩, (by dsimp only; rw [ht]; exact ⟨hP, hD, hac9⟩)⟩, hS.F ht⟩) hS.2.2 d_Reader_joined_98
          · refine lv_if_eq (tgt := 97) hx hb d_Reader_joined_52 (by decide) (fun c14 => absurd c14 (by decide)) (fun _ => ?_)
            refine lv_aload_n hx hb d_Reader_joined_55 rfl (lv_at hl 0 rfl) ?_
            have hFc := y_free hD hS hA
            refine va_calli (va_runV (As := []) (rest := []) ⟨hx, hb, hml, hown, hts⟩ (c_Rd_look l dC dI ar N0 z ad I1 T A1 O pl ln cl1 lm a1 H.size (y_hs H) hmi) (cwV 0 hts (x_goodV k_338 k_340 kp_3 k_2 k_341) rfl rfl rfl (by decide +kernel) ⟨Nat.le_trans (m := 5) (Nat.le_of_ble_eq_true rfl) (Nat.le_add_left 5 _), Nat.le_trans (m := 120) (Nat.le_of_ble_eq_true rfl) (Nat.le_add_left 120 _)⟩) ⟨y_blind, va_recv hK hP (ci := 3) (q0 := 1) rfl (y_W_ob (by decide) (by decide)), fun U9 hU9 hW9 => y_pre hU9 hW9 hP hD hU hZ hS hAN hN0⟩ rfl rfl hl.1 rfl (lv_room (Nat.le_of_ble_eq_true rfl)) d_Reader_joined_56 ⟨(by show 0 + (0) ≤ 0; omega), (by show 0 + (0) ≤ 0; omega)⟩) hS (fun q _ h => hFc q h) hFc (fun r_15 u t H1 locs ht hvm hw hB hz1 hk1 hS => ?_)
            obtain ⟨I16, T16, A16, O16, pl16, q16, s16, cq16, cs16⟩ := u
            dsimp only at hw hB
            rw [ht] at hB
            obtain ⟨hP, hD1, hac16⟩ := hB
            have hD : va_D Bq (y_W ad ar I16 T16 A16 O16 pl16) := hD1.weaken (fun _ q _ h => hFc q.1 h)
            generalize H1 = H at hP hS hac16 ⊢
            have hae16 := hac16
            try unfold y_ac at hae16
            try dsimp only at hae16
            refine W.widen (k := 0) (n := 0) (by omega) (by omega) ?_
            obtain ⟨h9, hw⟩ := hw
            cases h9
            obtain rfl := hw
            refine lv_istore (lv' := [(5, .int (y_lk A1 lm a1)), (0, .ref (ad 1)), (1, .int (Int32.ofNat lv)), (2, .int (Int32.ofNat dp)), (3, .int (Int32.ofNat 72)), (4, .int (Int32.ofNat i1))]) hx hb d_Reader_joined_59 hl (by decide) rfl (fun ls hl => ?_)
            have hlt : a1 < lm := y_lk_lt hj12.2
            refine lv_aload_n hx hb d_Reader_joined_61 rfl (lv_at hl 1 rfl) ?_
            refine lv_dup hx hb d_Reader_joined_62 rfl ?_
            refine k_g (C := "ChannelMachine$Reader") (F := F_Reader) (N := 9) hx hb hts i_Reader hown hK hP 1 5 (by decide) (by decide) rfl (by decide) (d := (1, 4)) rfl (hts _ k_49) (fun _ h9 => h9) (v := .int (Int32.ofNat a1)) (congrArg Value.int hmi.1.2.2.2) d_Reader_joined_63 ?_
            refine lv_iconst (v := 1) hx hb d_Reader_joined_66 (by decide) ?_
            refine lv_iadd hx hb d_Reader_joined_67 ?_
            refine W.eq (g2 := F0 m 68 ls [.int (Int32.ofNat (a1 + 1)), .ref (ad 1)]) (by rw [← x_addN (a := a1) (b := 1)] <;> rfl) ?_
            refine k_pi (C := "ChannelMachine$Reader") (F := F_Reader) (N := 9) hx hb hts i_Reader hown t_Reader t_Reader_ok n_Reader hK hP hD hS 1 5 (by decide) (by decide) rfl (by decide) (j := 4) (x := (Int32.ofNat (a1 + 1))) rfl (hts _ k_49) (fun _ h9 => h9) rfl (by decide +kernel) d_Reader_joined_68 (fun H locs hP hD hS => ?_)
            have hmi : y_RD (upd I1 4 (Int32.ofNat (a1 + 1))) A1 (ln, cl1, lm, (a1 + 1)) := hmi.at4 (by omega)
            have hbn := hmi.2.1
            dsimp only at hbn
            refine lv_aload_n hx hb d_Reader_joined_71 rfl (lv_at hl 1 rfl) ?_
            refine lv_iload_n hx hb d_Reader_joined_72 rfl (lv_at hl 2 rfl) ?_
            refine lv_iconst (v := 1) hx hb d_Reader_joined_73 (by decide) ?_
            refine lv_iadd hx hb d_Reader_joined_74 ?_
            refine W.eq (g2 := F0 m 75 ls [.int (Int32.ofNat (lv + 1)), .ref (ad 1)]) (by rw [← x_addN (a := lv) (b := 1)] <;> rfl) ?_
            refine lv_iload_n hx hb d_Reader_joined_75 rfl (lv_at hl 3 rfl) ?_
            have hFc := y_free hD hS hA
            refine va_calli (va_runV (As := [.int (Int32.ofNat (lv + 1)), .int (Int32.ofNat dp)]) (rest := []) ⟨hx, hb, hml, hown, hts⟩ (ihJ l dC dI ar N0 z ad (upd I1 4 (Int32.ofNat (a1 + 1))) T A1 O pl ln cl1 lm ((a1 + 1)) ((lv + 1)) dp H.size (y_hs H) hmi (by omega) (by omega) (by omega) (by omega)) (cwV 2 hts (x_goodV k_504 k_506 kp_10 k_2 k_507) rfl rfl rfl (by decide +kernel) ⟨(by show nn + 5 + 1 ≤ nn + 1 + 5; omega), (by show 8 + (6 + 11) + (40 * nn + 120) ≤ 40 * (nn + 1) + 120; omega)⟩) ⟨y_blind, va_recv hK hP (ci := 3) (q0 := 1) rfl (y_W_ob (by decide) (by decide)), fun U9 hU9 hW9 => y_pre hU9 hW9 hP hD hU hZ hS hAN hN0⟩ rfl rfl hl.1 rfl (lv_room (Nat.le_of_ble_eq_true rfl)) d_Reader_joined_76 ⟨(by show 0 + (0) ≤ 0; omega), (by show 0 + (0) ≤ 0; omega)⟩) hS (fun q _ h => hFc q h) hFc (fun r_17 u t H1 locs ht hvm hw hB hz1 hk1 hS => ?_)
            obtain ⟨I18, T18, A18, O18, pl18, q18, s18, cq18, cs18⟩ := u
            dsimp only at hw hB
            rw [ht] at hB
            obtain ⟨hP, hD1, hac18⟩ := hB
            have hD : va_D Bq (y_W ad ar I18 T18 A18 O18 pl18) := hD1.weaken (fun _ q _ h => hFc q.1 h)
            generalize H1 = H at hP hS hac18 ⊢
            have hae18 := hac18
            try unfold y_ac at hae18
            try dsimp only at hae18
            refine W.widen (k := 0) (n := 0) (by omega) (by omega) ?_
            obtain ⟨hmi, e2, e4, e5, fr18, e6, e7, hge18, hcc18, hr9⟩ := hw
            rw [e2, e4, e5] at hP hD
            rw [e6, e7] at hmi
            have hP : va_P (dC, dI) y_cl (y_W ad ar I18 T A18 O pl) H := hP
            have hD : va_D Bq (y_W ad ar I18 T A18 O pl) := hD
            have hbn := hmi.2.1
            dsimp only at hbn
            rcases hr9 with rfl | rfl
            · refine lv_if_ne (tgt := 84) hx hb d_Reader_joined_79 (by decide) (fun c19 => absurd rfl c19) (fun _ => ?_)
              refine lv_iconst (v := 0) hx hb d_Reader_joined_82 (by decide) ?_
              refine y_know (fun hy91 hy92 hy93 hy94 => ?_)
              have hac9 : True := trivial
              refine W.widen (k := 0) (n := 0) (by omega) (by omega) ?_
              exact W.zret (v := 0) hx hb hr (rfl) (fun t ht hW => ⟨⟨0, (I18, T, A18, O, pl, (ln, s18, lm, cs18)), rfl, ⟨hmi, rfl, rfl, rfl, ((hfr.up (by decide) _).tr fr18 (by decide)), rfl, rfl, by dsimp only; omega, by dsimp only; omega, Or.inl rfl⟩, (by dsimp only; rw [ht]; exact ⟨hP, hD, hac9⟩)⟩, hS.F ht⟩) hS.2.2 d_Reader_joined_83
            · refine lv_if_ne (tgt := 84) hx hb d_Reader_joined_79 (by decide) (fun _ => ?_) (fun c20 => absurd c20 (by decide))
              refine lv_aload_n hx hb d_Reader_joined_84 rfl (lv_at hl 1 rfl) ?_
              refine lv_iload hx hb d_Reader_joined_85 (lv_at hl 0 rfl) ?_
              refine lv_ineg hx hb d_Reader_joined_87 ?_
              have hFc := y_free hD hS hA
              refine va_callv (va_runV (As := [.int (-(y_lk A1 lm a1))]) (rest := []) ⟨hx, hb, hml, hown, hts⟩ (c_Rd_write l dC dI ar N0 z ad I18 T A18 O pl ln s18 lm cs18 ((-(y_lk A1 lm a1))) H.size (y_hs H) hmi hj12.1 (by omega)) (cwV 1 hts (x_goodV k_515 k_517 kp_12 k_2 k_518) rfl rfl rfl (by decide +kernel) ⟨Nat.le_trans (m := 5) (Nat.le_of_ble_eq_true rfl) (Nat.le_add_left 5 _), Nat.le_trans (m := 120) (Nat.le_of_ble_eq_true rfl) (Nat.le_add_left 120 _)⟩) ⟨y_blind, va_recv hK hP (ci := 3) (q0 := 1) rfl (y_W_ob (by decide) (by decide)), fun U9 hU9 hW9 => y_pre hU9 hW9 hP hD hU hZ hS hAN hN0⟩ rfl rfl hl.1 rfl (lv_room (Nat.le_of_ble_eq_true rfl)) d_Reader_joined_88 ⟨(by show 0 + (0) ≤ 0; omega), (by show 0 + (0) ≤ 0; omega)⟩) hS (fun q _ h => hFc q h) hFc (fun u t H1 locs ht hvm hw hB hz1 hk1 hS => ?_)
              obtain ⟨I21, T21, A21, O21, pl21, q21, s21, cq21, cs21⟩ := u
              dsimp only at hw hB
              rw [ht] at hB
              obtain ⟨hP, hD1, hac21⟩ := hB
              have hD : va_D Bq (y_W ad ar I21 T21 A21 O21 pl21) := hD1.weaken (fun _ q _ h => hFc q.1 h)
              generalize H1 = H at hP hS hac21 ⊢
              have hae21 := hac21
              try unfold y_ac at hae21
              try dsimp only at hae21
              refine W.widen (k := 0) (n := 0) (by omega) (by omega) ?_
              obtain ⟨hmi, e2, e4, e5, fr21, e6, e7, hge21, hcc21, hat9⟩ := hw
              rw [e2, e4, e5] at hP hD
              rw [e6, e7] at hmi
              have hP : va_P (dC, dI) y_cl (y_W ad ar I21 T A21 O pl) H := hP
              have hD : va_D Bq (y_W ad ar I21 T A21 O pl) := hD
              have hbn := hmi.2.1
              dsimp only at hbn
              rw [hat9] at hmi
              have hbn := hmi.2.1
              dsimp only at hbn
              refine lv_iinc (v := (Int32.ofNat (i1 + 1))) (lv' := [(4, .int (Int32.ofNat (i1 + 1))), (5, .int (y_lk A1 lm a1)), (0, .ref (ad 1)), (1, .int (Int32.ofNat lv)), (2, .int (Int32.ofNat dp)), (3, .int (Int32.ofNat 72))]) hx hb d_Reader_joined_91 hl (k := 5) rfl (x_incN i1) (by decide) rfl (fun ls hl => ?_)
              refine lv_goto (tgt := 38) hx hb d_Reader_joined_94 (by decide) ?_
              exact ih (72 - (i1 + 1)) (by omega) H locs ls ⟨I21, A21, s21, cs18, i1 + 1, rfl, by omega, hmi, ⟨by omega, by omega⟩, (((hfr.up (by decide) _).tr fr18 (by decide)).tr fr21 (by decide)), hP, hD, hS, lv_sub hl [2, 3, 4, 5, 0] rfl⟩
      · have c_6 : lv = 0 := (x_eqN (a := lv) (b := 0) (by omega) (by omega)).mp c_6
        refine lv_iconst (v := 1) hx hb d_Reader_joined_28 (by decide) ?_
        refine W.eq (g2 := F0 m 29 ls [.int (Int32.ofNat 1)]) rfl ?_
        refine lv_goto (tgt := 34) hx hb d_Reader_joined_29 (by decide) ?_
        refine lv_istore_n (lv' := [(3, .int (Int32.ofNat 1)), (0, .ref (ad 1)), (1, .int (Int32.ofNat lv)), (2, .int (Int32.ofNat dp))]) hx hb d_Reader_joined_34 rfl hl (by decide) rfl (fun ls hl => ?_)
        refine lv_iconst (v := 0) hx hb d_Reader_joined_35 (by decide) ?_
        refine W.eq (g2 := F0 m 36 ls [.int (Int32.ofNat 0)]) rfl ?_
        refine lv_istore (lv' := [(4, .int (Int32.ofNat 0)), (3, .int (Int32.ofNat 1)), (0, .ref (ad 1)), (1, .int (Int32.ofNat lv)), (2, .int (Int32.ofNat dp))]) hx hb d_Reader_joined_36 hl (by decide) rfl (fun ls hl => ?_)
        refine x_while (fun n H locs ls => ∃ (I1 : Nat → Int32) (A1 : Nat → Nat → Int32) (cl1 a1 i1 : Nat), n = 1 - i1 ∧ i1 ≤ 1 ∧ y_RD I1 A1 (ln, cl1, lm, a1) ∧ (aa ≤ a1 ∧ cl1 ≤ 72) ∧ m_fr [2, 4, 5] I I1 ∧ va_P (dC, dI) y_cl (y_W ad ar I1 T A1 O pl) H ∧ va_D Bq (y_W ad ar I1 T A1 O pl) ∧ va_S Bq s.heap H locs ∧ lv_has ls 6 [(0, .ref (ad 1)), (1, .int (Int32.ofNat lv)), (2, .int (Int32.ofNat dp)), (3, .int (Int32.ofNat 1)), (4, .int (Int32.ofNat i1))]) (fun n ih H locs ls h9 => ?_) ⟨I3, A3, s3, cs3, 0, rfl, Nat.zero_le _, hmi, ⟨by omega, by omega⟩, (m_fr.rf.tr fr3 (by decide)), hP, hD, hS, lv_sub hl [2, 3, 4, 1, 0] rfl⟩
        clear hP hD hS hl hmi hbn
        obtain ⟨I1, A1, cl1, a1, i1, hn9, q9, hmi, ha1, hfr, hP, hD, hS, hl⟩ := h9
        have hbn := hmi.2.1
        dsimp only at hbn
        refine lv_iload hx hb d_Reader_joined_38 (lv_at hl 4 rfl) ?_
        refine lv_iload_n hx hb d_Reader_joined_40 rfl (lv_at hl 3 rfl) ?_
        refine lv_icmp_ge (tgt := 97) hx hb d_Reader_joined_41 (by decide) (fun c_22 => ?_) (fun c_22 => ?_)
        · have c_22 : 1 ≤ i1 := (x_leN (a := 1) (b := i1) (by omega) (by omega)).mp c_22
          refine lv_iconst (v := 1) hx hb d_Reader_joined_97 (by decide) ?_
          refine y_know (fun hy91 hy92 hy93 hy94 => ?_)
          have hac9 : True := trivial
          refine W.widen (k := 0) (n := 0) (by omega) (by omega) ?_
          exact W.zret (v := 1) hx hb hr (rfl) (fun t ht hW => ⟨⟨1, (I1, T, A1, O, pl, (ln, cl1, lm, a1)), rfl, ⟨hmi, rfl, rfl, rfl, hfr, rfl, rfl, by dsimp only; omega, by dsimp only; omega, Or.inr rfl⟩, (by dsimp only; rw [ht]; exact ⟨hP, hD, hac9⟩)⟩, hS.F ht⟩) hS.2.2 d_Reader_joined_98
        · have c_22 : ¬ 1 ≤ i1 := fun h9 => c_22 ((x_leN (a := 1) (b := i1) (by omega) (by omega)).mpr h9)
          refine lv_aload_n hx hb d_Reader_joined_44 rfl (lv_at hl 0 rfl) ?_
          have hFc := y_free hD hS hA
          refine va_calli (va_runV (As := []) (rest := []) ⟨hx, hb, hml, hown, hts⟩ (c_Rd_look l dC dI ar N0 z ad I1 T A1 O pl ln cl1 lm a1 H.size (y_hs H) hmi) (cwV 0 hts (x_goodV k_338 k_340 kp_3 k_2 k_341) rfl rfl rfl (by decide +kernel) ⟨Nat.le_trans (m := 5) (Nat.le_of_ble_eq_true rfl) (Nat.le_add_left 5 _), Nat.le_trans (m := 120) (Nat.le_of_ble_eq_true rfl) (Nat.le_add_left 120 _)⟩) ⟨y_blind, va_recv hK hP (ci := 3) (q0 := 1) rfl (y_W_ob (by decide) (by decide)), fun U9 hU9 hW9 => y_pre hU9 hW9 hP hD hU hZ hS hAN hN0⟩ rfl rfl hl.1 rfl (lv_room (Nat.le_of_ble_eq_true rfl)) d_Reader_joined_45 ⟨(by show 0 + (0) ≤ 0; omega), (by show 0 + (0) ≤ 0; omega)⟩) hS (fun q _ h => hFc q h) hFc (fun r_23 u t H1 locs ht hvm hw hB hz1 hk1 hS => ?_)
          obtain ⟨I24, T24, A24, O24, pl24, q24, s24, cq24, cs24⟩ := u
          dsimp only at hw hB
          rw [ht] at hB
          obtain ⟨hP, hD1, hac24⟩ := hB
          have hD : va_D Bq (y_W ad ar I24 T24 A24 O24 pl24) := hD1.weaken (fun _ q _ h => hFc q.1 h)
          generalize H1 = H at hP hS hac24 ⊢
          have hae24 := hac24
          try unfold y_ac at hae24
          try dsimp only at hae24
          refine W.widen (k := 0) (n := 0) (by omega) (by omega) ?_
          obtain ⟨h9, hw⟩ := hw
          cases h9
          obtain rfl := hw
          refine lv_iload_n hx hb d_Reader_joined_48 rfl (lv_at hl 1 rfl) ?_
          have hFc := y_free hD hS hA
          refine va_calli (va_runS (As := [.int (y_lk A1 lm a1), .int (Int32.ofNat lv)]) (rest := []) ⟨hx, hb, hml, hown, hts⟩ (c_Rd_isJoining l dC dI ar N0 z ad I1 T A1 O pl ((y_lk A1 lm a1)) lv H.size (y_hs H) (by omega)) (cwS 2 hts (x_goodS k_519 k_520 k_2 k_521) rfl rfl rfl (by decide +kernel) ⟨Nat.le_trans (m := 5) (Nat.le_of_ble_eq_true rfl) (Nat.le_add_left 5 _), Nat.le_trans (m := 120) (Nat.le_of_ble_eq_true rfl) (Nat.le_add_left 120 _)⟩) ⟨y_blind, fun U9 hU9 hW9 => y_pre hU9 hW9 hP hD hU hZ hS hAN hN0⟩ rfl rfl hl.1 rfl (lv_room (Nat.le_of_ble_eq_true rfl)) d_Reader_joined_49 ⟨(by show 0 + (0) ≤ 0; omega), (by show 0 + (0) ≤ 0; omega)⟩) hS (fun q _ h => hFc q h) hFc (fun r_25 u t H1 locs ht hvm hw hB hz1 hk1 hS => ?_)
          obtain ⟨I26, T26, A26, O26, pl26, q26, s26, cq26, cs26⟩ := u
          dsimp only at hw hB
          rw [ht] at hB
          obtain ⟨hP, hD1, hac26⟩ := hB
          have hD : va_D Bq (y_W ad ar I26 T26 A26 O26 pl26) := hD1.weaken (fun _ q _ h => hFc q.1 h)
          generalize H1 = H at hP hS hac26 ⊢
          have hae26 := hac26
          try unfold y_ac at hae26
          try dsimp only at hae26
          refine W.widen (k := 0) (n := 0) (by omega) (by omega) ?_
          obtain ⟨h9, hw⟩ := hw
          cases h9
          rcases hw with rfl | ⟨rfl, hj27⟩
          · refine lv_if_eq (tgt := 97) hx hb d_Reader_joined_52 (by decide) (fun _ => ?_) (fun c28 => absurd (by decide) c28)
            refine lv_iconst (v := 1) hx hb d_Reader_joined_97 (by decide) ?_
            refine y_know (fun hy91 hy92 hy93 hy94 => ?_)
            have hac9 : True := trivial
            refine W.widen (k := 0) (n := 0) (by omega) (by omega) ?_
            exact W.zret (v := 1) hx hb hr (rfl) (fun t ht hW => ⟨⟨1, (I1, T, A1, O, pl, (ln, cl1, lm, a1)), rfl, ⟨hmi, rfl, rfl, rfl, hfr, rfl, rfl, by dsimp only; omega, by dsimp only; omega, Or.inr rfl⟩, (by dsimp only; rw [ht]; exact ⟨hP, hD, hac9⟩)⟩, hS.F ht⟩) hS.2.2 d_Reader_joined_98
          · refine lv_if_eq (tgt := 97) hx hb d_Reader_joined_52 (by decide) (fun c29 => absurd c29 (by decide)) (fun _ => ?_)
            refine lv_aload_n hx hb d_Reader_joined_55 rfl (lv_at hl 0 rfl) ?_
            have hFc := y_free hD hS hA
            refine va_calli (va_runV (As := []) (rest := []) ⟨hx, hb, hml, hown, hts⟩ (c_Rd_look l dC dI ar N0 z ad I1 T A1 O pl ln cl1 lm a1 H.size (y_hs H) hmi) (cwV 0 hts (x_goodV k_338 k_340 kp_3 k_2 k_341) rfl rfl rfl (by decide +kernel) ⟨Nat.le_trans (m := 5) (Nat.le_of_ble_eq_true rfl) (Nat.le_add_left 5 _), Nat.le_trans (m := 120) (Nat.le_of_ble_eq_true rfl) (Nat.le_add_left 120 _)⟩) ⟨y_blind, va_recv hK hP (ci := 3) (q0 := 1) rfl (y_W_ob (by decide) (by decide)), fun U9 hU9 hW9 => y_pre hU9 hW9 hP hD hU hZ hS hAN hN0⟩ rfl rfl hl.1 rfl (lv_room (Nat.le_of_ble_eq_true rfl)) d_Reader_joined_56 ⟨(by show 0 + (0) ≤ 0; omega), (by show 0 + (0) ≤ 0; omega)⟩) hS (fun q _ h => hFc q h) hFc (fun r_30 u t H1 locs ht hvm hw hB hz1 hk1 hS => ?_)
            obtain ⟨I31, T31, A31, O31, pl31, q31, s31, cq31, cs31⟩ := u
            dsimp only at hw hB
            rw [ht] at hB
            obtain ⟨hP, hD1, hac31⟩ := hB
            have hD : va_D Bq (y_W ad ar I31 T31 A31 O31 pl31) := hD1.weaken (fun _ q _ h => hFc q.1 h)
            generalize H1 = H at hP hS hac31 ⊢
            have hae31 := hac31
            try unfold y_ac at hae31
            try dsimp only at hae31
            refine W.widen (k := 0) (n := 0) (by omega) (by omega) ?_
            obtain ⟨h9, hw⟩ := hw
            cases h9
            obtain rfl := hw
            refine lv_istore (lv' := [(5, .int (y_lk A1 lm a1)), (0, .ref (ad 1)), (1, .int (Int32.ofNat lv)), (2, .int (Int32.ofNat dp)), (3, .int (Int32.ofNat 1)), (4, .int (Int32.ofNat i1))]) hx hb d_Reader_joined_59 hl (by decide) rfl (fun ls hl => ?_)
            have hlt : a1 < lm := y_lk_lt hj27.2
            refine lv_aload_n hx hb d_Reader_joined_61 rfl (lv_at hl 1 rfl) ?_
            refine lv_dup hx hb d_Reader_joined_62 rfl ?_
            refine k_g (C := "ChannelMachine$Reader") (F := F_Reader) (N := 9) hx hb hts i_Reader hown hK hP 1 5 (by decide) (by decide) rfl (by decide) (d := (1, 4)) rfl (hts _ k_49) (fun _ h9 => h9) (v := .int (Int32.ofNat a1)) (congrArg Value.int hmi.1.2.2.2) d_Reader_joined_63 ?_
            refine lv_iconst (v := 1) hx hb d_Reader_joined_66 (by decide) ?_
            refine lv_iadd hx hb d_Reader_joined_67 ?_
            refine W.eq (g2 := F0 m 68 ls [.int (Int32.ofNat (a1 + 1)), .ref (ad 1)]) (by rw [← x_addN (a := a1) (b := 1)] <;> rfl) ?_
            refine k_pi (C := "ChannelMachine$Reader") (F := F_Reader) (N := 9) hx hb hts i_Reader hown t_Reader t_Reader_ok n_Reader hK hP hD hS 1 5 (by decide) (by decide) rfl (by decide) (j := 4) (x := (Int32.ofNat (a1 + 1))) rfl (hts _ k_49) (fun _ h9 => h9) rfl (by decide +kernel) d_Reader_joined_68 (fun H locs hP hD hS => ?_)
            have hmi : y_RD (upd I1 4 (Int32.ofNat (a1 + 1))) A1 (ln, cl1, lm, (a1 + 1)) := hmi.at4 (by omega)
            have hbn := hmi.2.1
            dsimp only at hbn
            refine lv_aload_n hx hb d_Reader_joined_71 rfl (lv_at hl 1 rfl) ?_
            refine lv_iload_n hx hb d_Reader_joined_72 rfl (lv_at hl 2 rfl) ?_
            refine lv_iconst (v := 1) hx hb d_Reader_joined_73 (by decide) ?_
            refine lv_iadd hx hb d_Reader_joined_74 ?_
            refine W.eq (g2 := F0 m 75 ls [.int (Int32.ofNat (lv + 1)), .ref (ad 1)]) (by rw [← x_addN (a := lv) (b := 1)] <;> rfl) ?_
            refine lv_iload_n hx hb d_Reader_joined_75 rfl (lv_at hl 3 rfl) ?_
            have hFc := y_free hD hS hA
            refine va_calli (va_runV (As := [.int (Int32.ofNat (lv + 1)), .int (Int32.ofNat dp)]) (rest := []) ⟨hx, hb, hml, hown, hts⟩ (ihJ l dC dI ar N0 z ad (upd I1 4 (Int32.ofNat (a1 + 1))) T A1 O pl ln cl1 lm ((a1 + 1)) ((lv + 1)) dp H.size (y_hs H) hmi (by omega) (by omega) (by omega) (by omega)) (cwV 2 hts (x_goodV k_504 k_506 kp_10 k_2 k_507) rfl rfl rfl (by decide +kernel) ⟨(by show nn + 5 + 1 ≤ nn + 1 + 5; omega), (by show 8 + (6 + 11) + (40 * nn + 120) ≤ 40 * (nn + 1) + 120; omega)⟩) ⟨y_blind, va_recv hK hP (ci := 3) (q0 := 1) rfl (y_W_ob (by decide) (by decide)), fun U9 hU9 hW9 => y_pre hU9 hW9 hP hD hU hZ hS hAN hN0⟩ rfl rfl hl.1 rfl (lv_room (Nat.le_of_ble_eq_true rfl)) d_Reader_joined_76 ⟨(by show 0 + (0) ≤ 0; omega), (by show 0 + (0) ≤ 0; omega)⟩) hS (fun q _ h => hFc q h) hFc (fun r_32 u t H1 locs ht hvm hw hB hz1 hk1 hS => ?_)
            obtain ⟨I33, T33, A33, O33, pl33, q33, s33, cq33, cs33⟩ := u
            dsimp only at hw hB
            rw [ht] at hB
            obtain ⟨hP, hD1, hac33⟩ := hB
            have hD : va_D Bq (y_W ad ar I33 T33 A33 O33 pl33) := hD1.weaken (fun _ q _ h => hFc q.1 h)
            generalize H1 = H at hP hS hac33 ⊢
            have hae33 := hac33
            try unfold y_ac at hae33
            try dsimp only at hae33
            refine W.widen (k := 0) (n := 0) (by omega) (by omega) ?_
            obtain ⟨hmi, e2, e4, e5, fr33, e6, e7, hge33, hcc33, hr9⟩ := hw
            rw [e2, e4, e5] at hP hD
            rw [e6, e7] at hmi
            have hP : va_P (dC, dI) y_cl (y_W ad ar I33 T A33 O pl) H := hP
            have hD : va_D Bq (y_W ad ar I33 T A33 O pl) := hD
            have hbn := hmi.2.1
            dsimp only at hbn
            rcases hr9 with rfl | rfl
            · refine lv_if_ne (tgt := 84) hx hb d_Reader_joined_79 (by decide) (fun c34 => absurd rfl c34) (fun _ => ?_)
              refine lv_iconst (v := 0) hx hb d_Reader_joined_82 (by decide) ?_
              refine y_know (fun hy91 hy92 hy93 hy94 => ?_)
              have hac9 : True := trivial
              refine W.widen (k := 0) (n := 0) (by omega) (by omega) ?_
              exact W.zret (v := 0) hx hb hr (rfl) (fun t ht hW => ⟨⟨0, (I33, T, A33, O, pl, (ln, s33, lm, cs33)), rfl, ⟨hmi, rfl, rfl, rfl, ((hfr.up (by decide) _).tr fr33 (by decide)), rfl, rfl, by dsimp only; omega, by dsimp only; omega, Or.inl rfl⟩, (by dsimp only; rw [ht]; exact ⟨hP, hD, hac9⟩)⟩, hS.F ht⟩) hS.2.2 d_Reader_joined_83
            · refine lv_if_ne (tgt := 84) hx hb d_Reader_joined_79 (by decide) (fun _ => ?_) (fun c35 => absurd c35 (by decide))
              refine lv_aload_n hx hb d_Reader_joined_84 rfl (lv_at hl 1 rfl) ?_
              refine lv_iload hx hb d_Reader_joined_85 (lv_at hl 0 rfl) ?_
              refine lv_ineg hx hb d_Reader_joined_87 ?_
              have hFc := y_free hD hS hA
              refine va_callv (va_runV (As := [.int (-(y_lk A1 lm a1))]) (rest := []) ⟨hx, hb, hml, hown, hts⟩ (c_Rd_write l dC dI ar N0 z ad I33 T A33 O pl ln s33 lm cs33 ((-(y_lk A1 lm a1))) H.size (y_hs H) hmi hj27.1 (by omega)) (cwV 1 hts (x_goodV k_515 k_517 kp_12 k_2 k_518) rfl rfl rfl (by decide +kernel) ⟨Nat.le_trans (m := 5) (Nat.le_of_ble_eq_true rfl) (Nat.le_add_left 5 _), Nat.le_trans (m := 120) (Nat.le_of_ble_eq_true rfl) (Nat.le_add_left 120 _)⟩) ⟨y_blind, va_recv hK hP (ci := 3) (q0 := 1) rfl (y_W_ob (by decide) (by decide)), fun U9 hU9 hW9 => y_pre hU9 hW9 hP hD hU hZ hS hAN hN0⟩ rfl rfl hl.1 rfl (lv_room (Nat.le_of_ble_eq_true rfl)) d_Reader_joined_88 ⟨(by show 0 + (0) ≤ 0; omega), (by show 0 + (0) ≤ 0; omega)⟩) hS (fun q _ h => hFc q h) hFc (fun u t H1 locs ht hvm hw hB hz1 hk1 hS => ?_)
              obtain ⟨I36, T36, A36, O36, pl36, q36, s36, cq36, cs36⟩ := u
              dsimp only at hw hB
              rw [ht] at hB
              obtain ⟨hP, hD1, hac36⟩ := hB
              have hD : va_D Bq (y_W ad ar I36 T36 A36 O36 pl36) := hD1.weaken (fun _ q _ h => hFc q.1 h)
              generalize H1 = H at hP hS hac36 ⊢
              have hae36 := hac36
              try unfold y_ac at hae36
              try dsimp only at hae36
              refine W.widen (k := 0) (n := 0) (by omega) (by omega) ?_
              obtain ⟨hmi, e2, e4, e5, fr36, e6, e7, hge36, hcc36, hat9⟩ := hw
              rw [e2, e4, e5] at hP hD
              rw [e6, e7] at hmi
              have hP : va_P (dC, dI) y_cl (y_W ad ar I36 T A36 O pl) H := hP
              have hD : va_D Bq (y_W ad ar I36 T A36 O pl) := hD
              have hbn := hmi.2.1
              dsimp only at hbn
              rw [hat9] at hmi
              have hbn := hmi.2.1
              dsimp only at hbn
              refine lv_iinc (v := (Int32.ofNat (i1 + 1))) (lv' := [(4, .int (Int32.ofNat (i1 + 1))), (5, .int (y_lk A1 lm a1)), (0, .ref (ad 1)), (1, .int (Int32.ofNat lv)), (2, .int (Int32.ofNat dp)), (3, .int (Int32.ofNat 1))]) hx hb d_Reader_joined_91 hl (k := 5) rfl (x_incN i1) (by decide) rfl (fun ls hl => ?_)
              refine lv_goto (tgt := 38) hx hb d_Reader_joined_94 (by decide) ?_
              exact ih (1 - (i1 + 1)) (by omega) H locs ls ⟨I36, A36, s36, cs33, i1 + 1, rfl, by omega, hmi, ⟨by omega, by omega⟩, (((hfr.up (by decide) _).tr fr33 (by decide)).tr fr36 (by decide)), hP, hD, hS, lv_sub hl [2, 3, 4, 5, 0] rfl⟩
  · have c_1 : ¬ lv < 3 := fun h9 => c_1 ((x_ltN (a := lv) (b := 3) (by omega) (by omega)).mpr h9)
    refine lv_aload_n hx hb d_Reader_joined_5 rfl (lv_at hl 0 rfl) ?_
    refine lv_iload_n hx hb d_Reader_joined_6 rfl (lv_at hl 2 rfl) ?_
    have hFc := y_free hD hS hA
    refine va_calli (va_runV (As := [.int (Int32.ofNat dp)]) (rest := []) ⟨hx, hb, hml, hown, hts⟩ (ihU l dC dI ar N0 z ad I T A O pl ln cl lm aa dp s.heap.size (y_hs s.heap) hmi (by omega) (by omega) (by omega)) (cwV 1 hts (x_goodV k_508 k_510 kp_11 k_2 k_511) rfl rfl rfl (by decide +kernel) ⟨(by show nn + 5 + 1 ≤ nn + 1 + 5; omega), (by show 8 + (5 + 11) + (40 * nn + 120) ≤ 40 * (nn + 1) + 120; omega)⟩) ⟨y_blind, va_recv hK hP (ci := 3) (q0 := 1) rfl (y_W_ob (by decide) (by decide)), fun U9 hU9 hW9 => y_pre hU9 hW9 hP hD hU hZ hS hAN hN0⟩ rfl rfl hl.1 rfl (lv_room (Nat.le_of_ble_eq_true rfl)) d_Reader_joined_7 ⟨(by show 0 + (0) ≤ 0; omega), (by show 0 + (0) ≤ 0; omega)⟩) hS (fun q _ h => hFc q h) hFc (fun r_37 u t H1 locs ht hvm hw hB hz1 hk1 hS => ?_)
    obtain ⟨I38, T38, A38, O38, pl38, q38, s38, cq38, cs38⟩ := u
    dsimp only at hw hB
    rw [ht] at hB
    obtain ⟨hP, hD1, hac38⟩ := hB
    have hD : va_D Bq (y_W ad ar I38 T38 A38 O38 pl38) := hD1.weaken (fun _ q _ h => hFc q.1 h)
    generalize H1 = H at hP hS hac38 ⊢
    have hae38 := hac38
    try unfold y_ac at hae38
    try dsimp only at hae38
    refine W.widen (k := 0) (n := 0) (by omega) (by omega) ?_
    obtain ⟨hmi, e2, e4, e5, fr38, e6, e7, hge38, hcc38, hr9⟩ := hw
    rw [e2, e4, e5] at hP hD
    rw [e6, e7] at hmi
    have hP : va_P (dC, dI) y_cl (y_W ad ar I38 T A38 O pl) H := hP
    have hD : va_D Bq (y_W ad ar I38 T A38 O pl) := hD
    have hbn := hmi.2.1
    dsimp only at hbn
    rcases hr9 with rfl | rfl
    · refine y_know (fun hy91 hy92 hy93 hy94 => ?_)
      have hac9 : True := trivial
      refine W.widen (k := 0) (n := 0) (by omega) (by omega) ?_
      exact W.zret (v := 0) hx hb hr (rfl) (fun t ht hW => ⟨⟨0, (I38, T, A38, O, pl, (ln, s38, lm, cs38)), rfl, ⟨hmi, rfl, rfl, rfl, (m_fr.rf.tr fr38 (by decide)), rfl, rfl, by dsimp only; omega, by dsimp only; omega, Or.inl rfl⟩, (by dsimp only; rw [ht]; exact ⟨hP, hD, hac9⟩)⟩, hS.F ht⟩) hS.2.2 d_Reader_joined_10
    · refine y_know (fun hy91 hy92 hy93 hy94 => ?_)
      have hac9 : True := trivial
      refine W.widen (k := 0) (n := 0) (by omega) (by omega) ?_
      exact W.zret (v := 1) hx hb hr (rfl) (fun t ht hW => ⟨⟨1, (I38, T, A38, O, pl, (ln, s38, lm, cs38)), rfl, ⟨hmi, rfl, rfl, rfl, (m_fr.rf.tr fr38 (by decide)), rfl, rfl, by dsimp only; omega, by dsimp only; omega, Or.inr rfl⟩, (by dsimp only; rw [ht]; exact ⟨hP, hD, hac9⟩)⟩, hS.F ht⟩) hS.2.2 d_Reader_joined_10
def y_dg (v : Int32) : Prop := ¬ v < 48 ∧ ¬ 57 < v
theorem y_dgK {A : Nat → Nat → Int32} {lm aa a1 i1 k1 e : Nat} (hK : (i1 = 0 ∧ k1 = 0 ∧ a1 = aa) ∨ (i1 = 1 ∧ k1 ≤ 9 ∧ y_dg (y_lk A lm aa)) ∨ (i1 = 2 ∧ k1 ≤ 99 ∧ y_dg (y_lk A lm aa)) ∨ (i1 = 3 ∧ k1 ≤ 999 ∧ y_dg (y_lk A lm aa))) (h3 : i1 < 3 ∧ 48 ≤ e ∧ e ≤ 57) (he : y_lk A lm a1 = Int32.ofNat e) (hd : ¬ y_lk A lm a1 < 48 ∧ ¬ 57 < y_lk A lm a1) {a2 : Nat} : (i1 + 1 = 0 ∧ k1 * 10 + e - 48 = 0 ∧ a2 = aa) ∨ (i1 + 1 = 1 ∧ k1 * 10 + e - 48 ≤ 9 ∧ y_dg (y_lk A lm aa)) ∨ (i1 + 1 = 2 ∧ k1 * 10 + e - 48 ≤ 99 ∧ y_dg (y_lk A lm aa)) ∨ (i1 + 1 = 3 ∧ k1 * 10 + e - 48 ≤ 999 ∧ y_dg (y_lk A lm aa)) := by
  rcases hK with ⟨h1, h2, h4⟩ | ⟨h1, h2, h4⟩ | ⟨h1, h2, h4⟩ | ⟨h1, h2, h4⟩
  · subst h4
    exact Or.inr (Or.inl ⟨by omega, by omega, hd⟩)
  · exact Or.inr (Or.inr (Or.inl ⟨by omega, by omega, h4⟩))
  · exact Or.inr (Or.inr (Or.inr ⟨by omega, by omega, h4⟩))
  · omega
theorem y_dg0 {A : Nat → Nat → Int32} {lm aa a1 i1 k1 : Nat} (hK : (i1 = 0 ∧ k1 = 0 ∧ a1 = aa) ∨ (i1 = 1 ∧ k1 ≤ 9 ∧ y_dg (y_lk A lm aa)) ∨ (i1 = 2 ∧ k1 ≤ 99 ∧ y_dg (y_lk A lm aa)) ∨ (i1 = 3 ∧ k1 ≤ 999 ∧ y_dg (y_lk A lm aa))) (h : y_lk A lm aa < 48 ∨ 57 < y_lk A lm aa) : a1 = aa := by
  have hn : ¬ y_dg (y_lk A lm aa) := fun h9 => h.elim h9.1 h9.2
  rcases hK with ⟨_, _, h4⟩ | ⟨_, _, h4⟩ | ⟨_, _, h4⟩ | ⟨_, _, h4⟩
  · exact h4
  · exact absurd h4 hn
  · exact absurd h4 hn
  · exact absurd h4 hn
set_option maxHeartbeats 4000000 in
set_option maxRecDepth 100000 in
theorem st_U (nn : Nat) (ihJ : ∀ (l : Launch) (dC : Nat → ClassId) (dI : Nat → Nat → Nat) (ar : Nat → ClassId) (N0 : Nat) (z : Nat → Nat) (ad : Nat → Nat) (I : Nat → Int32) (T : Int64) (A : Nat → Nat → Int32) (O : Nat → Option Nat) (pl : va_W) (ln cl lm aa : Nat) (lv dp : Nat) (sz w0 : Nat) (hmi : y_RD I A (ln, cl, lm, aa)) (hcl : cl ≤ 72) (hlv : lv ≤ 3) (hdp : 1 ≤ dp ∧ dp ≤ 5) (hrk : (5 - dp) * 5 + (4 - lv) < nn) , Met l ({ cls := "ChannelMachine$Reader", name := "joined", desc := "(II)Z" } : Jvm.MethodName) ((Jvm.Cond.code ({ cls := "ChannelMachine$Reader", name := "joined", desc := "(II)Z" } : Jvm.MethodName) prog_8_method_28_code (6 : Nat) (Option.some Jvm.ClassFile.FieldType.boolean)) :: x_T) ({ frames := nn + 5, cells := 0, slots := 0, locals := 40 * nn + 120 }) (y_Pc (dC, dI) ar N0 z (y_W ad ar I T A O pl) sz w0 [.ref (ad 1), .int (Int32.ofNat lv), .int (Int32.ofNat dp)]) (va_Qi (fun (r : Int32) (u : (Nat → Int32) × Int64 × (Nat → Nat → Int32) × (Nat → Option Nat) × va_W × (Nat × Nat × Nat × Nat)) => y_RD u.1 u.2.2.1 u.2.2.2.2.2 ∧ u.2.1 = T ∧ u.2.2.2.1 = O ∧ u.2.2.2.2.1 = pl ∧ m_fr [2, 4, 5] I u.1 ∧ u.2.2.2.2.2.1 = ln ∧ u.2.2.2.2.2.2.2.1 = lm ∧ aa ≤ u.2.2.2.2.2.2.2.2 ∧ (u.2.2.2.2.2.2.1 ≤ 72 ∨ 72 < cl) ∧ (r = 0 ∨ r = 1)) (fun u t => va_P (dC, dI) y_cl (y_W ad ar u.1 u.2.1 u.2.2.1 u.2.2.2.1 u.2.2.2.2.1) t.heap ∧ va_D (va_A (y_W ad ar I T A O pl) sz) (y_W ad ar u.1 u.2.1 u.2.2.1 u.2.2.2.1 u.2.2.2.2.1) ∧ True) (va_A (y_W ad ar I T A O pl) sz)) (0) (0) (va_A (y_W ad ar I T A O pl) sz)) (ihU : ∀ (l : Launch) (dC : Nat → ClassId) (dI : Nat → Nat → Nat) (ar : Nat → ClassId) (N0 : Nat) (z : Nat → Nat) (ad : Nat → Nat) (I : Nat → Int32) (T : Int64) (A : Nat → Nat → Int32) (O : Nat → Option Nat) (pl : va_W) (ln cl lm aa : Nat) (dp : Nat) (sz w0 : Nat) (hmi : y_RD I A (ln, cl, lm, aa)) (hcl : cl ≤ 72) (hdp : 1 ≤ dp ∧ dp ≤ 5) (hrk : (5 - dp) * 5 < nn) , Met l ({ cls := "ChannelMachine$Reader", name := "unary", desc := "(I)Z" } : Jvm.MethodName) ((Jvm.Cond.code ({ cls := "ChannelMachine$Reader", name := "unary", desc := "(I)Z" } : Jvm.MethodName) prog_8_method_29_code (5 : Nat) (Option.some Jvm.ClassFile.FieldType.boolean)) :: x_T) ({ frames := nn + 5, cells := 0, slots := 0, locals := 40 * nn + 120 }) (y_Pc (dC, dI) ar N0 z (y_W ad ar I T A O pl) sz w0 [.ref (ad 1), .int (Int32.ofNat dp)]) (va_Qi (fun (r : Int32) (u : (Nat → Int32) × Int64 × (Nat → Nat → Int32) × (Nat → Option Nat) × va_W × (Nat × Nat × Nat × Nat)) => y_RD u.1 u.2.2.1 u.2.2.2.2.2 ∧ u.2.1 = T ∧ u.2.2.2.1 = O ∧ u.2.2.2.2.1 = pl ∧ m_fr [2, 4, 5] I u.1 ∧ u.2.2.2.2.2.1 = ln ∧ u.2.2.2.2.2.2.2.1 = lm ∧ aa ≤ u.2.2.2.2.2.2.2.2 ∧ (u.2.2.2.2.2.2.1 ≤ 72 ∨ 72 < cl) ∧ (r = 0 ∨ r = 1)) (fun u t => va_P (dC, dI) y_cl (y_W ad ar u.1 u.2.1 u.2.2.1 u.2.2.2.1 u.2.2.2.2.1) t.heap ∧ va_D (va_A (y_W ad ar I T A O pl) sz) (y_W ad ar u.1 u.2.1 u.2.2.1 u.2.2.2.1 u.2.2.2.2.1) ∧ True) (va_A (y_W ad ar I T A O pl) sz)) (0) (0) (va_A (y_W ad ar I T A O pl) sz)) (l : Launch) (dC : Nat → ClassId) (dI : Nat → Nat → Nat) (ar : Nat → ClassId) (N0 : Nat) (z : Nat → Nat) (ad : Nat → Nat) (I : Nat → Int32) (T : Int64) (A : Nat → Nat → Int32) (O : Nat → Option Nat) (pl : va_W) (ln cl lm aa : Nat) (dp : Nat) (sz w0 : Nat) (hmi : y_RD I A (ln, cl, lm, aa)) (hcl : cl ≤ 72) (hdp : 1 ≤ dp ∧ dp ≤ 5) (hrk : (5 - dp) * 5 < nn + 1) : Met l ({ cls := "ChannelMachine$Reader", name := "unary", desc := "(I)Z" } : Jvm.MethodName) ((Jvm.Cond.code ({ cls := "ChannelMachine$Reader", name := "unary", desc := "(I)Z" } : Jvm.MethodName) prog_8_method_29_code (5 : Nat) (Option.some Jvm.ClassFile.FieldType.boolean)) :: x_T) ({ frames := nn + 1 + 5, cells := 0, slots := 0, locals := 40 * (nn + 1) + 120 }) (y_Pc (dC, dI) ar N0 z (y_W ad ar I T A O pl) sz w0 [.ref (ad 1), .int (Int32.ofNat dp)]) (va_Qi (fun (r : Int32) (u : (Nat → Int32) × Int64 × (Nat → Nat → Int32) × (Nat → Option Nat) × va_W × (Nat × Nat × Nat × Nat)) => y_RD u.1 u.2.2.1 u.2.2.2.2.2 ∧ u.2.1 = T ∧ u.2.2.2.1 = O ∧ u.2.2.2.2.1 = pl ∧ m_fr [2, 4, 5] I u.1 ∧ u.2.2.2.2.2.1 = ln ∧ u.2.2.2.2.2.2.2.1 = lm ∧ aa ≤ u.2.2.2.2.2.2.2.2 ∧ (u.2.2.2.2.2.2.1 ≤ 72 ∨ 72 < cl) ∧ (r = 0 ∨ r = 1)) (fun u t => va_P (dC, dI) y_cl (y_W ad ar u.1 u.2.1 u.2.2.1 u.2.2.2.1 u.2.2.2.2.1) t.heap ∧ va_D (va_A (y_W ad ar I T A O pl) sz) (y_W ad ar u.1 u.2.1 u.2.2.1 u.2.2.2.1 u.2.2.2.2.1) ∧ True) (va_A (y_W ad ar I T A O pl) sz)) (0) (0) (va_A (y_W ad ar I T A O pl) sz) := by
  refine Met.ofW (cc := prog_8_method_29_code) (maxL := 5) (ret := (some .boolean)) (by decide) rfl ?_
  intro p e s m args below meth c s₁ B hml hv
  obtain ⟨rfl, hsz, hN0, hP, hU, hZ, hD0, hw0⟩ := hv
  have hK := hU.2.1
  have hx := B.exec
  have hb := B.bytes
  have hr := B.returns
  have hts : ∀ w ∈ x_T, w.before ([.ref (ad 1), .int (Int32.ofNat dp)] : List Value).toArray s = true := fun w h => atoms_spec (ws := (Jvm.Cond.code ({ cls := "ChannelMachine$Reader", name := "unary", desc := "(I)Z" } : Jvm.MethodName) prog_8_method_29_code (5 : Nat) (Option.some Jvm.ClassFile.FieldType.boolean)) :: x_T) B.pre w (List.mem_cons_of_mem _ h)
  have hown : s.vm.findClass "ChannelMachine$Reader" = some m.cls := findClass_of_methodNamed B.named
  have hlocks := B.notSynchronized
  subst hsz
  subst hw0
  have hD := hD0.self (sz := s.heap.size)
  have hAN := x_AN hD0 hN0
  generalize hAe : va_A (y_W ad ar I T A O pl) s.heap.size = Bq at hD hAN ⊢
  have hA : ∀ q : Nat, s.heap.size ≤ q → Bq q := fun q h => by rw [← hAe]; exact Or.inr h
  have hS : va_S Bq s.heap s.heap [] := va_S.rf
  have hl := lv_entry ([.ref (ad 1), .int (Int32.ofNat dp)]) (n := 5) (Nat.le_of_ble_eq_true rfl)
  rw [lg_entry_eq]
  generalize (lg_sl ([.ref (ad 1), .int (Int32.ofNat dp)]) ++ List.replicate (5 - (lg_sl ([.ref (ad 1), .int (Int32.ofNat dp)])).length) Slot.unset).toArray = ls at hl ⊢
  have hl : lv_has ls 5 [(0, .ref (ad 1)), (1, .int (Int32.ofNat dp))] := hl
  have hbn := hmi.2.1
  dsimp only at hbn
  refine lv_aload_n hx hb d_Reader_unary_0 rfl (lv_at hl 0 rfl) ?_
  have hFc := y_free hD hS hA
  refine va_calli (va_runV (As := []) (rest := []) ⟨hx, hb, hml, hown, hts⟩ (c_Rd_look l dC dI ar N0 z ad I T A O pl ln cl lm aa s.heap.size (y_hs s.heap) hmi) (cwV 0 hts (x_goodV k_338 k_340 kp_3 k_2 k_341) rfl rfl rfl (by decide +kernel) ⟨Nat.le_trans (m := 5) (Nat.le_of_ble_eq_true rfl) (Nat.le_add_left 5 _), Nat.le_trans (m := 120) (Nat.le_of_ble_eq_true rfl) (Nat.le_add_left 120 _)⟩) ⟨y_blind, va_recv hK hP (ci := 3) (q0 := 1) rfl (y_W_ob (by decide) (by decide)), fun U9 hU9 hW9 => y_pre hU9 hW9 hP hD hU hZ hS hAN hN0⟩ rfl rfl hl.1 rfl (lv_room (Nat.le_of_ble_eq_true rfl)) d_Reader_unary_1 ⟨(by show 0 + (0) ≤ 0; omega), (by show 0 + (0) ≤ 0; omega)⟩) hS (fun q _ h => hFc q h) hFc (fun r_1 u t H1 locs ht hvm hw hB hz1 hk1 hS => ?_)
  obtain ⟨I2, T2, A2, O2, pl2, q2, s2, cq2, cs2⟩ := u
  dsimp only at hw hB
  rw [ht] at hB
  obtain ⟨hP, hD1, hac2⟩ := hB
  have hD : va_D Bq (y_W ad ar I2 T2 A2 O2 pl2) := hD1.weaken (fun _ q _ h => hFc q.1 h)
  generalize H1 = H at hP hS hac2 ⊢
  have hae2 := hac2
  try unfold y_ac at hae2
  try dsimp only at hae2
  refine W.widen (k := 0) (n := 0) (by omega) (by omega) ?_
  obtain ⟨h9, hw⟩ := hw
  cases h9
  obtain rfl := hw
  refine lv_istore_n (lv' := [(2, .int (y_lk A lm aa)), (0, .ref (ad 1)), (1, .int (Int32.ofNat dp))]) hx hb d_Reader_unary_4 rfl hl (by decide) rfl (fun ls hl => ?_)
  refine lv_iconst (v := 0) hx hb d_Reader_unary_5 (by decide) ?_
  refine W.eq (g2 := F0 m 6 ls [.int (Int32.ofNat 0)]) rfl ?_
  refine lv_istore_n (lv' := [(3, .int (Int32.ofNat 0)), (2, .int (y_lk A lm aa)), (0, .ref (ad 1)), (1, .int (Int32.ofNat dp))]) hx hb d_Reader_unary_6 rfl hl (by decide) rfl (fun ls hl => ?_)
  refine lv_iconst (v := 0) hx hb d_Reader_unary_7 (by decide) ?_
  refine W.eq (g2 := F0 m 8 ls [.int (Int32.ofNat 0)]) rfl ?_
  refine lv_istore (lv' := [(4, .int (Int32.ofNat 0)), (3, .int (Int32.ofNat 0)), (2, .int (y_lk A lm aa)), (0, .ref (ad 1)), (1, .int (Int32.ofNat dp))]) hx hb d_Reader_unary_8 hl (by decide) rfl (fun ls hl => ?_)
  refine x_while (fun n H locs ls => ∃ (I1 : Nat → Int32) (a1 i1 k1 : Nat), n = 3 - i1 ∧ ((i1 = 0 ∧ k1 = 0 ∧ a1 = aa) ∨ (i1 = 1 ∧ k1 ≤ 9 ∧ y_dg (y_lk A lm aa)) ∨ (i1 = 2 ∧ k1 ≤ 99 ∧ y_dg (y_lk A lm aa)) ∨ (i1 = 3 ∧ k1 ≤ 999 ∧ y_dg (y_lk A lm aa))) ∧ y_RD I1 A (ln, cl, lm, a1) ∧ aa ≤ a1 ∧ m_fr [2, 4, 5] I I1 ∧ va_P (dC, dI) y_cl (y_W ad ar I1 T A O pl) H ∧ va_D Bq (y_W ad ar I1 T A O pl) ∧ va_S Bq s.heap H locs ∧ lv_has ls 5 [(0, .ref (ad 1)), (1, .int (Int32.ofNat dp)), (2, .int (y_lk A lm aa)), (3, .int (Int32.ofNat k1)), (4, .int (Int32.ofNat i1))]) (fun n ih H locs ls h9 => ?_) ⟨I, aa, 0, 0, rfl, Or.inl ⟨rfl, rfl, rfl⟩, hmi, Nat.le_refl _, m_fr.rf, hP, hD, hS, lv_sub hl [3, 4, 2, 1, 0] rfl⟩
  clear hP hD hS hl hmi hbn
  obtain ⟨I1, a1, i1, k1, hn9, hKK, hmi, ha1, hfr, hP, hD, hS, hl⟩ := h9
  have hi3 : i1 ≤ 3 ∧ k1 ≤ 999 := by omega
  have hbn := hmi.2.1
  dsimp only at hbn
  refine lv_iload hx hb d_Reader_unary_10 (lv_at hl 4 rfl) ?_
  refine lv_iconst (v := 3) hx hb d_Reader_unary_12 (by decide) ?_
  refine lv_icmp_ge (tgt := 55) hx hb d_Reader_unary_13 (by decide) (fun c_3 => ?_) (fun c_3 => ?_)
  · have c_3 : 3 ≤ i1 := (x_leN (a := 3) (b := i1) (by omega) (by omega)).mp c_3
    refine lv_iload_n hx hb d_Reader_unary_55 rfl (lv_at hl 2 rfl) ?_
    have hFc := y_free hD hS hA
    refine va_calli (va_runS (As := [.int (y_lk A lm aa)]) (rest := []) ⟨hx, hb, hml, hown, hts⟩ (c_Rd_isDigit l dC dI ar N0 z ad I1 T A O pl ((y_lk A lm aa)) H.size (y_hs H) ) (cwS 1 hts (x_goodS k_512 k_513 k_2 k_514) rfl rfl rfl (by decide +kernel) ⟨Nat.le_trans (m := 5) (Nat.le_of_ble_eq_true rfl) (Nat.le_add_left 5 _), Nat.le_trans (m := 120) (Nat.le_of_ble_eq_true rfl) (Nat.le_add_left 120 _)⟩) ⟨y_blind, fun U9 hU9 hW9 => y_pre hU9 hW9 hP hD hU hZ hS hAN hN0⟩ rfl rfl hl.1 rfl (lv_room (Nat.le_of_ble_eq_true rfl)) d_Reader_unary_56 ⟨(by show 0 + (0) ≤ 0; omega), (by show 0 + (0) ≤ 0; omega)⟩) hS (fun q _ h => hFc q h) hFc (fun r_4 u t H1 locs ht hvm hw hB hz1 hk1 hS => ?_)
    obtain ⟨I5, T5, A5, O5, pl5, q5, s5, cq5, cs5⟩ := u
    dsimp only at hw hB
    rw [ht] at hB
    obtain ⟨hP, hD1, hac5⟩ := hB
    have hD : va_D Bq (y_W ad ar I5 T5 A5 O5 pl5) := hD1.weaken (fun _ q _ h => hFc q.1 h)
    generalize H1 = H at hP hS hac5 ⊢
    have hae5 := hac5
    try unfold y_ac at hae5
    try dsimp only at hae5
    refine W.widen (k := 0) (n := 0) (by omega) (by omega) ?_
    obtain ⟨h9, hw⟩ := hw
    cases h9
    rcases hw with ⟨rfl, hr6⟩ | ⟨rfl, hr6⟩
    · refine lv_if_eq (tgt := 69) hx hb d_Reader_unary_59 (by decide) (fun _ => ?_) (fun c7 => absurd (by decide) c7)
      have ha0 : a1 = aa := y_dg0 hKK hr6
      refine lv_iload_n hx hb d_Reader_unary_69 rfl (lv_at hl 2 rfl) ?_
      have hFc := y_free hD hS hA
      refine va_calli (va_runS (As := [.int (y_lk A lm aa)]) (rest := []) ⟨hx, hb, hml, hown, hts⟩ (c_Rd_isVariable l dC dI ar N0 z ad I1 T A O pl ((y_lk A lm aa)) H.size (y_hs H) ) (cwS 1 hts (x_goodS k_369 k_370 k_2 k_371) rfl rfl rfl (by decide +kernel) ⟨Nat.le_trans (m := 5) (Nat.le_of_ble_eq_true rfl) (Nat.le_add_left 5 _), Nat.le_trans (m := 120) (Nat.le_of_ble_eq_true rfl) (Nat.le_add_left 120 _)⟩) ⟨y_blind, fun U9 hU9 hW9 => y_pre hU9 hW9 hP hD hU hZ hS hAN hN0⟩ rfl rfl hl.1 rfl (lv_room (Nat.le_of_ble_eq_true rfl)) d_Reader_unary_70 ⟨(by show 0 + (0) ≤ 0; omega), (by show 0 + (0) ≤ 0; omega)⟩) hS (fun q _ h => hFc q h) hFc (fun r_8 u t H1 locs ht hvm hw hB hz1 hk1 hS => ?_)
      obtain ⟨I9, T9, A9, O9, pl9, q9, s9, cq9, cs9⟩ := u
      dsimp only at hw hB
      rw [ht] at hB
      obtain ⟨hP, hD1, hac9⟩ := hB
      have hD : va_D Bq (y_W ad ar I9 T9 A9 O9 pl9) := hD1.weaken (fun _ q _ h => hFc q.1 h)
      generalize H1 = H at hP hS hac9 ⊢
      have hae9 := hac9
      try unfold y_ac at hae9
      try dsimp only at hae9
      refine W.widen (k := 0) (n := 0) (by omega) (by omega) ?_
      obtain ⟨h9, hw⟩ := hw
      cases h9
      rcases hw with ⟨rfl, hr10⟩ | ⟨rfl, hr10⟩
      · refine lv_if_eq (tgt := 100) hx hb d_Reader_unary_73 (by decide) (fun _ => ?_) (fun c11 => absurd (by decide) c11)
        refine lv_iload_n hx hb d_Reader_unary_100 rfl (lv_at hl 1 rfl) ?_
        refine lv_iconst (v := 5) hx hb d_Reader_unary_101 (by decide) ?_
        refine lv_icmp_ge (tgt := 117) hx hb d_Reader_unary_102 (by decide) (fun c_12 => ?_) (fun c_12 => ?_)
        · have c_12 : 5 ≤ dp := (x_leN (a := 5) (b := dp) (by omega) (by omega)).mp c_12
          refine lv_aload_n hx hb d_Reader_unary_117 rfl (lv_at hl 0 rfl) ?_
          have hFc := y_free hD hS hA
          refine va_calli (va_runV (As := []) (rest := []) ⟨hx, hb, hml, hown, hts⟩ (c_Rd_refuse l dC dI ar N0 z ad I1 T A O pl ln cl lm a1 H.size (y_hs H) hmi) (cwV 0 hts (x_goodV k_477 k_479 kp_6 k_2 k_480) rfl rfl rfl (by decide +kernel) ⟨Nat.le_trans (m := 5) (Nat.le_of_ble_eq_true rfl) (Nat.le_add_left 5 _), Nat.le_trans (m := 120) (Nat.le_of_ble_eq_true rfl) (Nat.le_add_left 120 _)⟩) ⟨y_blind, va_recv hK hP (ci := 3) (q0 := 1) rfl (y_W_ob (by decide) (by decide)), fun U9 hU9 hW9 => y_pre hU9 hW9 hP hD hU hZ hS hAN hN0⟩ rfl rfl hl.1 rfl (lv_room (Nat.le_of_ble_eq_true rfl)) d_Reader_unary_118 ⟨(by show 0 + (0) ≤ 0; omega), (by show 0 + (0) ≤ 0; omega)⟩) hS (fun q _ h => hFc q h) hFc (fun r_13 u t H1 locs ht hvm hw hB hz1 hk1 hS => ?_)
          obtain ⟨I14, T14, A14, O14, pl14, q14, s14, cq14, cs14⟩ := u
          dsimp only at hw hB
          rw [ht] at hB
          obtain ⟨hP, hD1, hac14⟩ := hB
          have hD : va_D Bq (y_W ad ar I14 T14 A14 O14 pl14) := hD1.weaken (fun _ q _ h => hFc q.1 h)
          generalize H1 = H at hP hS hac14 ⊢
          have hae14 := hac14
          try unfold y_ac at hae14
          try dsimp only at hae14
          refine W.widen (k := 0) (n := 0) (by omega) (by omega) ?_
          obtain ⟨hmi, e2, e4, e5, fr14, e6, e7, hge14, hcc14, hr9⟩ := hw
          rw [e2, e4, e5] at hP hD
          rw [e6, e7] at hmi
          have hP : va_P (dC, dI) y_cl (y_W ad ar I14 T A14 O pl) H := hP
          have hD : va_D Bq (y_W ad ar I14 T A14 O pl) := hD
          have hbn := hmi.2.1
          dsimp only at hbn
          obtain rfl := hr9
          refine y_know (fun hy91 hy92 hy93 hy94 => ?_)
          have hac9 : True := trivial
          refine W.widen (k := 0) (n := 0) (by omega) (by omega) ?_
          exact W.zret (v := 0) hx hb hr (rfl) (fun t ht hW => ⟨⟨0, (I14, T, A14, O, pl, (ln, s14, lm, cs14)), rfl, ⟨hmi, rfl, rfl, rfl, (hfr.tr fr14 (by decide)), rfl, rfl, by dsimp only; omega, by dsimp only; omega, Or.inl rfl⟩, (by dsimp only; rw [ht]; exact ⟨hP, hD, hac9⟩)⟩, hS.F ht⟩) hS.2.2 d_Reader_unary_121
        · have c_12 : ¬ 5 ≤ dp := fun h9 => c_12 ((x_leN (a := 5) (b := dp) (by omega) (by omega)).mpr h9)
          refine lv_iload_n hx hb d_Reader_unary_105 rfl (lv_at hl 2 rfl) ?_
          refine lv_bipush (v := 45) hx hb d_Reader_unary_106 (by decide) ?_
          refine lv_icmp_eq (tgt := 122) hx hb d_Reader_unary_108 (by decide) (fun c15 => ?_) (fun c15 => ?_)
          · have hlt : a1 < lm := by rw [ha0]; exact y_lk_lt (by rw [c15]; decide)
            refine lv_aload_n hx hb d_Reader_unary_122 rfl (lv_at hl 0 rfl) ?_
            refine lv_dup hx hb d_Reader_unary_123 rfl ?_
            refine k_g (C := "ChannelMachine$Reader") (F := F_Reader) (N := 9) hx hb hts i_Reader hown hK hP 1 5 (by decide) (by decide) rfl (by decide) (d := (1, 4)) rfl (hts _ k_49) (fun _ h9 => h9) (v := .int (Int32.ofNat a1)) (congrArg Value.int hmi.1.2.2.2) d_Reader_unary_124 ?_
            refine lv_iconst (v := 1) hx hb d_Reader_unary_127 (by decide) ?_
            refine lv_iadd hx hb d_Reader_unary_128 ?_
            refine W.eq (g2 := F0 m 129 ls [.int (Int32.ofNat (a1 + 1)), .ref (ad 1)]) (by rw [← x_addN (a := a1) (b := 1)] <;> rfl) ?_
            refine k_pi (C := "ChannelMachine$Reader") (F := F_Reader) (N := 9) hx hb hts i_Reader hown t_Reader t_Reader_ok n_Reader hK hP hD hS 1 5 (by decide) (by decide) rfl (by decide) (j := 4) (x := (Int32.ofNat (a1 + 1))) rfl (hts _ k_49) (fun _ h9 => h9) rfl (by decide +kernel) d_Reader_unary_129 (fun H locs hP hD hS => ?_)
            have hmi : y_RD (upd I1 4 (Int32.ofNat (a1 + 1))) A (ln, cl, lm, (a1 + 1)) := hmi.at4 (by omega)
            have hbn := hmi.2.1
            dsimp only at hbn
            refine lv_iload_n hx hb d_Reader_unary_132 rfl (lv_at hl 2 rfl) ?_
            refine lv_bipush (v := 40) hx hb d_Reader_unary_133 (by decide) ?_
            refine lv_icmp_ne (tgt := 164) hx hb d_Reader_unary_135 (by decide) (fun c16 => ?_) (fun c16 => ?_)
            · refine lv_aload_n hx hb d_Reader_unary_164 rfl (lv_at hl 0 rfl) ?_
              refine lv_iload_n hx hb d_Reader_unary_165 rfl (lv_at hl 1 rfl) ?_
              refine lv_iconst (v := 1) hx hb d_Reader_unary_166 (by decide) ?_
              refine lv_iadd hx hb d_Reader_unary_167 ?_
              refine W.eq (g2 := F0 m 168 ls [.int (Int32.ofNat (dp + 1)), .ref (ad 1)]) (by rw [← x_addN (a := dp) (b := 1)] <;> rfl) ?_
              have hFc := y_free hD hS hA
              refine va_calli (va_runV (As := [.int (Int32.ofNat (dp + 1))]) (rest := []) ⟨hx, hb, hml, hown, hts⟩ (ihU l dC dI ar N0 z ad (upd I1 4 (Int32.ofNat (a1 + 1))) T A O pl ln cl lm ((a1 + 1)) ((dp + 1)) H.size (y_hs H) hmi (by omega) (by omega) (by omega)) (cwV 1 hts (x_goodV k_508 k_510 kp_11 k_2 k_511) rfl rfl rfl (by decide +kernel) ⟨(by show nn + 5 + 1 ≤ nn + 1 + 5; omega), (by show 8 + (5 + 11) + (40 * nn + 120) ≤ 40 * (nn + 1) + 120; omega)⟩) ⟨y_blind, va_recv hK hP (ci := 3) (q0 := 1) rfl (y_W_ob (by decide) (by decide)), fun U9 hU9 hW9 => y_pre hU9 hW9 hP hD hU hZ hS hAN hN0⟩ rfl rfl hl.1 rfl (lv_room (Nat.le_of_ble_eq_true rfl)) d_Reader_unary_168 ⟨(by show 0 + (0) ≤ 0; omega), (by show 0 + (0) ≤ 0; omega)⟩) hS (fun q _ h => hFc q h) hFc (fun r_17 u t H1 locs ht hvm hw hB hz1 hk1 hS => ?_)
              obtain ⟨I18, T18, A18, O18, pl18, q18, s18, cq18, cs18⟩ := u
              dsimp only at hw hB
              rw [ht] at hB
              obtain ⟨hP, hD1, hac18⟩ := hB
              have hD : va_D Bq (y_W ad ar I18 T18 A18 O18 pl18) := hD1.weaken (fun _ q _ h => hFc q.1 h)
              generalize H1 = H at hP hS hac18 ⊢
              have hae18 := hac18
              try unfold y_ac at hae18
              try dsimp only at hae18
              refine W.widen (k := 0) (n := 0) (by omega) (by omega) ?_
              obtain ⟨hmi, e2, e4, e5, fr18, e6, e7, hge18, hcc18, hr9⟩ := hw
              rw [e2, e4, e5] at hP hD
              rw [e6, e7] at hmi
              have hP : va_P (dC, dI) y_cl (y_W ad ar I18 T A18 O pl) H := hP
              have hD : va_D Bq (y_W ad ar I18 T A18 O pl) := hD
              have hbn := hmi.2.1
              dsimp only at hbn
              rcases hr9 with rfl | rfl
              · refine lv_if_ne (tgt := 176) hx hb d_Reader_unary_171 (by decide) (fun c19 => absurd rfl c19) (fun _ => ?_)
                refine lv_iconst (v := 0) hx hb d_Reader_unary_174 (by decide) ?_
                refine y_know (fun hy91 hy92 hy93 hy94 => ?_)
                have hac9 : True := trivial
                refine W.widen (k := 0) (n := 0) (by omega) (by omega) ?_
                exact W.zret (v := 0) hx hb hr (rfl) (fun t ht hW => ⟨⟨0, (I18, T, A18, O, pl, (ln, s18, lm, cs18)), rfl, ⟨hmi, rfl, rfl, rfl, ((hfr.up (by decide) _).tr fr18 (by decide)), rfl, rfl, by dsimp only; omega, by dsimp only; omega, Or.inl rfl⟩, (by dsimp only; rw [ht]; exact ⟨hP, hD, hac9⟩)⟩, hS.F ht⟩) hS.2.2 d_Reader_unary_175
              · refine lv_if_ne (tgt := 176) hx hb d_Reader_unary_171 (by decide) (fun _ => ?_) (fun c20 => absurd c20 (by decide))
                refine lv_aload_n hx hb d_Reader_unary_176 rfl (lv_at hl 0 rfl) ?_
                refine lv_iconst (v := (-1)) hx hb d_Reader_unary_177 (by decide) ?_
                have hFc := y_free hD hS hA
                refine va_callv (va_runV (As := [.int (-1)]) (rest := []) ⟨hx, hb, hml, hown, hts⟩ (c_Rd_write l dC dI ar N0 z ad I18 T A18 O pl ln s18 lm cs18 ((-1)) H.size (y_hs H) hmi (Or.inr (Or.inl rfl)) (by omega)) (cwV 1 hts (x_goodV k_515 k_517 kp_12 k_2 k_518) rfl rfl rfl (by decide +kernel) ⟨Nat.le_trans (m := 5) (Nat.le_of_ble_eq_true rfl) (Nat.le_add_left 5 _), Nat.le_trans (m := 120) (Nat.le_of_ble_eq_true rfl) (Nat.le_add_left 120 _)⟩) ⟨y_blind, va_recv hK hP (ci := 3) (q0 := 1) rfl (y_W_ob (by decide) (by decide)), fun U9 hU9 hW9 => y_pre hU9 hW9 hP hD hU hZ hS hAN hN0⟩ rfl rfl hl.1 rfl (lv_room (Nat.le_of_ble_eq_true rfl)) d_Reader_unary_178 ⟨(by show 0 + (0) ≤ 0; omega), (by show 0 + (0) ≤ 0; omega)⟩) hS (fun q _ h => hFc q h) hFc (fun u t H1 locs ht hvm hw hB hz1 hk1 hS => ?_)
                obtain ⟨I21, T21, A21, O21, pl21, q21, s21, cq21, cs21⟩ := u
                dsimp only at hw hB
                rw [ht] at hB
                obtain ⟨hP, hD1, hac21⟩ := hB
                have hD : va_D Bq (y_W ad ar I21 T21 A21 O21 pl21) := hD1.weaken (fun _ q _ h => hFc q.1 h)
                generalize H1 = H at hP hS hac21 ⊢
                have hae21 := hac21
                try unfold y_ac at hae21
                try dsimp only at hae21
                refine W.widen (k := 0) (n := 0) (by omega) (by omega) ?_
                obtain ⟨hmi, e2, e4, e5, fr21, e6, e7, hge21, hcc21, hat9⟩ := hw
                rw [e2, e4, e5] at hP hD
                rw [e6, e7] at hmi
                have hP : va_P (dC, dI) y_cl (y_W ad ar I21 T A21 O pl) H := hP
                have hD : va_D Bq (y_W ad ar I21 T A21 O pl) := hD
                have hbn := hmi.2.1
                dsimp only at hbn
                rw [hat9] at hmi
                have hbn := hmi.2.1
                dsimp only at hbn
                refine lv_iconst (v := 1) hx hb d_Reader_unary_181 (by decide) ?_
                refine y_know (fun hy91 hy92 hy93 hy94 => ?_)
                have hac9 : True := trivial
                refine W.widen (k := 0) (n := 0) (by omega) (by omega) ?_
                exact W.zret (v := 1) hx hb hr (rfl) (fun t ht hW => ⟨⟨1, (I21, T, A21, O, pl, (ln, s21, lm, cs18)), rfl, ⟨hmi, rfl, rfl, rfl, (((hfr.up (by decide) _).tr fr18 (by decide)).tr fr21 (by decide)), rfl, rfl, by dsimp only; omega, by dsimp only; omega, Or.inr rfl⟩, (by dsimp only; rw [ht]; exact ⟨hP, hD, hac9⟩)⟩, hS.F ht⟩) hS.2.2 d_Reader_unary_182
            · refine lv_aload_n hx hb d_Reader_unary_138 rfl (lv_at hl 0 rfl) ?_
              refine lv_iconst (v := 0) hx hb d_Reader_unary_139 (by decide) ?_
              refine W.eq (g2 := F0 m 140 ls [.int (Int32.ofNat 0), .ref (ad 1)]) rfl ?_
              refine lv_iload_n hx hb d_Reader_unary_140 rfl (lv_at hl 1 rfl) ?_
              refine lv_iconst (v := 1) hx hb d_Reader_unary_141 (by decide) ?_
              refine lv_iadd hx hb d_Reader_unary_142 ?_
              refine W.eq (g2 := F0 m 143 ls [.int (Int32.ofNat (dp + 1)), .int (Int32.ofNat 0), .ref (ad 1)]) (by rw [← x_addN (a := dp) (b := 1)] <;> rfl) ?_
              have hFc := y_free hD hS hA
              refine va_calli (va_runV (As := [.int (Int32.ofNat 0), .int (Int32.ofNat (dp + 1))]) (rest := []) ⟨hx, hb, hml, hown, hts⟩ (ihJ l dC dI ar N0 z ad (upd I1 4 (Int32.ofNat (a1 + 1))) T A O pl ln cl lm ((a1 + 1)) 0 ((dp + 1)) H.size (y_hs H) hmi (by omega) (by omega) (by omega) (by omega)) (cwV 2 hts (x_goodV k_504 k_506 kp_10 k_2 k_507) rfl rfl rfl (by decide +kernel) ⟨(by show nn + 5 + 1 ≤ nn + 1 + 5; omega), (by show 8 + (6 + 11) + (40 * nn + 120) ≤ 40 * (nn + 1) + 120; omega)⟩) ⟨y_blind, va_recv hK hP (ci := 3) (q0 := 1) rfl (y_W_ob (by decide) (by decide)), fun U9 hU9 hW9 => y_pre hU9 hW9 hP hD hU hZ hS hAN hN0⟩ rfl rfl hl.1 rfl (lv_room (Nat.le_of_ble_eq_true rfl)) d_Reader_unary_143 ⟨(by show 0 + (0) ≤ 0; omega), (by show 0 + (0) ≤ 0; omega)⟩) hS (fun q _ h => hFc q h) hFc (fun r_22 u t H1 locs ht hvm hw hB hz1 hk1 hS => ?_)
              obtain ⟨I23, T23, A23, O23, pl23, q23, s23, cq23, cs23⟩ := u
              dsimp only at hw hB
              rw [ht] at hB
              obtain ⟨hP, hD1, hac23⟩ := hB
              have hD : va_D Bq (y_W ad ar I23 T23 A23 O23 pl23) := hD1.weaken (fun _ q _ h => hFc q.1 h)
              generalize H1 = H at hP hS hac23 ⊢
              have hae23 := hac23
              try unfold y_ac at hae23
              try dsimp only at hae23
              refine W.widen (k := 0) (n := 0) (by omega) (by omega) ?_
              obtain ⟨hmi, e2, e4, e5, fr23, e6, e7, hge23, hcc23, hr9⟩ := hw
              rw [e2, e4, e5] at hP hD
              rw [e6, e7] at hmi
              have hP : va_P (dC, dI) y_cl (y_W ad ar I23 T A23 O pl) H := hP
              have hD : va_D Bq (y_W ad ar I23 T A23 O pl) := hD
              have hbn := hmi.2.1
              dsimp only at hbn
              rcases hr9 with rfl | rfl
              · refine lv_if_eq (tgt := 162) hx hb d_Reader_unary_146 (by decide) (fun _ => ?_) (fun c24 => absurd (by decide) c24)
                refine lv_iconst (v := 0) hx hb d_Reader_unary_162 (by decide) ?_
                refine y_know (fun hy91 hy92 hy93 hy94 => ?_)
                have hac9 : True := trivial
                refine W.widen (k := 0) (n := 0) (by omega) (by omega) ?_
                exact W.zret (v := 0) hx hb hr (rfl) (fun t ht hW => ⟨⟨0, (I23, T, A23, O, pl, (ln, s23, lm, cs23)), rfl, ⟨hmi, rfl, rfl, rfl, ((hfr.up (by decide) _).tr fr23 (by decide)), rfl, rfl, by dsimp only; omega, by dsimp only; omega, Or.inl rfl⟩, (by dsimp only; rw [ht]; exact ⟨hP, hD, hac9⟩)⟩, hS.F ht⟩) hS.2.2 d_Reader_unary_163
              · refine lv_if_eq (tgt := 162) hx hb d_Reader_unary_146 (by decide) (fun c25 => absurd c25 (by decide)) (fun _ => ?_)
                refine lv_aload_n hx hb d_Reader_unary_149 rfl (lv_at hl 0 rfl) ?_
                refine lv_bipush (v := 41) hx hb d_Reader_unary_150 (by decide) ?_
                have hFc := y_free hD hS hA
                refine va_calli (va_runV (As := [.int 41]) (rest := []) ⟨hx, hb, hml, hown, hts⟩ (c_Rd_expect l dC dI ar N0 z ad I23 T A23 O pl ln s23 lm cs23 (41) H.size (y_hs H) hmi (by decide)) (cwV 1 hts (x_goodV k_492 k_494 kp_7 k_2 k_495) rfl rfl rfl (by decide +kernel) ⟨Nat.le_trans (m := 5) (Nat.le_of_ble_eq_true rfl) (Nat.le_add_left 5 _), Nat.le_trans (m := 120) (Nat.le_of_ble_eq_true rfl) (Nat.le_add_left 120 _)⟩) ⟨y_blind, va_recv hK hP (ci := 3) (q0 := 1) rfl (y_W_ob (by decide) (by decide)), fun U9 hU9 hW9 => y_pre hU9 hW9 hP hD hU hZ hS hAN hN0⟩ rfl rfl hl.1 rfl (lv_room (Nat.le_of_ble_eq_true rfl)) d_Reader_unary_152 ⟨(by show 0 + (0) ≤ 0; omega), (by show 0 + (0) ≤ 0; omega)⟩) hS (fun q _ h => hFc q h) hFc (fun r_26 u t H1 locs ht hvm hw hB hz1 hk1 hS => ?_)
                obtain ⟨I27, T27, A27, O27, pl27, q27, s27, cq27, cs27⟩ := u
                dsimp only at hw hB
                rw [ht] at hB
                obtain ⟨hP, hD1, hac27⟩ := hB
                have hD : va_D Bq (y_W ad ar I27 T27 A27 O27 pl27) := hD1.weaken (fun _ q _ h => hFc q.1 h)
                generalize H1 = H at hP hS hac27 ⊢
                have hae27 := hac27
                try unfold y_ac at hae27
                try dsimp only at hae27
                refine W.widen (k := 0) (n := 0) (by omega) (by omega) ?_
                obtain ⟨hmi, e2, e4, e5, fr27, e6, e7, hge27, hcc27, hr9⟩ := hw
                rw [e2, e4, e5] at hP hD
                rw [e6, e7] at hmi
                have hP : va_P (dC, dI) y_cl (y_W ad ar I27 T A27 O pl) H := hP
                have hD : va_D Bq (y_W ad ar I27 T A27 O pl) := hD
                have hbn := hmi.2.1
                dsimp only at hbn
                rcases hr9 with rfl | ⟨rfl, hex28⟩
                · refine lv_if_eq (tgt := 162) hx hb d_Reader_unary_155 (by decide) (fun _ => ?_) (fun c29 => absurd (by decide) c29)
                  refine lv_iconst (v := 0) hx hb d_Reader_unary_162 (by decide) ?_
                  refine y_know (fun hy91 hy92 hy93 hy94 => ?_)
                  have hac9 : True := trivial
                  refine W.widen (k := 0) (n := 0) (by omega) (by omega) ?_
                  exact W.zret (v := 0) hx hb hr (rfl) (fun t ht hW => ⟨⟨0, (I27, T, A27, O, pl, (ln, s27, lm, cs27)), rfl, ⟨hmi, rfl, rfl, rfl, (((hfr.up (by decide) _).tr fr23 (by decide)).tr fr27 (by decide)), rfl, rfl, by dsimp only; omega, by dsimp only; omega, Or.inl rfl⟩, (by dsimp only; rw [ht]; exact ⟨hP, hD, hac9⟩)⟩, hS.F ht⟩) hS.2.2 d_Reader_unary_163
                · refine lv_if_eq (tgt := 162) hx hb d_Reader_unary_155 (by decide) (fun c30 => absurd c30 (by decide)) (fun _ => ?_)
                  refine lv_iconst (v := 1) hx hb d_Reader_unary_158 (by decide) ?_
                  refine lv_goto (tgt := 163) hx hb d_Reader_unary_159 (by decide) ?_
                  refine y_know (fun hy91 hy92 hy93 hy94 => ?_)
                  have hac9 : True := trivial
                  refine W.widen (k := 0) (n := 0) (by omega) (by omega) ?_
                  exact W.zret (v := 1) hx hb hr (rfl) (fun t ht hW => ⟨⟨1, (I27, T, A27, O, pl, (ln, s27, lm, cs27)), rfl, ⟨hmi, rfl, rfl, rfl, (((hfr.up (by decide) _).tr fr23 (by decide)).tr fr27 (by decide)), rfl, rfl, by dsimp only; omega, by dsimp only; omega, Or.inr rfl⟩, (by dsimp only; rw [ht]; exact ⟨hP, hD, hac9⟩)⟩, hS.F ht⟩) hS.2.2 d_Reader_unary_163
          · refine lv_iload_n hx hb d_Reader_unary_111 rfl (lv_at hl 2 rfl) ?_
            refine lv_bipush (v := 40) hx hb d_Reader_unary_112 (by decide) ?_
            refine lv_icmp_eq (tgt := 122) hx hb d_Reader_unary_114 (by decide) (fun c31 => ?_) (fun c31 => ?_)
            · have hlt : a1 < lm := by rw [ha0]; exact y_lk_lt (by rw [c31]; decide)
              refine lv_aload_n hx hb d_Reader_unary_122 rfl (lv_at hl 0 rfl) ?_
              refine lv_dup hx hb d_Reader_unary_123 rfl ?_
              refine k_g (C := "ChannelMachine$Reader") (F := F_Reader) (N := 9) hx hb hts i_Reader hown hK hP 1 5 (by decide) (by decide) rfl (by decide) (d := (1, 4)) rfl (hts _ k_49) (fun _ h9 => h9) (v := .int (Int32.ofNat a1)) (congrArg Value.int hmi.1.2.2.2) d_Reader_unary_124 ?_
              refine lv_iconst (v := 1) hx hb d_Reader_unary_127 (by decide) ?_
              refine lv_iadd hx hb d_Reader_unary_128 ?_
              refine W.eq (g2 := F0 m 129 ls [.int (Int32.ofNat (a1 + 1)), .ref (ad 1)]) (by rw [← x_addN (a := a1) (b := 1)] <;> rfl) ?_
              refine k_pi (C := "ChannelMachine$Reader") (F := F_Reader) (N := 9) hx hb hts i_Reader hown t_Reader t_Reader_ok n_Reader hK hP hD hS 1 5 (by decide) (by decide) rfl (by decide) (j := 4) (x := (Int32.ofNat (a1 + 1))) rfl (hts _ k_49) (fun _ h9 => h9) rfl (by decide +kernel) d_Reader_unary_129 (fun H locs hP hD hS => ?_)
              have hmi : y_RD (upd I1 4 (Int32.ofNat (a1 + 1))) A (ln, cl, lm, (a1 + 1)) := hmi.at4 (by omega)
              have hbn := hmi.2.1
              dsimp only at hbn
              refine lv_iload_n hx hb d_Reader_unary_132 rfl (lv_at hl 2 rfl) ?_
              refine lv_bipush (v := 40) hx hb d_Reader_unary_133 (by decide) ?_
              refine lv_icmp_ne (tgt := 164) hx hb d_Reader_unary_135 (by decide) (fun c32 => ?_) (fun c32 => ?_)
              · refine lv_aload_n hx hb d_Reader_unary_164 rfl (lv_at hl 0 rfl) ?_
                refine lv_iload_n hx hb d_Reader_unary_165 rfl (lv_at hl 1 rfl) ?_
                refine lv_iconst (v := 1) hx hb d_Reader_unary_166 (by decide) ?_
                refine lv_iadd hx hb d_Reader_unary_167 ?_
                refine W.eq (g2 := F0 m 168 ls [.int (Int32.ofNat (dp + 1)), .ref (ad 1)]) (by rw [← x_addN (a := dp) (b := 1)] <;> rfl) ?_
                have hFc := y_free hD hS hA
                refine va_calli (va_runV (As := [.int (Int32.ofNat (dp + 1))]) (rest := []) ⟨hx, hb, hml, hown, hts⟩ (ihU l dC dI ar N0 z ad (upd I1 4 (Int32.ofNat (a1 + 1))) T A O pl ln cl lm ((a1 + 1)) ((dp + 1)) H.size (y_hs H) hmi (by omega) (by omega) (by omega)) (cwV 1 hts (x_goodV k_508 k_510 kp_11 k_2 k_511) rfl rfl rfl (by decide +kernel) ⟨(by show nn + 5 + 1 ≤ nn + 1 + 5; omega), (by show 8 + (5 + 11) + (40 * nn + 120) ≤ 40 * (nn + 1) + 120; omega)⟩) ⟨y_blind, va_recv hK hP (ci := 3) (q0 := 1) rfl (y_W_ob (by decide) (by decide)), fun U9 hU9 hW9 => y_pre hU9 hW9 hP hD hU hZ hS hAN hN0⟩ rfl rfl hl.1 rfl (lv_room (Nat.le_of_ble_eq_true rfl)) d_Reader_unary_168 ⟨(by show 0 + (0) ≤ 0; omega), (by show 0 + (0) ≤ 0; omega)⟩) hS (fun q _ h => hFc q h) hFc (fun r_33 u t H1 locs ht hvm hw hB hz1 hk1 hS => ?_)
                obtain ⟨I34, T34, A34, O34, pl34, q34, s34, cq34, cs34⟩ := u
                dsimp only at hw hB
                rw [ht] at hB
                obtain ⟨hP, hD1, hac34⟩ := hB
                have hD : va_D Bq (y_W ad ar I34 T34 A34 O34 pl34) := hD1.weaken (fun _ q _ h => hFc q.1 h)
                generalize H1 = H at hP hS hac34 ⊢
                have hae34 := hac34
                try unfold y_ac at hae34
                try dsimp only at hae34
                refine W.widen (k := 0) (n := 0) (by omega) (by omega) ?_
                obtain ⟨hmi, e2, e4, e5, fr34, e6, e7, hge34, hcc34, hr9⟩ := hw
                rw [e2, e4, e5] at hP hD
                rw [e6, e7] at hmi
                have hP : va_P (dC, dI) y_cl (y_W ad ar I34 T A34 O pl) H := hP
                have hD : va_D Bq (y_W ad ar I34 T A34 O pl) := hD
                have hbn := hmi.2.1
                dsimp only at hbn
                rcases hr9 with rfl | rfl
                · refine lv_if_ne (tgt := 176) hx hb d_Reader_unary_171 (by decide) (fun c35 => absurd rfl c35) (fun _ => ?_)
                  refine lv_iconst (v := 0) hx hb d_Reader_unary_174 (by decide) ?_
                  refine y_know (fun hy91 hy92 hy93 hy94 => ?_)
                  have hac9 : True := trivial
                  refine W.widen (k := 0) (n := 0) (by omega) (by omega) ?_
                  exact W.zret (v := 0) hx hb hr (rfl) (fun t ht hW => ⟨⟨0, (I34, T, A34, O, pl, (ln, s34, lm, cs34)), rfl, ⟨hmi, rfl, rfl, rfl, ((hfr.up (by decide) _).tr fr34 (by decide)), rfl, rfl, by dsimp only; omega, by dsimp only; omega, Or.inl rfl⟩, (by dsimp only; rw [ht]; exact ⟨hP, hD, hac9⟩)⟩, hS.F ht⟩) hS.2.2 d_Reader_unary_175
                · refine lv_if_ne (tgt := 176) hx hb d_Reader_unary_171 (by decide) (fun _ => ?_) (fun c36 => absurd c36 (by decide))
                  refine lv_aload_n hx hb d_Reader_unary_176 rfl (lv_at hl 0 rfl) ?_
                  refine lv_iconst (v := (-1)) hx hb d_Reader_unary_177 (by decide) ?_
                  have hFc := y_free hD hS hA
                  refine va_callv (va_runV (As := [.int (-1)]) (rest := []) ⟨hx, hb, hml, hown, hts⟩ (c_Rd_write l dC dI ar N0 z ad I34 T A34 O pl ln s34 lm cs34 ((-1)) H.size (y_hs H) hmi (Or.inr (Or.inl rfl)) (by omega)) (cwV 1 hts (x_goodV k_515 k_517 kp_12 k_2 k_518) rfl rfl rfl (by decide +kernel) ⟨Nat.le_trans (m := 5) (Nat.le_of_ble_eq_true rfl) (Nat.le_add_left 5 _), Nat.le_trans (m := 120) (Nat.le_of_ble_eq_true rfl) (Nat.le_add_left 120 _)⟩) ⟨y_blind, va_recv hK hP (ci := 3) (q0 := 1) rfl (y_W_ob (by decide) (by decide)), fun U9 hU9 hW9 => y_pre hU9 hW9 hP hD hU hZ hS hAN hN0⟩ rfl rfl hl.1 rfl (lv_room (Nat.le_of_ble_eq_true rfl)) d_Reader_unary_178 ⟨(by show 0 + (0) ≤ 0; omega), (by show 0 + (0) ≤ 0; omega)⟩) hS (fun q _ h => hFc q h) hFc (fun u t H1 locs ht hvm hw hB hz1 hk1 hS => ?_)
                  obtain ⟨I37, T37, A37, O37, pl37, q37, s37, cq37, cs37⟩ := u
                  dsimp only at hw hB
                  rw [ht] at hB
                  obtain ⟨hP, hD1, hac37⟩ := hB
                  have hD : va_D Bq (y_W ad ar I37 T37 A37 O37 pl37) := hD1.weaken (fun _ q _ h => hFc q.1 h)
                  generalize H1 = H at hP hS hac37 ⊢
                  have hae37 := hac37
                  try unfold y_ac at hae37
                  try dsimp only at hae37
                  refine W.widen (k := 0) (n := 0) (by omega) (by omega) ?_
                  obtain ⟨hmi, e2, e4, e5, fr37, e6, e7, hge37, hcc37, hat9⟩ := hw
                  rw [e2, e4, e5] at hP hD
                  rw [e6, e7] at hmi
                  have hP : va_P (dC, dI) y_cl (y_W ad ar I37 T A37 O pl) H := hP
                  have hD : va_D Bq (y_W ad ar I37 T A37 O pl) := hD
                  have hbn := hmi.2.1
                  dsimp only at hbn
                  rw [hat9] at hmi
                  have hbn := hmi.2.1
                  dsimp only at hbn
                  refine lv_iconst (v := 1) hx hb d_Reader_unary_181 (by decide) ?_
                  refine y_know (fun hy91 hy92 hy93 hy94 => ?_)
                  have hac9 : True := trivial
                  refine W.widen (k := 0) (n := 0) (by omega) (by omega) ?_
                  exact W.zret (v := 1) hx hb hr (rfl) (fun t ht hW => ⟨⟨1, (I37, T, A37, O, pl, (ln, s37, lm, cs34)), rfl, ⟨hmi, rfl, rfl, rfl, (((hfr.up (by decide) _).tr fr34 (by decide)).tr fr37 (by decide)), rfl, rfl, by dsimp only; omega, by dsimp only; omega, Or.inr rfl⟩, (by dsimp only; rw [ht]; exact ⟨hP, hD, hac9⟩)⟩, hS.F ht⟩) hS.2.2 d_Reader_unary_182
              · refine lv_aload_n hx hb d_Reader_unary_138 rfl (lv_at hl 0 rfl) ?_
                refine lv_iconst (v := 0) hx hb d_Reader_unary_139 (by decide) ?_
                refine W.eq (g2 := F0 m 140 ls [.int (Int32.ofNat 0), .ref (ad 1)]) rfl ?_
                refine lv_iload_n hx hb d_Reader_unary_140 rfl (lv_at hl 1 rfl) ?_
                refine lv_iconst (v := 1) hx hb d_Reader_unary_141 (by decide) ?_
                refine lv_iadd hx hb d_Reader_unary_142 ?_
                refine W.eq (g2 := F0 m 143 ls [.int (Int32.ofNat (dp + 1)), .int (Int32.ofNat 0), .ref (ad 1)]) (by rw [← x_addN (a := dp) (b := 1)] <;> rfl) ?_
                have hFc := y_free hD hS hA
                refine va_calli (va_runV (As := [.int (Int32.ofNat 0), .int (Int32.ofNat (dp + 1))]) (rest := []) ⟨hx, hb, hml, hown, hts⟩ (ihJ l dC dI ar N0 z ad (upd I1 4 (Int32.ofNat (a1 + 1))) T A O pl ln cl lm ((a1 + 1)) 0 ((dp + 1)) H.size (y_hs H) hmi (by omega) (by omega) (by omega) (by omega)) (cwV 2 hts (x_goodV k_504 k_506 kp_10 k_2 k_507) rfl rfl rfl (by decide +kernel) ⟨(by show nn + 5 + 1 ≤ nn + 1 + 5; omega), (by show 8 + (6 + 11) + (40 * nn + 120) ≤ 40 * (nn + 1) + 120; omega)⟩) ⟨y_blind, va_recv hK hP (ci := 3) (q0 := 1) rfl (y_W_ob (by decide) (by decide)), fun U9 hU9 hW9 => y_pre hU9 hW9 hP hD hU hZ hS hAN hN0⟩ rfl rfl hl.1 rfl (lv_room (Nat.le_of_ble_eq_true rfl)) d_Reader_unary_143 ⟨(by show 0 + (0) ≤ 0; omega), (by show 0 + (0) ≤ 0; omega)⟩) hS (fun q _ h => hFc q h) hFc (fun r_38 u t H1 locs ht hvm hw hB hz1 hk1 hS => ?_)
                obtain ⟨I39, T39, A39, O39, pl39, q39, s39, cq39, cs39⟩ := u
                dsimp only at hw hB
                rw [ht] at hB
                obtain ⟨hP, hD1, hac39⟩ := hB
                have hD : va_D Bq (y_W ad ar I39 T39 A39 O39 pl39) := hD1.weaken (fun _ q _ h => hFc q.1 h)
                generalize H1 = H at hP hS hac39 ⊢
                have hae39 := hac39
                try unfold y_ac at hae39
                try dsimp only at hae39
                refine W.widen (k := 0) (n := 0) (by omega) (by omega) ?_
                obtain ⟨hmi, e2, e4, e5, fr39, e6, e7, hge39, hcc39, hr9⟩ := hw
                rw [e2, e4, e5] at hP hD
                rw [e6, e7] at hmi
                have hP : va_P (dC, dI) y_cl (y_W ad ar I39 T A39 O pl) H := hP
                have hD : va_D Bq (y_W ad ar I39 T A39 O pl) := hD
                have hbn := hmi.2.1
                dsimp only at hbn
                rcases hr9 with rfl | rfl
                · refine lv_if_eq (tgt := 162) hx hb d_Reader_unary_146 (by decide) (fun _ => ?_) (fun c40 => absurd (by decide) c40)
                  refine lv_iconst (v := 0) hx hb d_Reader_unary_162 (by decide) ?_
                  refine y_know (fun hy91 hy92 hy93 hy94 => ?_)
                  have hac9 : True := trivial
                  refine W.widen (k := 0) (n := 0) (by omega) (by omega) ?_
                  exact W.zret (v := 0) hx hb hr (rfl) (fun t ht hW => ⟨⟨0, (I39, T, A39, O, pl, (ln, s39, lm, cs39)), rfl, ⟨hmi, rfl, rfl, rfl, ((hfr.up (by decide) _).tr fr39 (by decide)), rfl, rfl, by dsimp only; omega, by dsimp only; omega, Or.inl rfl⟩, (by dsimp only; rw [ht]; exact ⟨hP, hD, hac9⟩)⟩, hS.F ht⟩) hS.2.2 d_Reader_unary_163
                · refine lv_if_eq (tgt := 162) hx hb d_Reader_unary_146 (by decide) (fun c41 => absurd c41 (by decide)) (fun _ => ?_)
                  refine lv_aload_n hx hb d_Reader_unary_149 rfl (lv_at hl 0 rfl) ?_
                  refine lv_bipush (v := 41) hx hb d_Reader_unary_150 (by decide) ?_
                  have hFc := y_free hD hS hA
                  refine va_calli (va_runV (As := [.int 41]) (rest := []) ⟨hx, hb, hml, hown, hts⟩ (c_Rd_expect l dC dI ar N0 z ad I39 T A39 O pl ln s39 lm cs39 (41) H.size (y_hs H) hmi (by decide)) (cwV 1 hts (x_goodV k_492 k_494 kp_7 k_2 k_495) rfl rfl rfl (by decide +kernel) ⟨Nat.le_trans (m := 5) (Nat.le_of_ble_eq_true rfl) (Nat.le_add_left 5 _), Nat.le_trans (m := 120) (Nat.le_of_ble_eq_true rfl) (Nat.le_add_left 120 _)⟩) ⟨y_blind, va_recv hK hP (ci := 3) (q0 := 1) rfl (y_W_ob (by decide) (by decide)), fun U9 hU9 hW9 => y_pre hU9 hW9 hP hD hU hZ hS hAN hN0⟩ rfl rfl hl.1 rfl (lv_room (Nat.le_of_ble_eq_true rfl)) d_Reader_unary_152 ⟨(by show 0 + (0) ≤ 0; omega), (by show 0 + (0) ≤ 0; omega)⟩) hS (fun q _ h => hFc q h) hFc (fun r_42 u t H1 locs ht hvm hw hB hz1 hk1 hS => ?_)
                  obtain ⟨I43, T43, A43, O43, pl43, q43, s43, cq43, cs43⟩ := u
                  dsimp only at hw hB
                  rw [ht] at hB
                  obtain ⟨hP, hD1, hac43⟩ := hB
                  have hD : va_D Bq (y_W ad ar I43 T43 A43 O43 pl43) := hD1.weaken (fun _ q _ h => hFc q.1 h)
                  generalize H1 = H at hP hS hac43 ⊢
                  have hae43 := hac43
                  try unfold y_ac at hae43
                  try dsimp only at hae43
                  refine W.widen (k := 0) (n := 0) (by omega) (by omega) ?_
                  obtain ⟨hmi, e2, e4, e5, fr43, e6, e7, hge43, hcc43, hr9⟩ := hw
                  rw [e2, e4, e5] at hP hD
                  rw [e6, e7] at hmi
                  have hP : va_P (dC, dI) y_cl (y_W ad ar I43 T A43 O pl) H := hP
                  have hD : va_D Bq (y_W ad ar I43 T A43 O pl) := hD
                  have hbn := hmi.2.1
                  dsimp only at hbn
                  rcases hr9 with rfl | ⟨rfl, hex44⟩
                  · refine lv_if_eq (tgt := 162) hx hb d_Reader_unary_155 (by decide) (fun _ => ?_) (fun c45 => absurd (by decide) c45)
                    refine lv_iconst (v := 0) hx hb d_Reader_unary_162 (by decide) ?_
                    refine y_know (fun hy91 hy92 hy93 hy94 => ?_)
                    have hac9 : True := trivial
                    refine W.widen (k := 0) (n := 0) (by omega) (by omega) ?_
                    exact W.zret (v := 0) hx hb hr (rfl) (fun t ht hW => ⟨⟨0, (I43, T, A43, O, pl, (ln, s43, lm, cs43)), rfl, ⟨hmi, rfl, rfl, rfl, (((hfr.up (by decide) _).tr fr39 (by decide)).tr fr43 (by decide)), rfl, rfl, by dsimp only; omega, by dsimp only; omega, Or.inl rfl⟩, (by dsimp only; rw [ht]; exact ⟨hP, hD, hac9⟩)⟩, hS.F ht⟩) hS.2.2 d_Reader_unary_163
                  · refine lv_if_eq (tgt := 162) hx hb d_Reader_unary_155 (by decide) (fun c46 => absurd c46 (by decide)) (fun _ => ?_)
                    refine lv_iconst (v := 1) hx hb d_Reader_unary_158 (by decide) ?_
                    refine lv_goto (tgt := 163) hx hb d_Reader_unary_159 (by decide) ?_
                    refine y_know (fun hy91 hy92 hy93 hy94 => ?_)
                    have hac9 : True := trivial
                    refine W.widen (k := 0) (n := 0) (by omega) (by omega) ?_
                    exact W.zret (v := 1) hx hb hr (rfl) (fun t ht hW => ⟨⟨1, (I43, T, A43, O, pl, (ln, s43, lm, cs43)), rfl, ⟨hmi, rfl, rfl, rfl, (((hfr.up (by decide) _).tr fr39 (by decide)).tr fr43 (by decide)), rfl, rfl, by dsimp only; omega, by dsimp only; omega, Or.inr rfl⟩, (by dsimp only; rw [ht]; exact ⟨hP, hD, hac9⟩)⟩, hS.F ht⟩) hS.2.2 d_Reader_unary_163
            · refine lv_aload_n hx hb d_Reader_unary_117 rfl (lv_at hl 0 rfl) ?_
              have hFc := y_free hD hS hA
              refine va_calli (va_runV (As := []) (rest := []) ⟨hx, hb, hml, hown, hts⟩ (c_Rd_refuse l dC dI ar N0 z ad I1 T A O pl ln cl lm a1 H.size (y_hs H) hmi) (cwV 0 hts (x_goodV k_477 k_479 kp_6 k_2 k_480) rfl rfl rfl (by decide +kernel) ⟨Nat.le_trans (m := 5) (Nat.le_of_ble_eq_true rfl) (Nat.le_add_left 5 _), Nat.le_trans (m := 120) (Nat.le_of_ble_eq_true rfl) (Nat.le_add_left 120 _)⟩) ⟨y_blind, va_recv hK hP (ci := 3) (q0 := 1) rfl (y_W_ob (by decide) (by decide)), fun U9 hU9 hW9 => y_pre hU9 hW9 hP hD hU hZ hS hAN hN0⟩ rfl rfl hl.1 rfl (lv_room (Nat.le_of_ble_eq_true rfl)) d_Reader_unary_118 ⟨(by show 0 + (0) ≤ 0; omega), (by show 0 + (0) ≤ 0; omega)⟩) hS (fun q _ h => hFc q h) hFc (fun r_47 u t H1 locs ht hvm hw hB hz1 hk1 hS => ?_)
              obtain ⟨I48, T48, A48, O48, pl48, q48, s48, cq48, cs48⟩ := u
              dsimp only at hw hB
              rw [ht] at hB
              obtain ⟨hP, hD1, hac48⟩ := hB
              have hD : va_D Bq (y_W ad ar I48 T48 A48 O48 pl48) := hD1.weaken (fun _ q _ h => hFc q.1 h)
              generalize H1 = H at hP hS hac48 ⊢
              have hae48 := hac48
              try unfold y_ac at hae48
              try dsimp only at hae48
              refine W.widen (k := 0) (n := 0) (by omega) (by omega) ?_
              obtain ⟨hmi, e2, e4, e5, fr48, e6, e7, hge48, hcc48, hr9⟩ := hw
              rw [e2, e4, e5] at hP hD
              rw [e6, e7] at hmi
              have hP : va_P (dC, dI) y_cl (y_W ad ar I48 T A48 O pl) H := hP
              have hD : va_D Bq (y_W ad ar I48 T A48 O pl) := hD
              have hbn := hmi.2.1
              dsimp only at hbn
              obtain rfl := hr9
              refine y_know (fun hy91 hy92 hy93 hy94 => ?_)
              have hac9 : True := trivial
              refine W.widen (k := 0) (n := 0) (by omega) (by omega) ?_
              exact W.zret (v := 0) hx hb hr (rfl) (fun t ht hW => ⟨⟨0, (I48, T, A48, O, pl, (ln, s48, lm, cs48)), rfl, ⟨hmi, rfl, rfl, rfl, (hfr.tr fr48 (by decide)), rfl, rfl, by dsimp only; omega, by dsimp only; omega, Or.inl rfl⟩, (by dsimp only; rw [ht]; exact ⟨hP, hD, hac9⟩)⟩, hS.F ht⟩) hS.2.2 d_Reader_unary_121
      · refine lv_if_eq (tgt := 100) hx hb d_Reader_unary_73 (by decide) (fun c49 => absurd c49 (by decide)) (fun _ => ?_)
        obtain ⟨e8, hv1, hv2, hv3⟩ := y_rg (lo := 97) (hi := 102) hr10.1 hr10.2 (by decide) (by decide)
        have hlt : a1 < lm := by rw [ha0]; exact y_lk_lo hr10.1 (by decide)
        rw [hv3] at hl
        have hl : lv_has ls 5 [(0, .ref (ad 1)), (1, .int (Int32.ofNat dp)), (2, .int (Int32.ofNat e8)), (3, .int (Int32.ofNat k1)), (4, .int (Int32.ofNat i1))] := hl
        refine lv_aload_n hx hb d_Reader_unary_76 rfl (lv_at hl 0 rfl) ?_
        refine lv_sipush (v := 1000) hx hb d_Reader_unary_77 (by decide) ?_
        refine lv_iload_n hx hb d_Reader_unary_80 rfl (lv_at hl 2 rfl) ?_
        refine W.eq (g2 := F0 m 81 ls [.int (Int32.ofNat e8), .int (Int32.ofNat 1000), .ref (ad 1)]) rfl ?_
        refine lv_iadd hx hb d_Reader_unary_81 ?_
        refine W.eq (g2 := F0 m 82 ls [.int (Int32.ofNat (1000 + e8)), .ref (ad 1)]) (by rw [← x_addN (a := 1000) (b := e8)] <;> rfl) ?_
        refine lv_bipush (v := 97) hx hb d_Reader_unary_82 (by decide) ?_
        refine lv_isub hx hb d_Reader_unary_84 ?_
        refine W.eq (g2 := F0 m 85 ls [.int (Int32.ofNat ((1000 + e8) - 97)), .ref (ad 1)]) (by rw [← x_subN (a := (1000 + e8)) (b := 97) (by omega)] <;> rfl) ?_
        have hFc := y_free hD hS hA
        refine va_callv (va_runV (As := [.int (Int32.ofNat ((1000 + e8) - 97))]) (rest := []) ⟨hx, hb, hml, hown, hts⟩ (c_Rd_write l dC dI ar N0 z ad I1 T A O pl ln cl lm a1 ((Int32.ofNat ((1000 + e8) - 97))) H.size (y_hs H) hmi (Or.inl (x_nneg (by omega))) (by omega)) (cwV 1 hts (x_goodV k_515 k_517 kp_12 k_2 k_518) rfl rfl rfl (by decide +kernel) ⟨Nat.le_trans (m := 5) (Nat.le_of_ble_eq_true rfl) (Nat.le_add_left 5 _), Nat.le_trans (m := 120) (Nat.le_of_ble_eq_true rfl) (Nat.le_add_left 120 _)⟩) ⟨y_blind, va_recv hK hP (ci := 3) (q0 := 1) rfl (y_W_ob (by decide) (by decide)), fun U9 hU9 hW9 => y_pre hU9 hW9 hP hD hU hZ hS hAN hN0⟩ rfl rfl hl.1 rfl (lv_room (Nat.le_of_ble_eq_true rfl)) d_Reader_unary_85 ⟨(by show 0 + (0) ≤ 0; omega), (by show 0 + (0) ≤ 0; omega)⟩) hS (fun q _ h => hFc q h) hFc (fun u t H1 locs ht hvm hw hB hz1 hk1 hS => ?_)
        obtain ⟨I50, T50, A50, O50, pl50, q50, s50, cq50, cs50⟩ := u
        dsimp only at hw hB
        rw [ht] at hB
        obtain ⟨hP, hD1, hac50⟩ := hB
        have hD : va_D Bq (y_W ad ar I50 T50 A50 O50 pl50) := hD1.weaken (fun _ q _ h => hFc q.1 h)
        generalize H1 = H at hP hS hac50 ⊢
        have hae50 := hac50
        try unfold y_ac at hae50
        try dsimp only at hae50
        refine W.widen (k := 0) (n := 0) (by omega) (by omega) ?_
        obtain ⟨hmi, e2, e4, e5, fr50, e6, e7, hge50, hcc50, hat9⟩ := hw
        rw [e2, e4, e5] at hP hD
        rw [e6, e7] at hmi
        have hP : va_P (dC, dI) y_cl (y_W ad ar I50 T A50 O pl) H := hP
        have hD : va_D Bq (y_W ad ar I50 T A50 O pl) := hD
        have hbn := hmi.2.1
        dsimp only at hbn
        rw [hat9] at hmi
        have hbn := hmi.2.1
        dsimp only at hbn
        refine lv_aload_n hx hb d_Reader_unary_88 rfl (lv_at hl 0 rfl) ?_
        refine lv_dup hx hb d_Reader_unary_89 rfl ?_
        refine k_g (C := "ChannelMachine$Reader") (F := F_Reader) (N := 9) hx hb hts i_Reader hown hK hP 1 5 (by decide) (by decide) rfl (by decide) (d := (1, 4)) rfl (hts _ k_49) (fun _ h9 => h9) (v := .int (Int32.ofNat a1)) (congrArg Value.int hmi.1.2.2.2) d_Reader_unary_90 ?_
        refine lv_iconst (v := 1) hx hb d_Reader_unary_93 (by decide) ?_
        refine lv_iadd hx hb d_Reader_unary_94 ?_
        refine W.eq (g2 := F0 m 95 ls [.int (Int32.ofNat (a1 + 1)), .ref (ad 1)]) (by rw [← x_addN (a := a1) (b := 1)] <;> rfl) ?_
        refine k_pi (C := "ChannelMachine$Reader") (F := F_Reader) (N := 9) hx hb hts i_Reader hown t_Reader t_Reader_ok n_Reader hK hP hD hS 1 5 (by decide) (by decide) rfl (by decide) (j := 4) (x := (Int32.ofNat (a1 + 1))) rfl (hts _ k_49) (fun _ h9 => h9) rfl (by decide +kernel) d_Reader_unary_95 (fun H locs hP hD hS => ?_)
        have hmi : y_RD (upd I50 4 (Int32.ofNat (a1 + 1))) A50 (ln, s50, lm, (a1 + 1)) := hmi.at4 (by omega)
        have hbn := hmi.2.1
        dsimp only at hbn
        refine lv_iconst (v := 1) hx hb d_Reader_unary_98 (by decide) ?_
        refine y_know (fun hy91 hy92 hy93 hy94 => ?_)
        have hac9 : True := trivial
        refine W.widen (k := 0) (n := 0) (by omega) (by omega) ?_
        exact W.zret (v := 1) hx hb hr (rfl) (fun t ht hW => ⟨⟨1, ((upd I50 4 (Int32.ofNat (a1 + 1))), T, A50, O, pl, (ln, s50, lm, (a1 + 1))), rfl, ⟨hmi, rfl, rfl, rfl, ((hfr.tr fr50 (by decide)).up (by decide) _), rfl, rfl, by dsimp only; omega, by dsimp only; omega, Or.inr rfl⟩, (by dsimp only; rw [ht]; exact ⟨hP, hD, hac9⟩)⟩, hS.F ht⟩) hS.2.2 d_Reader_unary_99
    · refine lv_if_eq (tgt := 69) hx hb d_Reader_unary_59 (by decide) (fun c51 => absurd c51 (by decide)) (fun _ => ?_)
      refine lv_aload_n hx hb d_Reader_unary_62 rfl (lv_at hl 0 rfl) ?_
      refine lv_iload_n hx hb d_Reader_unary_63 rfl (lv_at hl 3 rfl) ?_
      have hFc := y_free hD hS hA
      refine va_callv (va_runV (As := [.int (Int32.ofNat k1)]) (rest := []) ⟨hx, hb, hml, hown, hts⟩ (c_Rd_write l dC dI ar N0 z ad I1 T A O pl ln cl lm a1 ((Int32.ofNat k1)) H.size (y_hs H) hmi (Or.inl (x_nneg (by omega))) (by omega)) (cwV 1 hts (x_goodV k_515 k_517 kp_12 k_2 k_518) rfl rfl rfl (by decide +kernel) ⟨Nat.le_trans (m := 5) (Nat.le_of_ble_eq_true rfl) (Nat.le_add_left 5 _), Nat.le_trans (m := 120) (Nat.le_of_ble_eq_true rfl) (Nat.le_add_left 120 _)⟩) ⟨y_blind, va_recv hK hP (ci := 3) (q0 := 1) rfl (y_W_ob (by decide) (by decide)), fun U9 hU9 hW9 => y_pre hU9 hW9 hP hD hU hZ hS hAN hN0⟩ rfl rfl hl.1 rfl (lv_room (Nat.le_of_ble_eq_true rfl)) d_Reader_unary_64 ⟨(by show 0 + (0) ≤ 0; omega), (by show 0 + (0) ≤ 0; omega)⟩) hS (fun q _ h => hFc q h) hFc (fun u t H1 locs ht hvm hw hB hz1 hk1 hS => ?_)
      obtain ⟨I52, T52, A52, O52, pl52, q52, s52, cq52, cs52⟩ := u
      dsimp only at hw hB
      rw [ht] at hB
      obtain ⟨hP, hD1, hac52⟩ := hB
      have hD : va_D Bq (y_W ad ar I52 T52 A52 O52 pl52) := hD1.weaken (fun _ q _ h => hFc q.1 h)
      generalize H1 = H at hP hS hac52 ⊢
      have hae52 := hac52
      try unfold y_ac at hae52
      try dsimp only at hae52
      refine W.widen (k := 0) (n := 0) (by omega) (by omega) ?_
      obtain ⟨hmi, e2, e4, e5, fr52, e6, e7, hge52, hcc52, hat9⟩ := hw
      rw [e2, e4, e5] at hP hD
      rw [e6, e7] at hmi
      have hP : va_P (dC, dI) y_cl (y_W ad ar I52 T A52 O pl) H := hP
      have hD : va_D Bq (y_W ad ar I52 T A52 O pl) := hD
      have hbn := hmi.2.1
      dsimp only at hbn
      rw [hat9] at hmi
      have hbn := hmi.2.1
      dsimp only at hbn
      refine lv_iconst (v := 1) hx hb d_Reader_unary_67 (by decide) ?_
      refine y_know (fun hy91 hy92 hy93 hy94 => ?_)
      have hac9 : True := trivial
      refine W.widen (k := 0) (n := 0) (by omega) (by omega) ?_
      exact W.zret (v := 1) hx hb hr (rfl) (fun t ht hW => ⟨⟨1, (I52, T, A52, O, pl, (ln, s52, lm, a1)), rfl, ⟨hmi, rfl, rfl, rfl, (hfr.tr fr52 (by decide)), rfl, rfl, by dsimp only; omega, by dsimp only; omega, Or.inr rfl⟩, (by dsimp only; rw [ht]; exact ⟨hP, hD, hac9⟩)⟩, hS.F ht⟩) hS.2.2 d_Reader_unary_68
  · have c_3 : ¬ 3 ≤ i1 := fun h9 => c_3 ((x_leN (a := 3) (b := i1) (by omega) (by omega)).mpr h9)
    refine lv_aload_n hx hb d_Reader_unary_16 rfl (lv_at hl 0 rfl) ?_
    have hFc := y_free hD hS hA
    refine va_calli (va_runV (As := []) (rest := []) ⟨hx, hb, hml, hown, hts⟩ (c_Rd_look l dC dI ar N0 z ad I1 T A O pl ln cl lm a1 H.size (y_hs H) hmi) (cwV 0 hts (x_goodV k_338 k_340 kp_3 k_2 k_341) rfl rfl rfl (by decide +kernel) ⟨Nat.le_trans (m := 5) (Nat.le_of_ble_eq_true rfl) (Nat.le_add_left 5 _), Nat.le_trans (m := 120) (Nat.le_of_ble_eq_true rfl) (Nat.le_add_left 120 _)⟩) ⟨y_blind, va_recv hK hP (ci := 3) (q0 := 1) rfl (y_W_ob (by decide) (by decide)), fun U9 hU9 hW9 => y_pre hU9 hW9 hP hD hU hZ hS hAN hN0⟩ rfl rfl hl.1 rfl (lv_room (Nat.le_of_ble_eq_true rfl)) d_Reader_unary_17 ⟨(by show 0 + (0) ≤ 0; omega), (by show 0 + (0) ≤ 0; omega)⟩) hS (fun q _ h => hFc q h) hFc (fun r_53 u t H1 locs ht hvm hw hB hz1 hk1 hS => ?_)
    obtain ⟨I54, T54, A54, O54, pl54, q54, s54, cq54, cs54⟩ := u
    dsimp only at hw hB
    rw [ht] at hB
    obtain ⟨hP, hD1, hac54⟩ := hB
    have hD : va_D Bq (y_W ad ar I54 T54 A54 O54 pl54) := hD1.weaken (fun _ q _ h => hFc q.1 h)
    generalize H1 = H at hP hS hac54 ⊢
    have hae54 := hac54
    try unfold y_ac at hae54
    try dsimp only at hae54
    refine W.widen (k := 0) (n := 0) (by omega) (by omega) ?_
    obtain ⟨h9, hw⟩ := hw
    cases h9
    obtain rfl := hw
    have hFc := y_free hD hS hA
    refine va_calli (va_runS (As := [.int (y_lk A lm a1)]) (rest := []) ⟨hx, hb, hml, hown, hts⟩ (c_Rd_isDigit l dC dI ar N0 z ad I1 T A O pl ((y_lk A lm a1)) H.size (y_hs H) ) (cwS 1 hts (x_goodS k_512 k_513 k_2 k_514) rfl rfl rfl (by decide +kernel) ⟨Nat.le_trans (m := 5) (Nat.le_of_ble_eq_true rfl) (Nat.le_add_left 5 _), Nat.le_trans (m := 120) (Nat.le_of_ble_eq_true rfl) (Nat.le_add_left 120 _)⟩) ⟨y_blind, fun U9 hU9 hW9 => y_pre hU9 hW9 hP hD hU hZ hS hAN hN0⟩ rfl rfl hl.1 rfl (lv_room (Nat.le_of_ble_eq_true rfl)) d_Reader_unary_20 ⟨(by show 0 + (0) ≤ 0; omega), (by show 0 + (0) ≤ 0; omega)⟩) hS (fun q _ h => hFc q h) hFc (fun r_55 u t H1 locs ht hvm hw hB hz1 hk1 hS => ?_)
    obtain ⟨I56, T56, A56, O56, pl56, q56, s56, cq56, cs56⟩ := u
    dsimp only at hw hB
    rw [ht] at hB
    obtain ⟨hP, hD1, hac56⟩ := hB
    have hD : va_D Bq (y_W ad ar I56 T56 A56 O56 pl56) := hD1.weaken (fun _ q _ h => hFc q.1 h)
    generalize H1 = H at hP hS hac56 ⊢
    have hae56 := hac56
    try unfold y_ac at hae56
    try dsimp only at hae56
    refine W.widen (k := 0) (n := 0) (by omega) (by omega) ?_
    obtain ⟨h9, hw⟩ := hw
    cases h9
    rcases hw with ⟨rfl, hr57⟩ | ⟨rfl, hr57⟩
    · refine lv_if_eq (tgt := 55) hx hb d_Reader_unary_23 (by decide) (fun _ => ?_) (fun c58 => absurd (by decide) c58)
      refine lv_iload_n hx hb d_Reader_unary_55 rfl (lv_at hl 2 rfl) ?_
      have hFc := y_free hD hS hA
      refine va_calli (va_runS (As := [.int (y_lk A lm aa)]) (rest := []) ⟨hx, hb, hml, hown, hts⟩ (c_Rd_isDigit l dC dI ar N0 z ad I1 T A O pl ((y_lk A lm aa)) H.size (y_hs H) ) (cwS 1 hts (x_goodS k_512 k_513 k_2 k_514) rfl rfl rfl (by decide +kernel) ⟨Nat.le_trans (m := 5) (Nat.le_of_ble_eq_true rfl) (Nat.le_add_left 5 _), Nat.le_trans (m := 120) (Nat.le_of_ble_eq_true rfl) (Nat.le_add_left 120 _)⟩) ⟨y_blind, fun U9 hU9 hW9 => y_pre hU9 hW9 hP hD hU hZ hS hAN hN0⟩ rfl rfl hl.1 rfl (lv_room (Nat.le_of_ble_eq_true rfl)) d_Reader_unary_56 ⟨(by show 0 + (0) ≤ 0; omega), (by show 0 + (0) ≤ 0; omega)⟩) hS (fun q _ h => hFc q h) hFc (fun r_59 u t H1 locs ht hvm hw hB hz1 hk1 hS => ?_)
      obtain ⟨I60, T60, A60, O60, pl60, q60, s60, cq60, cs60⟩ := u
      dsimp only at hw hB
      rw [ht] at hB
      obtain ⟨hP, hD1, hac60⟩ := hB
      have hD : va_D Bq (y_W ad ar I60 T60 A60 O60 pl60) := hD1.weaken (fun _ q _ h => hFc q.1 h)
      generalize H1 = H at hP hS hac60 ⊢
      have hae60 := hac60
      try unfold y_ac at hae60
      try dsimp only at hae60
      refine W.widen (k := 0) (n := 0) (by omega) (by omega) ?_
      obtain ⟨h9, hw⟩ := hw
      cases h9
      rcases hw with ⟨rfl, hr61⟩ | ⟨rfl, hr61⟩
      · refine lv_if_eq (tgt := 69) hx hb d_Reader_unary_59 (by decide) (fun _ => ?_) (fun c62 => absurd (by decide) c62)
        have ha0 : a1 = aa := y_dg0 hKK hr61
        refine lv_iload_n hx hb d_Reader_unary_69 rfl (lv_at hl 2 rfl) ?_
        have hFc := y_free hD hS hA
        refine va_calli (va_runS (As := [.int (y_lk A lm aa)]) (rest := []) ⟨hx, hb, hml, hown, hts⟩ (c_Rd_isVariable l dC dI ar N0 z ad I1 T A O pl ((y_lk A lm aa)) H.size (y_hs H) ) (cwS 1 hts (x_goodS k_369 k_370 k_2 k_371) rfl rfl rfl (by decide +kernel) ⟨Nat.le_trans (m := 5) (Nat.le_of_ble_eq_true rfl) (Nat.le_add_left 5 _), Nat.le_trans (m := 120) (Nat.le_of_ble_eq_true rfl) (Nat.le_add_left 120 _)⟩) ⟨y_blind, fun U9 hU9 hW9 => y_pre hU9 hW9 hP hD hU hZ hS hAN hN0⟩ rfl rfl hl.1 rfl (lv_room (Nat.le_of_ble_eq_true rfl)) d_Reader_unary_70 ⟨(by show 0 + (0) ≤ 0; omega), (by show 0 + (0) ≤ 0; omega)⟩) hS (fun q _ h => hFc q h) hFc (fun r_63 u t H1 locs ht hvm hw hB hz1 hk1 hS => ?_)
        obtain ⟨I64, T64, A64, O64, pl64, q64, s64, cq64, cs64⟩ := u
        dsimp only at hw hB
        rw [ht] at hB
        obtain ⟨hP, hD1, hac64⟩ := hB
        have hD : va_D Bq (y_W ad ar I64 T64 A64 O64 pl64) := hD1.weaken (fun _ q _ h => hFc q.1 h)
        generalize H1 = H at hP hS hac64 ⊢
        have hae64 := hac64
        try unfold y_ac at hae64
        try dsimp only at hae64
        refine W.widen (k := 0) (n := 0) (by omega) (by omega) ?_
        obtain ⟨h9, hw⟩ := hw
        cases h9
        rcases hw with ⟨rfl, hr65⟩ | ⟨rfl, hr65⟩
        · refine lv_if_eq (tgt := 100) hx hb d_Reader_unary_73 (by decide) (fun _ => ?_) (fun c66 => absurd (by decide) c66)
          refine lv_iload_n hx hb d_Reader_unary_100 rfl (lv_at hl 1 rfl) ?_
          refine lv_iconst (v := 5) hx hb d_Reader_unary_101 (by decide) ?_
          refine lv_icmp_ge (tgt := 117) hx hb d_Reader_unary_102 (by decide) (fun c_67 => ?_) (fun c_67 => ?_)
          · have c_67 : 5 ≤ dp := (x_leN (a := 5) (b := dp) (by omega) (by omega)).mp c_67
            refine lv_aload_n hx hb d_Reader_unary_117 rfl (lv_at hl 0 rfl) ?_
            have hFc := y_free hD hS hA
            refine va_calli (va_runV (As := []) (rest := []) ⟨hx, hb, hml, hown, hts⟩ (c_Rd_refuse l dC dI ar N0 z ad I1 T A O pl ln cl lm a1 H.size (y_hs H) hmi) (cwV 0 hts (x_goodV k_477 k_479 kp_6 k_2 k_480) rfl rfl rfl (by decide +kernel) ⟨Nat.le_trans (m := 5) (Nat.le_of_ble_eq_true rfl) (Nat.le_add_left 5 _), Nat.le_trans (m := 120) (Nat.le_of_ble_eq_true rfl) (Nat.le_add_left 120 _)⟩) ⟨y_blind, va_recv hK hP (ci := 3) (q0 := 1) rfl (y_W_ob (by decide) (by decide)), fun U9 hU9 hW9 => y_pre hU9 hW9 hP hD hU hZ hS hAN hN0⟩ rfl rfl hl.1 rfl (lv_room (Nat.le_of_ble_eq_true rfl)) d_Reader_unary_118 ⟨(by show 0 + (0) ≤ 0; omega), (by show 0 + (0) ≤ 0; omega)⟩) hS (fun q _ h => hFc q h) hFc (fun r_68 u t H1 locs ht hvm hw hB hz1 hk1 hS => ?_)
            obtain ⟨I69, T69, A69, O69, pl69, q69, s69, cq69, cs69⟩ := u
            dsimp only at hw hB
            rw [ht] at hB
            obtain ⟨hP, hD1, hac69⟩ := hB
            have hD : va_D Bq (y_W ad ar I69 T69 A69 O69 pl69) := hD1.weaken (fun _ q _ h => hFc q.1 h)
            generalize H1 = H at hP hS hac69 ⊢
            have hae69 := hac69
            try unfold y_ac at hae69
            try dsimp only at hae69
            refine W.widen (k := 0) (n := 0) (by omega) (by omega) ?_
            obtain ⟨hmi, e2, e4, e5, fr69, e6, e7, hge69, hcc69, hr9⟩ := hw
            rw [e2, e4, e5] at hP hD
            rw [e6, e7] at hmi
            have hP : va_P (dC, dI) y_cl (y_W ad ar I69 T A69 O pl) H := hP
            have hD : va_D Bq (y_W ad ar I69 T A69 O pl) := hD
            have hbn := hmi.2.1
            dsimp only at hbn
            obtain rfl := hr9
            refine y_know (fun hy91 hy92 hy93 hy94 => ?_)
            have hac9 : True := trivial
            refine W.widen (k := 0) (n := 0) (by omega) (by omega) ?_
            exact W.zret (v := 0) hx hb hr (rfl) (fun t ht hW => ⟨⟨0, (I69, T, A69, O, pl, (ln, s69, lm, cs69)), rfl, ⟨hmi, rfl, rfl, rfl, (hfr.tr fr69 (by decide)), rfl, rfl, by dsimp only; omega, by dsimp only; omega, Or.inl rfl⟩, (by dsimp only; rw [ht]; exact ⟨hP, hD, hac9⟩)⟩, hS.F ht⟩) hS.2.2 d_Reader_unary_121
          · have c_67 : ¬ 5 ≤ dp := fun h9 => c_67 ((x_leN (a := 5) (b := dp) (by omega) (by omega)).mpr h9)
            refine lv_iload_n hx hb d_Reader_unary_105 rfl (lv_at hl 2 rfl) ?_
            refine lv_bipush (v := 45) hx hb d_Reader_unary_106 (by decide) ?_
            refine lv_icmp_eq (tgt := 122) hx hb d_Reader_unary_108 (by decide) (fun c70 => ?_) (fun c70 => ?_)
            · have hlt : a1 < lm := by rw [ha0]; exact y_lk_lt (by rw [c70]; decide)
              refine lv_aload_n hx hb d_Reader_unary_122 rfl (lv_at hl 0 rfl) ?_
              refine lv_dup hx hb d_Reader_unary_123 rfl ?_
              refine k_g (C := "ChannelMachine$Reader") (F := F_Reader) (N := 9) hx hb hts i_Reader hown hK hP 1 5 (by decide) (by decide) rfl (by decide) (d := (1, 4)) rfl (hts _ k_49) (fun _ h9 => h9) (v := .int (Int32.ofNat a1)) (congrArg Value.int hmi.1.2.2.2) d_Reader_unary_124 ?_
              refine lv_iconst (v := 1) hx hb d_Reader_unary_127 (by decide) ?_
              refine lv_iadd hx hb d_Reader_unary_128 ?_
              refine W.eq (g2 := F0 m 129 ls [.int (Int32.ofNat (a1 + 1)), .ref (ad 1)]) (by rw [← x_addN (a := a1) (b := 1)] <;> rfl) ?_
              refine k_pi (C := "ChannelMachine$Reader") (F := F_Reader) (N := 9) hx hb hts i_Reader hown t_Reader t_Reader_ok n_Reader hK hP hD hS 1 5 (by decide) (by decide) rfl (by decide) (j := 4) (x := (Int32.ofNat (a1 + 1))) rfl (hts _ k_49) (fun _ h9 => h9) rfl (by decide +kernel) d_Reader_unary_129 (fun H locs hP hD hS => ?_)
              have hmi : y_RD (upd I1 4 (Int32.ofNat (a1 + 1))) A (ln, cl, lm, (a1 + 1)) := hmi.at4 (by omega)
              have hbn := hmi.2.1
              dsimp only at hbn
              refine lv_iload_n hx hb d_Reader_unary_132 rfl (lv_at hl 2 rfl) ?_
              refine lv_bipush (v := 40) hx hb d_Reader_unary_133 (by decide) ?_
              refine lv_icmp_ne (tgt := 164) hx hb d_Reader_unary_135 (by decide) (fun c71 => ?_) (fun c71 => ?_)
              · refine lv_aload_n hx hb d_Reader_unary_164 rfl (lv_at hl 0 rfl) ?_
                refine lv_iload_n hx hb d_Reader_unary_165 rfl (lv_at hl 1 rfl) ?_
                refine lv_iconst (v := 1) hx hb d_Reader_unary_166 (by decide) ?_
                refine lv_iadd hx hb d_Reader_unary_167 ?_
                refine W.eq (g2 := F0 m 168 ls [.int (Int32.ofNat (dp + 1)), .ref (ad 1)]) (by rw [← x_addN (a := dp) (b := 1)] <;> rfl) ?_
                have hFc := y_free hD hS hA
                refine va_calli (va_runV (As := [.int (Int32.ofNat (dp + 1))]) (rest := []) ⟨hx, hb, hml, hown, hts⟩ (ihU l dC dI ar N0 z ad (upd I1 4 (Int32.ofNat (a1 + 1))) T A O pl ln cl lm ((a1 + 1)) ((dp + 1)) H.size (y_hs H) hmi (by omega) (by omega) (by omega)) (cwV 1 hts (x_goodV k_508 k_510 kp_11 k_2 k_511) rfl rfl rfl (by decide +kernel) ⟨(by show nn + 5 + 1 ≤ nn + 1 + 5; omega), (by show 8 + (5 + 11) + (40 * nn + 120) ≤ 40 * (nn + 1) + 120; omega)⟩) ⟨y_blind, va_recv hK hP (ci := 3) (q0 := 1) rfl (y_W_ob (by decide) (by decide)), fun U9 hU9 hW9 => y_pre hU9 hW9 hP hD hU hZ hS hAN hN0⟩ rfl rfl hl.1 rfl (lv_room (Nat.le_of_ble_eq_true rfl)) d_Reader_unary_168 ⟨(by show 0 + (0) ≤ 0; omega), (by show 0 + (0) ≤ 0; omega)⟩) hS (fun q _ h => hFc q h) hFc (fun r_72 u t H1 locs ht hvm hw hB hz1 hk1 hS => ?_)
                obtain ⟨I73, T73, A73, O73, pl73, q73, s73, cq73, cs73⟩ := u
                dsimp only at hw hB
                rw [ht] at hB
                obtain ⟨hP, hD1, hac73⟩ := hB
                have hD : va_D Bq (y_W ad ar I73 T73 A73 O73 pl73) := hD1.weaken (fun _ q _ h => hFc q.1 h)
                generalize H1 = H at hP hS hac73 ⊢
                have hae73 := hac73
                try unfold y_ac at hae73
                try dsimp only at hae73
                refine W.widen (k := 0) (n := 0) (by omega) (by omega) ?_
                obtain ⟨hmi, e2, e4, e5, fr73, e6, e7, hge73, hcc73, hr9⟩ := hw
                rw [e2, e4, e5] at hP hD
                rw [e6, e7] at hmi
                have hP : va_P (dC, dI) y_cl (y_W ad ar I73 T A73 O pl) H := hP
                have hD : va_D Bq (y_W ad ar I73 T A73 O pl) := hD
                have hbn := hmi.2.1
                dsimp only at hbn
                rcases hr9 with rfl | rfl
                · refine lv_if_ne (tgt := 176) hx hb d_Reader_unary_171 (by decide) (fun c74 => absurd rfl c74) (fun _ => ?_)
                  refine lv_iconst (v := 0) hx hb d_Reader_unary_174 (by decide) ?_
                  refine y_know (fun hy91 hy92 hy93 hy94 => ?_)
                  have hac9 : True := trivial
                  refine W.widen (k := 0) (n := 0) (by omega) (by omega) ?_
                  exact W.zret (v := 0) hx hb hr (rfl) (fun t ht hW => ⟨⟨0, (I73, T, A73, O, pl, (ln, s73, lm, cs73)), rfl, ⟨hmi, rfl, rfl, rfl, ((hfr.up (by decide) _).tr fr73 (by decide)), rfl, rfl, by dsimp only; omega, by dsimp only; omega, Or.inl rfl⟩, (by dsimp only; rw [ht]; exact ⟨hP, hD, hac9⟩)⟩, hS.F ht⟩) hS.2.2 d_Reader_unary_175
                · refine lv_if_ne (tgt := 176) hx hb d_Reader_unary_171 (by decide) (fun _ => ?_) (fun c75 => absurd c75 (by decide))
                  refine lv_aload_n hx hb d_Reader_unary_176 rfl (lv_at hl 0 rfl) ?_
                  refine lv_iconst (v := (-1)) hx hb d_Reader_unary_177 (by decide) ?_
                  have hFc := y_free hD hS hA
                  refine va_callv (va_runV (As := [.int (-1)]) (rest := []) ⟨hx, hb, hml, hown, hts⟩ (c_Rd_write l dC dI ar N0 z ad I73 T A73 O pl ln s73 lm cs73 ((-1)) H.size (y_hs H) hmi (Or.inr (Or.inl rfl)) (by omega)) (cwV 1 hts (x_goodV k_515 k_517 kp_12 k_2 k_518) rfl rfl rfl (by decide +kernel) ⟨Nat.le_trans (m := 5) (Nat.le_of_ble_eq_true rfl) (Nat.le_add_left 5 _), Nat.le_trans (m := 120) (Nat.le_of_ble_eq_true rfl) (Nat.le_add_left 120 _)⟩) ⟨y_blind, va_recv hK hP (ci := 3) (q0 := 1) rfl (y_W_ob (by decide) (by decide)), fun U9 hU9 hW9 => y_pre hU9 hW9 hP hD hU hZ hS hAN hN0⟩ rfl rfl hl.1 rfl (lv_room (Nat.le_of_ble_eq_true rfl)) d_Reader_unary_178 ⟨(by show 0 + (0) ≤ 0; omega), (by show 0 + (0) ≤ 0; omega)⟩) hS (fun q _ h => hFc q h) hFc (fun u t H1 locs ht hvm hw hB hz1 hk1 hS => ?_)
                  obtain ⟨I76, T76, A76, O76, pl76, q76, s76, cq76, cs76⟩ := u
                  dsimp only at hw hB
                  rw [ht] at hB
                  obtain ⟨hP, hD1, hac76⟩ := hB
                  have hD : va_D Bq (y_W ad ar I76 T76 A76 O76 pl76) := hD1.weaken (fun _ q _ h => hFc q.1 h)
                  generalize H1 = H at hP hS hac76 ⊢
                  have hae76 := hac76
                  try unfold y_ac at hae76
                  try dsimp only at hae76
                  refine W.widen (k := 0) (n := 0) (by omega) (by omega) ?_
                  obtain ⟨hmi, e2, e4, e5, fr76, e6, e7, hge76, hcc76, hat9⟩ := hw
                  rw [e2, e4, e5] at hP hD
                  rw [e6, e7] at hmi
                  have hP : va_P (dC, dI) y_cl (y_W ad ar I76 T A76 O pl) H := hP
                  have hD : va_D Bq (y_W ad ar I76 T A76 O pl) := hD
                  have hbn := hmi.2.1
                  dsimp only at hbn
                  rw [hat9] at hmi
                  have hbn := hmi.2.1
                  dsimp only at hbn
                  refine lv_iconst (v := 1) hx hb d_Reader_unary_181 (by decide) ?_
                  refine y_know (fun hy91 hy92 hy93 hy94 => ?_)
                  have hac9 : True := trivial
                  refine W.widen (k := 0) (n := 0) (by omega) (by omega) ?_
                  exact W.zret (v := 1) hx hb hr (rfl) (fun t ht hW => ⟨⟨1, (I76, T, A76, O, pl, (ln, s76, lm, cs73)), rfl, ⟨hmi, rfl, rfl, rfl, (((hfr.up (by decide) _).tr fr73 (by decide)).tr fr76 (by decide)), rfl, rfl, by dsimp only; omega, by dsimp only; omega, Or.inr rfl⟩, (by dsimp only; rw [ht]; exact ⟨hP, hD, hac9⟩)⟩, hS.F ht⟩) hS.2.2 d_Reader_unary_182
              · refine lv_aload_n hx hb d_Reader_unary_138 rfl (lv_at hl 0 rfl) ?_
                refine lv_iconst (v := 0) hx hb d_Reader_unary_139 (by decide) ?_
                refine W.eq (g2 := F0 m 140 ls [.int (Int32.ofNat 0), .ref (ad 1)]) rfl ?_
                refine lv_iload_n hx hb d_Reader_unary_140 rfl (lv_at hl 1 rfl) ?_
                refine lv_iconst (v := 1) hx hb d_Reader_unary_141 (by decide) ?_
                refine lv_iadd hx hb d_Reader_unary_142 ?_
                refine W.eq (g2 := F0 m 143 ls [.int (Int32.ofNat (dp + 1)), .int (Int32.ofNat 0), .ref (ad 1)]) (by rw [← x_addN (a := dp) (b := 1)] <;> rfl) ?_
                have hFc := y_free hD hS hA
                refine va_calli (va_runV (As := [.int (Int32.ofNat 0), .int (Int32.ofNat (dp + 1))]) (rest := []) ⟨hx, hb, hml, hown, hts⟩ (ihJ l dC dI ar N0 z ad (upd I1 4 (Int32.ofNat (a1 + 1))) T A O pl ln cl lm ((a1 + 1)) 0 ((dp + 1)) H.size (y_hs H) hmi (by omega) (by omega) (by omega) (by omega)) (cwV 2 hts (x_goodV k_504 k_506 kp_10 k_2 k_507) rfl rfl rfl (by decide +kernel) ⟨(by show nn + 5 + 1 ≤ nn + 1 + 5; omega), (by show 8 + (6 + 11) + (40 * nn + 120) ≤ 40 * (nn + 1) + 120; omega)⟩) ⟨y_blind, va_recv hK hP (ci := 3) (q0 := 1) rfl (y_W_ob (by decide) (by decide)), fun U9 hU9 hW9 => y_pre hU9 hW9 hP hD hU hZ hS hAN hN0⟩ rfl rfl hl.1 rfl (lv_room (Nat.le_of_ble_eq_true rfl)) d_Reader_unary_143 ⟨(by show 0 + (0) ≤ 0; omega), (by show 0 + (0) ≤ 0; omega)⟩) hS (fun q _ h => hFc q h) hFc (fun r_77 u t H1 locs ht hvm hw hB hz1 hk1 hS => ?_)
                obtain ⟨I78, T78, A78, O78, pl78, q78, s78, cq78, cs78⟩ := u
                dsimp only at hw hB
                rw [ht] at hB
                obtain ⟨hP, hD1, hac78⟩ := hB
                have hD : va_D Bq (y_W ad ar I78 T78 A78 O78 pl78) := hD1.weaken (fun _ q _ h => hFc q.1 h)
                generalize H1 = H at hP hS hac78 ⊢
                have hae78 := hac78
                try unfold y_ac at hae78
                try dsimp only at hae78
                refine W.widen (k := 0) (n := 0) (by omega) (by omega) ?_
                obtain ⟨hmi, e2, e4, e5, fr78, e6, e7, hge78, hcc78, hr9⟩ := hw
                rw [e2, e4, e5] at hP hD
                rw [e6, e7] at hmi
                have hP : va_P (dC, dI) y_cl (y_W ad ar I78 T A78 O pl) H := hP
                have hD : va_D Bq (y_W ad ar I78 T A78 O pl) := hD
                have hbn := hmi.2.1
                dsimp only at hbn
                rcases hr9 with rfl | rfl
                · refine lv_if_eq (tgt := 162) hx hb d_Reader_unary_146 (by decide) (fun _ => ?_) (fun c79 => absurd (by decide) c79)
                  refine lv_iconst (v := 0) hx hb d_Reader_unary_162 (by decide) ?_
                  refine y_know (fun hy91 hy92 hy93 hy94 => ?_)
                  have hac9 : True := trivial
                  refine W.widen (k := 0) (n := 0) (by omega) (by omega) ?_
                  exact W.zret (v := 0) hx hb hr (rfl) (fun t ht hW => ⟨⟨0, (I78, T, A78, O, pl, (ln, s78, lm, cs78)), rfl, ⟨hmi, rfl, rfl, rfl, ((hfr.up (by decide) _).tr fr78 (by decide)), rfl, rfl, by dsimp only; omega, by dsimp only; omega, Or.inl rfl⟩, (by dsimp only; rw [ht]; exact ⟨hP, hD, hac9⟩)⟩, hS.F ht⟩) hS.2.2 d_Reader_unary_163
                · refine lv_if_eq (tgt := 162) hx hb d_Reader_unary_146 (by decide) (fun c80 => absurd c80 (by decide)) (fun _ => ?_)
                  refine lv_aload_n hx hb d_Reader_unary_149 rfl (lv_at hl 0 rfl) ?_
                  refine lv_bipush (v := 41) hx hb d_Reader_unary_150 (by decide) ?_
                  have hFc := y_free hD hS hA
                  refine va_calli (va_runV (As := [.int 41]) (rest := []) ⟨hx, hb, hml, hown, hts⟩ (c_Rd_expect l dC dI ar N0 z ad I78 T A78 O pl ln s78 lm cs78 (41) H.size (y_hs H) hmi (by decide)) (cwV 1 hts (x_goodV k_492 k_494 kp_7 k_2 k_495) rfl rfl rfl (by decide +kernel) ⟨Nat.le_trans (m := 5) (Nat.le_of_ble_eq_true rfl) (Nat.le_add_left 5 _), Nat.le_trans (m := 120) (Nat.le_of_ble_eq_true rfl) (Nat.le_add_left 120 _)⟩) ⟨y_blind, va_recv hK hP (ci := 3) (q0 := 1) rfl (y_W_ob (by decide) (by decide)), fun U9 hU9 hW9 => y_pre hU9 hW9 hP hD hU hZ hS hAN hN0⟩ rfl rfl hl.1 rfl (lv_room (Nat.le_of_ble_eq_true rfl)) d_Reader_unary_152 ⟨(by show 0 + (0) ≤ 0; omega), (by show 0 + (0) ≤ 0; omega)⟩) hS (fun q _ h => hFc q h) hFc (fun r_81 u t H1 locs ht hvm hw hB hz1 hk1 hS => ?_)
                  obtain ⟨I82, T82, A82, O82, pl82, q82, s82, cq82, cs82⟩ := u
                  dsimp only at hw hB
                  rw [ht] at hB
                  obtain ⟨hP, hD1, hac82⟩ := hB
                  have hD : va_D Bq (y_W ad ar I82 T82 A82 O82 pl82) := hD1.weaken (fun _ q _ h => hFc q.1 h)
                  generalize H1 = H at hP hS hac82 ⊢
                  have hae82 := hac82
                  try unfold y_ac at hae82
                  try dsimp only at hae82
                  refine W.widen (k := 0) (n := 0) (by omega) (by omega) ?_
                  obtain ⟨hmi, e2, e4, e5, fr82, e6, e7, hge82, hcc82, hr9⟩ := hw
                  rw [e2, e4, e5] at hP hD
                  rw [e6, e7] at hmi
                  have hP : va_P (dC, dI) y_cl (y_W ad ar I82 T A82 O pl) H := hP
                  have hD : va_D Bq (y_W ad ar I82 T A82 O pl) := hD
                  have hbn := hmi.2.1
                  dsimp only at hbn
                  rcases hr9 with rfl | ⟨rfl, hex83⟩
                  · refine lv_if_eq (tgt := 162) hx hb d_Reader_unary_155 (by decide) (fun _ => ?_) (fun c84 => absurd (by decide) c84)
                    refine lv_iconst (v := 0) hx hb d_Reader_unary_162 (by decide) ?_
                    refine y_know (fun hy91 hy92 hy93 hy94 => ?_)
                    have hac9 : True := trivial
                    refine W.widen (k := 0) (n := 0) (by omega) (by omega) ?_
                    exact W.zret (v := 0) hx hb hr (rfl) (fun t ht hW => ⟨⟨0, (I82, T, A82, O, pl, (ln, s82, lm, cs82)), rfl, ⟨hmi, rfl, rfl, rfl, (((hfr.up (by decide) _).tr fr78 (by decide)).tr fr82 (by decide)), rfl, rfl, by dsimp only; omega, by dsimp only; omega, Or.inl rfl⟩, (by dsimp only; rw [ht]; exact ⟨hP, hD, hac9⟩)⟩, hS.F ht⟩) hS.2.2 d_Reader_unary_163
                  · refine lv_if_eq (tgt := 162) hx hb d_Reader_unary_155 (by decide) (fun c85 => absurd c85 (by decide)) (fun _ => ?_)
                    refine lv_iconst (v := 1) hx hb d_Reader_unary_158 (by decide) ?_
                    refine lv_goto (tgt := 163) hx hb d_Reader_unary_159 (by decide) ?_
                    refine y_know (fun hy91 hy92 hy93 hy94 => ?_)
                    have hac9 : True := trivial
                    refine W.widen (k := 0) (n := 0) (by omega) (by omega) ?_
                    exact W.zret (v := 1) hx hb hr (rfl) (fun t ht hW => ⟨⟨1, (I82, T, A82, O, pl, (ln, s82, lm, cs82)), rfl, ⟨hmi, rfl, rfl, rfl, (((hfr.up (by decide) _).tr fr78 (by decide)).tr fr82 (by decide)), rfl, rfl, by dsimp only; omega, by dsimp only; omega, Or.inr rfl⟩, (by dsimp only; rw [ht]; exact ⟨hP, hD, hac9⟩)⟩, hS.F ht⟩) hS.2.2 d_Reader_unary_163
            · refine lv_iload_n hx hb d_Reader_unary_111 rfl (lv_at hl 2 rfl) ?_
              refine lv_bipush (v := 40) hx hb d_Reader_unary_112 (by decide) ?_
              refine lv_icmp_eq (tgt := 122) hx hb d_Reader_unary_114 (by decide) (fun c86 => ?_) (fun c86 => ?_)
              · have hlt : a1 < lm := by rw [ha0]; exact y_lk_lt (by rw [c86]; decide)
                refine lv_aload_n hx hb d_Reader_unary_122 rfl (lv_at hl 0 rfl) ?_
                refine lv_dup hx hb d_Reader_unary_123 rfl ?_
                refine k_g (C := "ChannelMachine$Reader") (F := F_Reader) (N := 9) hx hb hts i_Reader hown hK hP 1 5 (by decide) (by decide) rfl (by decide) (d := (1, 4)) rfl (hts _ k_49) (fun _ h9 => h9) (v := .int (Int32.ofNat a1)) (congrArg Value.int hmi.1.2.2.2) d_Reader_unary_124 ?_
                refine lv_iconst (v := 1) hx hb d_Reader_unary_127 (by decide) ?_
                refine lv_iadd hx hb d_Reader_unary_128 ?_
                refine W.eq (g2 := F0 m 129 ls [.int (Int32.ofNat (a1 + 1)), .ref (ad 1)]) (by rw [← x_addN (a := a1) (b := 1)] <;> rfl) ?_
                refine k_pi (C := "ChannelMachine$Reader") (F := F_Reader) (N := 9) hx hb hts i_Reader hown t_Reader t_Reader_ok n_Reader hK hP hD hS 1 5 (by decide) (by decide) rfl (by decide) (j := 4) (x := (Int32.ofNat (a1 + 1))) rfl (hts _ k_49) (fun _ h9 => h9) rfl (by decide +kernel) d_Reader_unary_129 (fun H locs hP hD hS => ?_)
                have hmi : y_RD (upd I1 4 (Int32.ofNat (a1 + 1))) A (ln, cl, lm, (a1 + 1)) := hmi.at4 (by omega)
                have hbn := hmi.2.1
                dsimp only at hbn
                refine lv_iload_n hx hb d_Reader_unary_132 rfl (lv_at hl 2 rfl) ?_
                refine lv_bipush (v := 40) hx hb d_Reader_unary_133 (by decide) ?_
                refine lv_icmp_ne (tgt := 164) hx hb d_Reader_unary_135 (by decide) (fun c87 => ?_) (fun c87 => ?_)
                · refine lv_aload_n hx hb d_Reader_unary_164 rfl (lv_at hl 0 rfl) ?_
                  refine lv_iload_n hx hb d_Reader_unary_165 rfl (lv_at hl 1 rfl) ?_
                  refine lv_iconst (v := 1) hx hb d_Reader_unary_166 (by decide) ?_
                  refine lv_iadd hx hb d_Reader_unary_167 ?_
                  refine W.eq (g2 := F0 m 168 ls [.int (Int32.ofNat (dp + 1)), .ref (ad 1)]) (by rw [← x_addN (a := dp) (b := 1)] <;> rfl) ?_
                  have hFc := y_free hD hS hA
                  refine va_calli (va_runV (As := [.int (Int32.ofNat (dp + 1))]) (rest := []) ⟨hx, hb, hml, hown, hts⟩ (ihU l dC dI ar N0 z ad (upd I1 4 (Int32.ofNat (a1 + 1))) T A O pl ln cl lm ((a1 + 1)) ((dp + 1)) H.size (y_hs H) hmi (by omega) (by omega) (by omega)) (cwV 1 hts (x_goodV k_508 k_510 kp_11 k_2 k_511) rfl rfl rfl (by decide +kernel) ⟨(by show nn + 5 + 1 ≤ nn + 1 + 5; omega), (by show 8 + (5 + 11) + (40 * nn + 120) ≤ 40 * (nn + 1) + 120; omega)⟩) ⟨y_blind, va_recv hK hP (ci := 3) (q0 := 1) rfl (y_W_ob (by decide) (by decide)), fun U9 hU9 hW9 => y_pre hU9 hW9 hP hD hU hZ hS hAN hN0⟩ rfl rfl hl.1 rfl (lv_room (Nat.le_of_ble_eq_true rfl)) d_Reader_unary_168 ⟨(by show 0 + (0) ≤ 0; omega), (by show 0 + (0) ≤ 0; omega)⟩) hS (fun q _ h => hFc q h) hFc (fun r_88 u t H1 locs ht hvm hw hB hz1 hk1 hS => ?_)
                  obtain ⟨I89, T89, A89, O89, pl89, q89, s89, cq89, cs89⟩ := u
                  dsimp only at hw hB
                  rw [ht] at hB
                  obtain ⟨hP, hD1, hac89⟩ := hB
                  have hD : va_D Bq (y_W ad ar I89 T89 A89 O89 pl89) := hD1.weaken (fun _ q _ h => hFc q.1 h)
                  generalize H1 = H at hP hS hac89 ⊢
                  have hae89 := hac89
                  try unfold y_ac at hae89
                  try dsimp only at hae89
                  refine W.widen (k := 0) (n := 0) (by omega) (by omega) ?_
                  obtain ⟨hmi, e2, e4, e5, fr89, e6, e7, hge89, hcc89, hr9⟩ := hw
                  rw [e2, e4, e5] at hP hD
                  rw [e6, e7] at hmi
                  have hP : va_P (dC, dI) y_cl (y_W ad ar I89 T A89 O pl) H := hP
                  have hD : va_D Bq (y_W ad ar I89 T A89 O pl) := hD
                  have hbn := hmi.2.1
                  dsimp only at hbn
                  rcases hr9 with rfl | rfl
                  · refine lv_if_ne (tgt := 176) hx hb d_Reader_unary_171 (by decide) (fun c90 => absurd rfl c90) (fun _ => ?_)
                    refine lv_iconst (v := 0) hx hb d_Reader_unary_174 (by decide) ?_
                    refine y_know (fun hy91 hy92 hy93 hy94 => ?_)
                    have hac9 : True := trivial
                    refine W.widen (k := 0) (n := 0) (by omega) (by omega) ?_
                    exact W.zret (v := 0) hx hb hr (rfl) (fun t ht hW => ⟨⟨0, (I89, T, A89, O, pl, (ln, s89, lm, cs89)), rfl, ⟨hmi, rfl, rfl, rfl, ((hfr.up (by decide) _).tr fr89 (by decide)), rfl, rfl, by dsimp only; omega, by dsimp only; omega, Or.inl rfl⟩, (by dsimp only; rw [ht]; exact ⟨hP, hD, hac9⟩)⟩, hS.F ht⟩) hS.2.2 d_Reader_unary_175
                  · refine lv_if_ne (tgt := 176) hx hb d_Reader_unary_171 (by decide) (fun _ => ?_) (fun c91 => absurd c91 (by decide))
                    refine lv_aload_n hx hb d_Reader_unary_176 rfl (lv_at hl 0 rfl) ?_
                    refine lv_iconst (v := (-1)) hx hb d_Reader_unary_177 (by decide) ?_
                    have hFc := y_free hD hS hA
                    refine va_callv (va_runV (As := [.int (-1)]) (rest := []) ⟨hx, hb, hml, hown, hts⟩ (c_Rd_write l dC dI ar N0 z ad I89 T A89 O pl ln s89 lm cs89 ((-1)) H.size (y_hs H) hmi (Or.inr (Or.inl rfl)) (by omega)) (cwV 1 hts (x_goodV k_515 k_517 kp_12 k_2 k_518) rfl rfl rfl (by decide +kernel) ⟨Nat.le_trans (m := 5) (Nat.le_of_ble_eq_true rfl) (Nat.le_add_left 5 _), Nat.le_trans (m := 120) (Nat.le_of_ble_eq_true rfl) (Nat.le_add_left 120 _)⟩) ⟨y_blind, va_recv hK hP (ci := 3) (q0 := 1) rfl (y_W_ob (by decide) (by decide)), fun U9 hU9 hW9 => y_pre hU9 hW9 hP hD hU hZ hS hAN hN0⟩ rfl rfl hl.1 rfl (lv_room (Nat.le_of_ble_eq_true rfl)) d_Reader_unary_178 ⟨(by show 0 + (0) ≤ 0; omega), (by show 0 + (0) ≤ 0; omega)⟩) hS (fun q _ h => hFc q h) hFc (fun u t H1 locs ht hvm hw hB hz1 hk1 hS => ?_)
                    obtain ⟨I92, T92, A92, O92, pl92, q92, s92, cq92, cs92⟩ := u
                    dsimp only at hw hB
                    rw [ht] at hB
                    obtain ⟨hP, hD1, hac92⟩ := hB
                    have hD : va_D Bq (y_W ad ar I92 T92 A92 O92 pl92) := hD1.weaken (fun _ q _ h => hFc q.1 h)
                    generalize H1 = H at hP hS hac92 ⊢
                    have hae92 := hac92
                    try unfold y_ac at hae92
                    try dsimp only at hae92
                    refine W.widen (k := 0) (n := 0) (by omega) (by omega) ?_
                    obtain ⟨hmi, e2, e4, e5, fr92, e6, e7, hge92, hcc92, hat9⟩ := hw
                    rw [e2, e4, e5] at hP hD
                    rw [e6, e7] at hmi
                    have hP : va_P (dC, dI) y_cl (y_W ad ar I92 T A92 O pl) H := hP
                    have hD : va_D Bq (y_W ad ar I92 T A92 O pl) := hD
                    have hbn := hmi.2.1
                    dsimp only at hbn
                    rw [hat9] at hmi
                    have hbn := hmi.2.1
                    dsimp only at hbn
                    refine lv_iconst (v := 1) hx hb d_Reader_unary_181 (by decide) ?_
                    refine y_know (fun hy91 hy92 hy93 hy94 => ?_)
                    have hac9 : True := trivial
                    refine W.widen (k := 0) (n := 0) (by omega) (by omega) ?_
                    exact W.zret (v := 1) hx hb hr (rfl) (fun t ht hW => ⟨⟨1, (I92, T, A92, O, pl, (ln, s92, lm, cs89)), rfl, ⟨hmi, rfl, rfl, rfl, (((hfr.up (by decide) _).tr fr89 (by decide)).tr fr92 (by decide)), rfl, rfl, by dsimp only; omega, by dsimp only; omega, Or.inr rfl⟩, (by dsimp only; rw [ht]; exact ⟨hP, hD, hac9⟩)⟩, hS.F ht⟩) hS.2.2 d_Reader_unary_182
                · refine lv_aload_n hx hb d_Reader_unary_138 rfl (lv_at hl 0 rfl) ?_
                  refine lv_iconst (v := 0) hx hb d_Reader_unary_139 (by decide) ?_
                  refine W.eq (g2 := F0 m 140 ls [.int (Int32.ofNat 0), .ref (ad 1)]) rfl ?_
                  refine lv_iload_n hx hb d_Reader_unary_140 rfl (lv_at hl 1 rfl) ?_
                  refine lv_iconst (v := 1) hx hb d_Reader_unary_141 (by decide) ?_
                  refine lv_iadd hx hb d_Reader_unary_142 ?_
                  refine W.eq (g2 := F0 m 143 ls [.int (Int32.ofNat (dp + 1)), .int (Int32.ofNat 0), .ref (ad 1)]) (by rw [← x_addN (a := dp) (b := 1)] <;> rfl) ?_
                  have hFc := y_free hD hS hA
                  refine va_calli (va_runV (As := [.int (Int32.ofNat 0), .int (Int32.ofNat (dp + 1))]) (rest := []) ⟨hx, hb, hml, hown, hts⟩ (ihJ l dC dI ar N0 z ad (upd I1 4 (Int32.ofNat (a1 + 1))) T A O pl ln cl lm ((a1 + 1)) 0 ((dp + 1)) H.size (y_hs H) hmi (by omega) (by omega) (by omega) (by omega)) (cwV 2 hts (x_goodV k_504 k_506 kp_10 k_2 k_507) rfl rfl rfl (by decide +kernel) ⟨(by show nn + 5 + 1 ≤ nn + 1 + 5; omega), (by show 8 + (6 + 11) + (40 * nn + 120) ≤ 40 * (nn + 1) + 120; omega)⟩) ⟨y_blind, va_recv hK hP (ci := 3) (q0 := 1) rfl (y_W_ob (by decide) (by decide)), fun U9 hU9 hW9 => y_pre hU9 hW9 hP hD hU hZ hS hAN hN0⟩ rfl rfl hl.1 rfl (lv_room (Nat.le_of_ble_eq_true rfl)) d_Reader_unary_143 ⟨(by show 0 + (0) ≤ 0; omega), (by show 0 + (0) ≤ 0; omega)⟩) hS (fun q _ h => hFc q h) hFc (fun r_93 u t H1 locs ht hvm hw hB hz1 hk1 hS => ?_)
                  obtain ⟨I94, T94, A94, O94, pl94, q94, s94, cq94, cs94⟩ := u
                  dsimp only at hw hB
                  rw [ht] at hB
                  obtain ⟨hP, hD1, hac94⟩ := hB
                  have hD : va_D Bq (y_W ad ar I94 T94 A94 O94 pl94) := hD1.weaken (fun _ q _ h => hFc q.1 h)
                  generalize H1 = H at hP hS hac94 ⊢
                  have hae94 := hac94
                  try unfold y_ac at hae94
                  try dsimp only at hae94
                  refine W.widen (k := 0) (n := 0) (by omega) (by omega) ?_
                  obtain ⟨hmi, e2, e4, e5, fr94, e6, e7, hge94, hcc94, hr9⟩ := hw
                  rw [e2, e4, e5] at hP hD
                  rw [e6, e7] at hmi
                  have hP : va_P (dC, dI) y_cl (y_W ad ar I94 T A94 O pl) H := hP
                  have hD : va_D Bq (y_W ad ar I94 T A94 O pl) := hD
                  have hbn := hmi.2.1
                  dsimp only at hbn
                  rcases hr9 with rfl | rfl
                  · refine lv_if_eq (tgt := 162) hx hb d_Reader_unary_146 (by decide) (fun _ => ?_) (fun c95 => absurd (by decide) c95)
                    refine lv_iconst (v := 0) hx hb d_Reader_unary_162 (by decide) ?_
                    refine y_know (fun hy91 hy92 hy93 hy94 => ?_)
                    have hac9 : True := trivial
                    refine W.widen (k := 0) (n := 0) (by omega) (by omega) ?_
                    exact W.zret (v := 0) hx hb hr (rfl) (fun t ht hW => ⟨⟨0, (I94, T, A94, O, pl, (ln, s94, lm, cs94)), rfl, ⟨hmi, rfl, rfl, rfl, ((hfr.up (by decide) _).tr fr94 (by decide)), rfl, rfl, by dsimp only; omega, by dsimp only; omega, Or.inl rfl⟩, (by dsimp only; rw [ht]; exact ⟨hP, hD, hac9⟩)⟩, hS.F ht⟩) hS.2.2 d_Reader_unary_163
                  · refine lv_if_eq (tgt := 162) hx hb d_Reader_unary_146 (by decide) (fun c96 => absurd c96 (by decide)) (fun _ => ?_)
                    refine lv_aload_n hx hb d_Reader_unary_149 rfl (lv_at hl 0 rfl) ?_
                    refine lv_bipush (v := 41) hx hb d_Reader_unary_150 (by decide) ?_
                    have hFc := y_free hD hS hA
                    refine va_calli (va_runV (As := [.int 41]) (rest := []) ⟨hx, hb, hml, hown, hts⟩ (c_Rd_expect l dC dI ar N0 z ad I94 T A94 O pl ln s94 lm cs94 (41) H.size (y_hs H) hmi (by decide)) (cwV 1 hts (x_goodV k_492 k_494 kp_7 k_2 k_495) rfl rfl rfl (by decide +kernel) ⟨Nat.le_trans (m := 5) (Nat.le_of_ble_eq_true rfl) (Nat.le_add_left 5 _), Nat.le_trans (m := 120) (Nat.le_of_ble_eq_true rfl) (Nat.le_add_left 120 _)⟩) ⟨y_blind, va_recv hK hP (ci := 3) (q0 := 1) rfl (y_W_ob (by decide) (by decide)), fun U9 hU9 hW9 => y_pre hU9 hW9 hP hD hU hZ hS hAN hN0⟩ rfl rfl hl.1 rfl (lv_room (Nat.le_of_ble_eq_true rfl)) d_Reader_unary_152 ⟨(by show 0 + (0) ≤ 0; omega), (by show 0 + (0) ≤ 0; omega)⟩) hS (fun q _ h => hFc q h) hFc (fun r_97 u t H1 locs ht hvm hw hB hz1 hk1 hS => ?_)
                    obtain ⟨I98, T98, A98, O98, pl98, q98, s98, cq98, cs98⟩ := u
                    dsimp only at hw hB
                    rw [ht] at hB
                    obtain ⟨hP, hD1, hac98⟩ := hB
                    have hD : va_D Bq (y_W ad ar I98 T98 A98 O98 pl98) := hD1.weaken (fun _ q _ h => hFc q.1 h)
                    generalize H1 = H at hP hS hac98 ⊢
                    have hae98 := hac98
                    try unfold y_ac at hae98
                    try dsimp only at hae98
                    refine W.widen (k := 0) (n := 0) (by omega) (by omega) ?_
                    obtain ⟨hmi, e2, e4, e5, fr98, e6, e7, hge98, hcc98, hr9⟩ := hw
                    rw [e2, e4, e5] at hP hD
                    rw [e6, e7] at hmi
                    have hP : va_P (dC, dI) y_cl (y_W ad ar I98 T A98 O pl) H := hP
                    have hD : va_D Bq (y_W ad ar I98 T A98 O pl) := hD
                    have hbn := hmi.2.1
                    dsimp only at hbn
                    rcases hr9 with rfl | ⟨rfl, hex99⟩
                    · refine lv_if_eq (tgt := 162) hx hb d_Reader_unary_155 (by decide) (fun _ => ?_) (fun c100 => absurd (by decide) c100)
                      refine lv_iconst (v := 0) hx hb d_Reader_unary_162 (by decide) ?_
                      refine y_know (fun hy91 hy92 hy93 hy94 => ?_)
                      have hac9 : True := trivial
                      refine W.widen (k := 0) (n := 0) (by omega) (by omega) ?_
                      exact W.zret (v := 0) hx hb hr (rfl) (fun t ht hW => ⟨⟨0, (I98, T, A98, O, pl, (ln, s98, lm, cs98)), rfl, ⟨hmi, rfl, rfl, rfl, (((hfr.up (by decide) _).tr fr94 (by decide)).tr fr98 (by decide)), rfl, rfl, by dsimp only; omega, by dsimp only; omega, Or.inl rfl⟩, (by dsimp only; rw [ht]; exact ⟨hP, hD, hac9⟩)⟩, hS.F ht⟩) hS.2.2 d_Reader_unary_163
                    · refine lv_if_eq (tgt := 162) hx hb d_Reader_unary_155 (by decide) (fun c101 => absurd c101 (by decide)) (fun _ => ?_)
                      refine lv_iconst (v := 1) hx hb d_Reader_unary_158 (by decide) ?_
                      refine lv_goto (tgt := 163) hx hb d_Reader_unary_159 (by decide) ?_
                      refine y_know (fun hy91 hy92 hy93 hy94 => ?_)
                      have hac9 : True := trivial
                      refine W.widen (k := 0) (n := 0) (by omega) (by omega) ?_
                      exact W.zret (v := 1) hx hb hr (rfl) (fun t ht hW => ⟨⟨1, (I98, T, A98, O, pl, (ln, s98, lm, cs98)), rfl, ⟨hmi, rfl, rfl, rfl, (((hfr.up (by decide) _).tr fr94 (by decide)).tr fr98 (by decide)), rfl, rfl, by dsimp only; omega, by dsimp only; omega, Or.inr rfl⟩, (by dsimp only; rw [ht]; exact ⟨hP, hD, hac9⟩)⟩, hS.F ht⟩) hS.2.2 d_Reader_unary_163
              · refine lv_aload_n hx hb d_Reader_unary_117 rfl (lv_at hl 0 rfl) ?_
                have hFc := y_free hD hS hA
                refine va_calli (va_runV (As := []) (rest := []) ⟨hx, hb, hml, hown, hts⟩ (c_Rd_refuse l dC dI ar N0 z ad I1 T A O pl ln cl lm a1 H.size (y_hs H) hmi) (cwV 0 hts (x_goodV k_477 k_479 kp_6 k_2 k_480) rfl rfl rfl (by decide +kernel) ⟨Nat.le_trans (m := 5) (Nat.le_of_ble_eq_true rfl) (Nat.le_add_left 5 _), Nat.le_trans (m := 120) (Nat.le_of_ble_eq_true rfl) (Nat.le_add_left 120 _)⟩) ⟨y_blind, va_recv hK hP (ci := 3) (q0 := 1) rfl (y_W_ob (by decide) (by decide)), fun U9 hU9 hW9 => y_pre hU9 hW9 hP hD hU hZ hS hAN hN0⟩ rfl rfl hl.1 rfl (lv_room (Nat.le_of_ble_eq_true rfl)) d_Reader_unary_118 ⟨(by show 0 + (0) ≤ 0; omega), (by show 0 + (0) ≤ 0; omega)⟩) hS (fun q _ h => hFc q h) hFc (fun r_102 u t H1 locs ht hvm hw hB hz1 hk1 hS => ?_)
                obtain ⟨I103, T103, A103, O103, pl103, q103, s103, cq103, cs103⟩ := u
                dsimp only at hw hB
                rw [ht] at hB
                obtain ⟨hP, hD1, hac103⟩ := hB
                have hD : va_D Bq (y_W ad ar I103 T103 A103 O103 pl103) := hD1.weaken (fun _ q _ h => hFc q.1 h)
                generalize H1 = H at hP hS hac103 ⊢
                have hae103 := hac103
                try unfold y_ac at hae103
                try dsimp only at hae103
                refine W.widen (k := 0) (n := 0) (by omega) (by omega) ?_
                obtain ⟨hmi, e2, e4, e5, fr103, e6, e7, hge103, hcc103, hr9⟩ := hw
                rw [e2, e4, e5] at hP hD
                rw [e6, e7] at hmi
                have hP : va_P (dC, dI) y_cl (y_W ad ar I103 T A103 O pl) H := hP
                have hD : va_D Bq (y_W ad ar I103 T A103 O pl) := hD
                have hbn := hmi.2.1
                dsimp only at hbn
                obtain rfl := hr9
                refine y_know (fun hy91 hy92 hy93 hy94 => ?_)
                have hac9 : True := trivial
                refine W.widen (k := 0) (n := 0) (by omega) (by omega) ?_
                exact W.zret (v := 0) hx hb hr (rfl) (fun t ht hW => ⟨⟨0, (I103, T, A103, O, pl, (ln, s103, lm, cs103)), rfl, ⟨hmi, rfl, rfl, rfl, (hfr.tr fr103 (by decide)), rfl, rfl, by dsimp only; omega, by dsimp only; omega, Or.inl rfl⟩, (by dsimp only; rw [ht]; exact ⟨hP, hD, hac9⟩)⟩, hS.F ht⟩) hS.2.2 d_Reader_unary_121
        · refine lv_if_eq (tgt := 100) hx hb d_Reader_unary_73 (by decide) (fun c104 => absurd c104 (by decide)) (fun _ => ?_)
          obtain ⟨e8, hv1, hv2, hv3⟩ := y_rg (lo := 97) (hi := 102) hr65.1 hr65.2 (by decide) (by decide)
          have hlt : a1 < lm := by rw [ha0]; exact y_lk_lo hr65.1 (by decide)
          rw [hv3] at hl
          have hl : lv_has ls 5 [(0, .ref (ad 1)), (1, .int (Int32.ofNat dp)), (2, .int (Int32.ofNat e8)), (3, .int (Int32.ofNat k1)), (4, .int (Int32.ofNat i1))] := hl
          refine lv_aload_n hx hb d_Reader_unary_76 rfl (lv_at hl 0 rfl) ?_
          refine lv_sipush (v := 1000) hx hb d_Reader_unary_77 (by decide) ?_
          refine lv_iload_n hx hb d_Reader_unary_80 rfl (lv_at hl 2 rfl) ?_
          refine W.eq (g2 := F0 m 81 ls [.int (Int32.ofNat e8), .int (Int32.ofNat 1000), .ref (ad 1)]) rfl ?_
          refine lv_iadd hx hb d_Reader_unary_81 ?_
          refine W.eq (g2 := F0 m 82 ls [.int (Int32.ofNat (1000 + e8)), .ref (ad 1)]) (by rw [← x_addN (a := 1000) (b := e8)] <;> rfl) ?_
          refine lv_bipush (v := 97) hx hb d_Reader_unary_82 (by decide) ?_
          refine lv_isub hx hb d_Reader_unary_84 ?_
          refine W.eq (g2 := F0 m 85 ls [.int (Int32.ofNat ((1000 + e8) - 97)), .ref (ad 1)]) (by rw [← x_subN (a := (1000 + e8)) (b := 97) (by omega)] <;> rfl) ?_
          have hFc := y_free hD hS hA
          refine va_callv (va_runV (As := [.int (Int32.ofNat ((1000 + e8) - 97))]) (rest := []) ⟨hx, hb, hml, hown, hts⟩ (c_Rd_write l dC dI ar N0 z ad I1 T A O pl ln cl lm a1 ((Int32.ofNat ((1000 + e8) - 97))) H.size (y_hs H) hmi (Or.inl (x_nneg (by omega))) (by omega)) (cwV 1 hts (x_goodV k_515 k_517 kp_12 k_2 k_518) rfl rfl rfl (by decide +kernel) ⟨Nat.le_trans (m := 5) (Nat.le_of_ble_eq_true rfl) (Nat.le_add_left 5 _), Nat.le_trans (m := 120) (Nat.le_of_ble_eq_true rfl) (Nat.le_add_left 120 _)⟩) ⟨y_blind, va_recv hK hP (ci := 3) (q0 := 1) rfl (y_W_ob (by decide) (by decide)), fun U9 hU9 hW9 => y_pre hU9 hW9 hP hD hU hZ hS hAN hN0⟩ rfl rfl hl.1 rfl (lv_room (Nat.le_of_ble_eq_true rfl)) d_Reader_unary_85 ⟨(by show 0 + (0) ≤ 0; omega), (by show 0 + (0) ≤ 0; omega)⟩) hS (fun q _ h => hFc q h) hFc (fun u t H1 locs ht hvm hw hB hz1 hk1 hS => ?_)
          obtain ⟨I105, T105, A105, O105, pl105, q105, s105, cq105, cs105⟩ := u
          dsimp only at hw hB
          rw [ht] at hB
          obtain ⟨hP, hD1, hac105⟩ := hB
          have hD : va_D Bq (y_W ad ar I105 T105 A105 O105 pl105) := hD1.weaken (fun _ q _ h => hFc q.1 h)
          generalize H1 = H at hP hS hac105 ⊢
          have hae105 := hac105
          try unfold y_ac at hae105
          try dsimp only at hae105
          refine W.widen (k := 0) (n := 0) (by omega) (by omega) ?_
          obtain ⟨hmi, e2, e4, e5, fr105, e6, e7, hge105, hcc105, hat9⟩ := hw
          rw [e2, e4, e5] at hP hD
          rw [e6, e7] at hmi
          have hP : va_P (dC, dI) y_cl (y_W ad ar I105 T A105 O pl) H := hP
          have hD : va_D Bq (y_W ad ar I105 T A105 O pl) := hD
          have hbn := hmi.2.1
          dsimp only at hbn
          rw [hat9] at hmi
          have hbn := hmi.2.1
          dsimp only at hbn
          refine lv_aload_n hx hb d_Reader_unary_88 rfl (lv_at hl 0 rfl) ?_
          refine lv_dup hx hb d_Reader_unary_89 rfl ?_
          refine k_g (C := "ChannelMachine$Reader") (F := F_Reader) (N := 9) hx hb hts i_Reader hown hK hP 1 5 (by decide) (by decide) rfl (by decide) (d := (1, 4)) rfl (hts _ k_49) (fun _ h9 => h9) (v := .int (Int32.ofNat a1)) (congrArg Value.int hmi.1.2.2.2) d_Reader_unary_90 ?_
          refine lv_iconst (v := 1) hx hb d_Reader_unary_93 (by decide) ?_
          refine lv_iadd hx hb d_Reader_unary_94 ?_
          refine W.eq (g2 := F0 m 95 ls [.int (Int32.ofNat (a1 + 1)), .ref (ad 1)]) (by rw [← x_addN (a := a1) (b := 1)] <;> rfl) ?_
          refine k_pi (C := "ChannelMachine$Reader") (F := F_Reader) (N := 9) hx hb hts i_Reader hown t_Reader t_Reader_ok n_Reader hK hP hD hS 1 5 (by decide) (by decide) rfl (by decide) (j := 4) (x := (Int32.ofNat (a1 + 1))) rfl (hts _ k_49) (fun _ h9 => h9) rfl (by decide +kernel) d_Reader_unary_95 (fun H locs hP hD hS => ?_)
          have hmi : y_RD (upd I105 4 (Int32.ofNat (a1 + 1))) A105 (ln, s105, lm, (a1 + 1)) := hmi.at4 (by omega)
          have hbn := hmi.2.1
          dsimp only at hbn
          refine lv_iconst (v := 1) hx hb d_Reader_unary_98 (by decide) ?_
          refine y_know (fun hy91 hy92 hy93 hy94 => ?_)
          have hac9 : True := trivial
          refine W.widen (k := 0) (n := 0) (by omega) (by omega) ?_
          exact W.zret (v := 1) hx hb hr (rfl) (fun t ht hW => ⟨⟨1, ((upd I105 4 (Int32.ofNat (a1 + 1))), T, A105, O, pl, (ln, s105, lm, (a1 + 1))), rfl, ⟨hmi, rfl, rfl, rfl, ((hfr.tr fr105 (by decide)).up (by decide) _), rfl, rfl, by dsimp only; omega, by dsimp only; omega, Or.inr rfl⟩, (by dsimp only; rw [ht]; exact ⟨hP, hD, hac9⟩)⟩, hS.F ht⟩) hS.2.2 d_Reader_unary_99
      · refine lv_if_eq (tgt := 69) hx hb d_Reader_unary_59 (by decide) (fun c106 => absurd c106 (by decide)) (fun _ => ?_)
        refine lv_aload_n hx hb d_Reader_unary_62 rfl (lv_at hl 0 rfl) ?_
        refine lv_iload_n hx hb d_Reader_unary_63 rfl (lv_at hl 3 rfl) ?_
        have hFc := y_free hD hS hA
        refine va_callv (va_runV (As := [.int (Int32.ofNat k1)]) (rest := []) ⟨hx, hb, hml, hown, hts⟩ (c_Rd_write l dC dI ar N0 z ad I1 T A O pl ln cl lm a1 ((Int32.ofNat k1)) H.size (y_hs H) hmi (Or.inl (x_nneg (by omega))) (by omega)) (cwV 1 hts (x_goodV k_515 k_517 kp_12 k_2 k_518) rfl rfl rfl (by decide +kernel) ⟨Nat.le_trans (m := 5) (Nat.le_of_ble_eq_true rfl) (Nat.le_add_left 5 _), Nat.le_trans (m := 120) (Nat.le_of_ble_eq_true rfl) (Nat.le_add_left 120 _)⟩) ⟨y_blind, va_recv hK hP (ci := 3) (q0 := 1) rfl (y_W_ob (by decide) (by decide)), fun U9 hU9 hW9 => y_pre hU9 hW9 hP hD hU hZ hS hAN hN0⟩ rfl rfl hl.1 rfl (lv_room (Nat.le_of_ble_eq_true rfl)) d_Reader_unary_64 ⟨(by show 0 + (0) ≤ 0; omega), (by show 0 + (0) ≤ 0; omega)⟩) hS (fun q _ h => hFc q h) hFc (fun u t H1 locs ht hvm hw hB hz1 hk1 hS => ?_)
        obtain ⟨I107, T107, A107, O107, pl107, q107, s107, cq107, cs107⟩ := u
        dsimp only at hw hB
        rw [ht] at hB
        obtain ⟨hP, hD1, hac107⟩ := hB
        have hD : va_D Bq (y_W ad ar I107 T107 A107 O107 pl107) := hD1.weaken (fun _ q _ h => hFc q.1 h)
        generalize H1 = H at hP hS hac107 ⊢
        have hae107 := hac107
        try unfold y_ac at hae107
        try dsimp only at hae107
        refine W.widen (k := 0) (n := 0) (by omega) (by omega) ?_
        obtain ⟨hmi, e2, e4, e5, fr107, e6, e7, hge107, hcc107, hat9⟩ := hw
        rw [e2, e4, e5] at hP hD
        rw [e6, e7] at hmi
        have hP : va_P (dC, dI) y_cl (y_W ad ar I107 T A107 O pl) H := hP
        have hD : va_D Bq (y_W ad ar I107 T A107 O pl) := hD
        have hbn := hmi.2.1
        dsimp only at hbn
        rw [hat9] at hmi
        have hbn := hmi.2.1
        dsimp only at hbn
        refine lv_iconst (v := 1) hx hb d_Reader_unary_67 (by decide) ?_
        refine y_know (fun hy91 hy92 hy93 hy94 => ?_)
        have hac9 : True := trivial
        refine W.widen (k := 0) (n := 0) (by omega) (by omega) ?_
        exact W.zret (v := 1) hx hb hr (rfl) (fun t ht hW => ⟨⟨1, (I107, T, A107, O, pl, (ln, s107, lm, a1)), rfl, ⟨hmi, rfl, rfl, rfl, (hfr.tr fr107 (by decide)), rfl, rfl, by dsimp only; omega, by dsimp only; omega, Or.inr rfl⟩, (by dsimp only; rw [ht]; exact ⟨hP, hD, hac9⟩)⟩, hS.F ht⟩) hS.2.2 d_Reader_unary_68
    · refine lv_if_eq (tgt := 55) hx hb d_Reader_unary_23 (by decide) (fun c108 => absurd c108 (by decide)) (fun _ => ?_)
      obtain ⟨e9, he1, he2, he3⟩ := y_rg (lo := 48) (hi := 57) hr57.1 hr57.2 (by decide) (by decide)
      refine lv_iload_n hx hb d_Reader_unary_26 rfl (lv_at hl 3 rfl) ?_
      refine lv_bipush (v := 10) hx hb d_Reader_unary_27 (by decide) ?_
      refine lv_imul hx hb d_Reader_unary_29 ?_
      refine W.eq (g2 := F0 m 30 ls [.int (Int32.ofNat (k1 * 10))]) (by rw [← x_mulN (a := k1) (b := 10)] <;> rfl) ?_
      refine lv_aload_n hx hb d_Reader_unary_30 rfl (lv_at hl 0 rfl) ?_
      have hFc := y_free hD hS hA
      refine va_calli (va_runV (As := []) (rest := [.int (Int32.ofNat (k1 * 10))]) ⟨hx, hb, hml, hown, hts⟩ (c_Rd_look l dC dI ar N0 z ad I1 T A O pl ln cl lm a1 H.size (y_hs H) hmi) (cwV 0 hts (x_goodV k_338 k_340 kp_3 k_2 k_341) rfl rfl rfl (by decide +kernel) ⟨Nat.le_trans (m := 5) (Nat.le_of_ble_eq_true rfl) (Nat.le_add_left 5 _), Nat.le_trans (m := 120) (Nat.le_of_ble_eq_true rfl) (Nat.le_add_left 120 _)⟩) ⟨y_blind, va_recv hK hP (ci := 3) (q0 := 1) rfl (y_W_ob (by decide) (by decide)), fun U9 hU9 hW9 => y_pre hU9 hW9 hP hD hU hZ hS hAN hN0⟩ rfl rfl hl.1 rfl (lv_room (Nat.le_of_ble_eq_true rfl)) d_Reader_unary_31 ⟨(by show 0 + (0) ≤ 0; omega), (by show 0 + (0) ≤ 0; omega)⟩) hS (fun q _ h => hFc q h) hFc (fun r_109 u t H1 locs ht hvm hw hB hz1 hk1 hS => ?_)
      obtain ⟨I110, T110, A110, O110, pl110, q110, s110, cq110, cs110⟩ := u
      dsimp only at hw hB
      rw [ht] at hB
      obtain ⟨hP, hD1, hac110⟩ := hB
      have hD : va_D Bq (y_W ad ar I110 T110 A110 O110 pl110) := hD1.weaken (fun _ q _ h => hFc q.1 h)
      generalize H1 = H at hP hS hac110 ⊢
      have hae110 := hac110
      try unfold y_ac at hae110
      try dsimp only at hae110
      refine W.widen (k := 0) (n := 0) (by omega) (by omega) ?_
      obtain ⟨h9, hw⟩ := hw
      cases h9
      obtain rfl := hw
      refine W.eq (g2 := F0 m 34 ls [.int (Int32.ofNat e9), .int (Int32.ofNat (k1 * 10))]) (by rw [he3]) ?_
      refine lv_iadd hx hb d_Reader_unary_34 ?_
      refine W.eq (g2 := F0 m 35 ls [.int (Int32.ofNat ((k1 * 10) + e9))]) (by rw [← x_addN (a := (k1 * 10)) (b := e9)] <;> rfl) ?_
      refine lv_bipush (v := 48) hx hb d_Reader_unary_35 (by decide) ?_
      refine lv_isub hx hb d_Reader_unary_37 ?_
      refine W.eq (g2 := F0 m 38 ls [.int (Int32.ofNat (((k1 * 10) + e9) - 48))]) (by rw [← x_subN (a := ((k1 * 10) + e9)) (b := 48) (by omega)] <;> rfl) ?_
      refine lv_istore_n (lv' := [(3, .int (Int32.ofNat (((k1 * 10) + e9) - 48))), (0, .ref (ad 1)), (1, .int (Int32.ofNat dp)), (2, .int (y_lk A lm aa)), (4, .int (Int32.ofNat i1))]) hx hb d_Reader_unary_38 rfl hl (by decide) rfl (fun ls hl => ?_)
      have hlt : a1 < lm := y_lk_lo hr57.1 (by decide)
      refine lv_aload_n hx hb d_Reader_unary_39 rfl (lv_at hl 1 rfl) ?_
      refine lv_dup hx hb d_Reader_unary_40 rfl ?_
      refine k_g (C := "ChannelMachine$Reader") (F := F_Reader) (N := 9) hx hb hts i_Reader hown hK hP 1 5 (by decide) (by decide) rfl (by decide) (d := (1, 4)) rfl (hts _ k_49) (fun _ h9 => h9) (v := .int (Int32.ofNat a1)) (congrArg Value.int hmi.1.2.2.2) d_Reader_unary_41 ?_
      refine lv_iconst (v := 1) hx hb d_Reader_unary_44 (by decide) ?_
      refine lv_iadd hx hb d_Reader_unary_45 ?_
      refine W.eq (g2 := F0 m 46 ls [.int (Int32.ofNat (a1 + 1)), .ref (ad 1)]) (by rw [← x_addN (a := a1) (b := 1)] <;> rfl) ?_
      refine k_pi (C := "ChannelMachine$Reader") (F := F_Reader) (N := 9) hx hb hts i_Reader hown t_Reader t_Reader_ok n_Reader hK hP hD hS 1 5 (by decide) (by decide) rfl (by decide) (j := 4) (x := (Int32.ofNat (a1 + 1))) rfl (hts _ k_49) (fun _ h9 => h9) rfl (by decide +kernel) d_Reader_unary_46 (fun H locs hP hD hS => ?_)
      have hmi : y_RD (upd I1 4 (Int32.ofNat (a1 + 1))) A (ln, cl, lm, (a1 + 1)) := hmi.at4 (by omega)
      have hbn := hmi.2.1
      dsimp only at hbn
      refine lv_iinc (v := (Int32.ofNat (i1 + 1))) (lv' := [(4, .int (Int32.ofNat (i1 + 1))), (3, .int (Int32.ofNat (((k1 * 10) + e9) - 48))), (0, .ref (ad 1)), (1, .int (Int32.ofNat dp)), (2, .int (y_lk A lm aa))]) hx hb d_Reader_unary_49 hl (k := 4) rfl (x_incN i1) (by decide) rfl (fun ls hl => ?_)
      refine lv_goto (tgt := 10) hx hb d_Reader_unary_52 (by decide) ?_
      have hK2 := y_dgK (a2 := (a1 + 1)) hKK (by omega) he3 hr57
      exact ih (3 - (i1 + 1)) (by omega) H locs ls ⟨(upd I1 4 (Int32.ofNat (a1 + 1))), (a1 + 1), i1 + 1, _, rfl, hK2, hmi, by omega, (hfr.up (by decide) _), hP, hD, hS, lv_sub hl [2, 3, 4, 1, 0] rfl⟩
theorem y_rec : ∀ nn : Nat, (∀ (l : Launch) (dC : Nat → ClassId) (dI : Nat → Nat → Nat) (ar : Nat → ClassId) (N0 : Nat) (z : Nat → Nat) (ad : Nat → Nat) (I : Nat → Int32) (T : Int64) (A : Nat → Nat → Int32) (O : Nat → Option Nat) (pl : va_W) (ln cl lm aa : Nat) (lv dp : Nat) (sz w0 : Nat) (hmi : y_RD I A (ln, cl, lm, aa)) (hcl : cl ≤ 72) (hlv : lv ≤ 3) (hdp : 1 ≤ dp ∧ dp ≤ 5) (hrk : (5 - dp) * 5 + (4 - lv) < nn) , Met l ({ cls := "ChannelMachine$Reader", name := "joined", desc := "(II)Z" } : Jvm.MethodName) ((Jvm.Cond.code ({ cls := "ChannelMachine$Reader", name := "joined", desc := "(II)Z" } : Jvm.MethodName) prog_8_method_28_code (6 : Nat) (Option.some Jvm.ClassFile.FieldType.boolean)) :: x_T) ({ frames := nn + 5, cells := 0, slots := 0, locals := 40 * nn + 120 }) (y_Pc (dC, dI) ar N0 z (y_W ad ar I T A O pl) sz w0 [.ref (ad 1), .int (Int32.ofNat lv), .int (Int32.ofNat dp)]) (va_Qi (fun (r : Int32) (u : (Nat → Int32) × Int64 × (Nat → Nat → Int32) × (Nat → Option Nat) × va_W × (Nat × Nat × Nat × Nat)) => y_RD u.1 u.2.2.1 u.2.2.2.2.2 ∧ u.2.1 = T ∧ u.2.2.2.1 = O ∧ u.2.2.2.2.1 = pl ∧ m_fr [2, 4, 5] I u.1 ∧ u.2.2.2.2.2.1 = ln ∧ u.2.2.2.2.2.2.2.1 = lm ∧ aa ≤ u.2.2.2.2.2.2.2.2 ∧ (u.2.2.2.2.2.2.1 ≤ 72 ∨ 72 < cl) ∧ (r = 0 ∨ r = 1)) (fun u t => va_P (dC, dI) y_cl (y_W ad ar u.1 u.2.1 u.2.2.1 u.2.2.2.1 u.2.2.2.2.1) t.heap ∧ va_D (va_A (y_W ad ar I T A O pl) sz) (y_W ad ar u.1 u.2.1 u.2.2.1 u.2.2.2.1 u.2.2.2.2.1) ∧ True) (va_A (y_W ad ar I T A O pl) sz)) (0) (0) (va_A (y_W ad ar I T A O pl) sz)) ∧ (∀ (l : Launch) (dC : Nat → ClassId) (dI : Nat → Nat → Nat) (ar : Nat → ClassId) (N0 : Nat) (z : Nat → Nat) (ad : Nat → Nat) (I : Nat → Int32) (T : Int64) (A : Nat → Nat → Int32) (O : Nat → Option Nat) (pl : va_W) (ln cl lm aa : Nat) (dp : Nat) (sz w0 : Nat) (hmi : y_RD I A (ln, cl, lm, aa)) (hcl : cl ≤ 72) (hdp : 1 ≤ dp ∧ dp ≤ 5) (hrk : (5 - dp) * 5 < nn) , Met l ({ cls := "ChannelMachine$Reader", name := "unary", desc := "(I)Z" } : Jvm.MethodName) ((Jvm.Cond.code ({ cls := "ChannelMachine$Reader", name := "unary", desc := "(I)Z" } : Jvm.MethodName) prog_8_method_29_code (5 : Nat) (Option.some Jvm.ClassFile.FieldType.boolean)) :: x_T) ({ frames := nn + 5, cells := 0, slots := 0, locals := 40 * nn + 120 }) (y_Pc (dC, dI) ar N0 z (y_W ad ar I T A O pl) sz w0 [.ref (ad 1), .int (Int32.ofNat dp)]) (va_Qi (fun (r : Int32) (u : (Nat → Int32) × Int64 × (Nat → Nat → Int32) × (Nat → Option Nat) × va_W × (Nat × Nat × Nat × Nat)) => y_RD u.1 u.2.2.1 u.2.2.2.2.2 ∧ u.2.1 = T ∧ u.2.2.2.1 = O ∧ u.2.2.2.2.1 = pl ∧ m_fr [2, 4, 5] I u.1 ∧ u.2.2.2.2.2.1 = ln ∧ u.2.2.2.2.2.2.2.1 = lm ∧ aa ≤ u.2.2.2.2.2.2.2.2 ∧ (u.2.2.2.2.2.2.1 ≤ 72 ∨ 72 < cl) ∧ (r = 0 ∨ r = 1)) (fun u t => va_P (dC, dI) y_cl (y_W ad ar u.1 u.2.1 u.2.2.1 u.2.2.2.1 u.2.2.2.2.1) t.heap ∧ va_D (va_A (y_W ad ar I T A O pl) sz) (y_W ad ar u.1 u.2.1 u.2.2.1 u.2.2.2.1 u.2.2.2.2.1) ∧ True) (va_A (y_W ad ar I T A O pl) sz)) (0) (0) (va_A (y_W ad ar I T A O pl) sz)) := by
  intro nn
  induction nn with
  | zero => exact ⟨by intros; omega, by intros; omega⟩
  | succ nn ih => exact ⟨st_J nn ih.1 ih.2, st_U nn ih.1 ih.2⟩
theorem c_Rd_joined (l : Launch) (dC : Nat → ClassId) (dI : Nat → Nat → Nat) (ar : Nat → ClassId) (N0 : Nat) (z : Nat → Nat) (ad : Nat → Nat) (I : Nat → Int32) (T : Int64) (A : Nat → Nat → Int32) (O : Nat → Option Nat) (pl : va_W) (ln cl lm aa : Nat) (lv dp : Nat) (sz w0 : Nat) (hmi : y_RD I A (ln, cl, lm, aa)) (hcl : cl ≤ 72) (hlv : lv ≤ 3) (hdp : 1 ≤ dp ∧ dp ≤ 5) (hrk : (5 - dp) * 5 + (4 - lv) < 25) : Met l ({ cls := "ChannelMachine$Reader", name := "joined", desc := "(II)Z" } : Jvm.MethodName) ((Jvm.Cond.code ({ cls := "ChannelMachine$Reader", name := "joined", desc := "(II)Z" } : Jvm.MethodName) prog_8_method_28_code (6 : Nat) (Option.some Jvm.ClassFile.FieldType.boolean)) :: x_T) ({ frames := 30, cells := 0, slots := 0, locals := 1120 }) (y_Pc (dC, dI) ar N0 z (y_W ad ar I T A O pl) sz w0 [.ref (ad 1), .int (Int32.ofNat lv), .int (Int32.ofNat dp)]) (va_Qi (fun (r : Int32) (u : (Nat → Int32) × Int64 × (Nat → Nat → Int32) × (Nat → Option Nat) × va_W × (Nat × Nat × Nat × Nat)) => y_RD u.1 u.2.2.1 u.2.2.2.2.2 ∧ u.2.1 = T ∧ u.2.2.2.1 = O ∧ u.2.2.2.2.1 = pl ∧ m_fr [2, 4, 5] I u.1 ∧ u.2.2.2.2.2.1 = ln ∧ u.2.2.2.2.2.2.2.1 = lm ∧ aa ≤ u.2.2.2.2.2.2.2.2 ∧ (u.2.2.2.2.2.2.1 ≤ 72 ∨ 72 < cl) ∧ (r = 0 ∨ r = 1)) (fun u t => va_P (dC, dI) y_cl (y_W ad ar u.1 u.2.1 u.2.2.1 u.2.2.2.1 u.2.2.2.2.1) t.heap ∧ va_D (va_A (y_W ad ar I T A O pl) sz) (y_W ad ar u.1 u.2.1 u.2.2.1 u.2.2.2.1 u.2.2.2.2.1) ∧ True) (va_A (y_W ad ar I T A O pl) sz)) (0) (0) (va_A (y_W ad ar I T A O pl) sz) := (y_rec 25).1 l dC dI ar N0 z ad I T A O pl ln cl lm aa lv dp sz w0 hmi hcl hlv hdp hrk
set_option maxHeartbeats 4000000 in
set_option maxRecDepth 100000 in
theorem c_Rd_expression (l : Launch) (dC : Nat → ClassId) (dI : Nat → Nat → Nat) (ar : Nat → ClassId) (N0 : Nat) (z : Nat → Nat) (ad : Nat → Nat) (I : Nat → Int32) (T : Int64) (A : Nat → Nat → Int32) (O : Nat → Option Nat) (pl : va_W) (ln cl lm aa : Nat) (sz w0 : Nat) (hmi : y_RD I A (ln, cl, lm, aa))  : Met l ({ cls := "ChannelMachine$Reader", name := "expression", desc := "()Z" } : Jvm.MethodName) ((Jvm.Cond.code ({ cls := "ChannelMachine$Reader", name := "expression", desc := "()Z" } : Jvm.MethodName) prog_8_method_24_code (1 : Nat) (Option.some Jvm.ClassFile.FieldType.boolean)) :: x_T) ({ frames := 31, cells := 0, slots := 0, locals := 1145 }) (y_Pc (dC, dI) ar N0 z (y_W ad ar I T A O pl) sz w0 [.ref (ad 1)]) (va_Qi (fun (r : Int32) (u : (Nat → Int32) × Int64 × (Nat → Nat → Int32) × (Nat → Option Nat) × va_W × (Nat × Nat × Nat × Nat)) => y_RD u.1 u.2.2.1 u.2.2.2.2.2 ∧ u.2.1 = T ∧ u.2.2.2.1 = O ∧ u.2.2.2.2.1 = pl ∧ m_fr [2, 4, 5] I u.1 ∧ u.2.2.2.2.2.1 = ln ∧ u.2.2.2.2.2.2.2.1 = lm ∧ aa ≤ u.2.2.2.2.2.2.2.2 ∧ (u.2.2.2.2.2.2.1 ≤ 72 ∨ 72 < cl) ∧ u.2.2.2.2.2.2.1 ≤ 72 ∧ (r = 0 ∨ r = 1)) (fun u t => va_P (dC, dI) y_cl (y_W ad ar u.1 u.2.1 u.2.2.1 u.2.2.2.1 u.2.2.2.2.1) t.heap ∧ va_D (va_A (y_W ad ar I T A O pl) sz) (y_W ad ar u.1 u.2.1 u.2.2.1 u.2.2.2.1 u.2.2.2.2.1) ∧ True) (va_A (y_W ad ar I T A O pl) sz)) (0) (0) (va_A (y_W ad ar I T A O pl) sz) := by
  refine Met.ofW (cc := prog_8_method_24_code) (maxL := 1) (ret := (some .boolean)) (by decide) rfl ?_
  intro p e s m args below meth c s₁ B hml hv
  obtain ⟨rfl, hsz, hN0, hP, hU, hZ, hD0, hw0⟩ := hv
  have hK := hU.2.1
  have hx := B.exec
  have hb := B.bytes
  have hr := B.returns
  have hts : ∀ w ∈ x_T, w.before ([.ref (ad 1)] : List Value).toArray s = true := fun w h => atoms_spec (ws := (Jvm.Cond.code ({ cls := "ChannelMachine$Reader", name := "expression", desc := "()Z" } : Jvm.MethodName) prog_8_method_24_code (1 : Nat) (Option.some Jvm.ClassFile.FieldType.boolean)) :: x_T) B.pre w (List.mem_cons_of_mem _ h)
  have hown : s.vm.findClass "ChannelMachine$Reader" = some m.cls := findClass_of_methodNamed B.named
  have hlocks := B.notSynchronized
  subst hsz
  subst hw0
  have hD := hD0.self (sz := s.heap.size)
  have hAN := x_AN hD0 hN0
  generalize hAe : va_A (y_W ad ar I T A O pl) s.heap.size = Bq at hD hAN ⊢
  have hA : ∀ q : Nat, s.heap.size ≤ q → Bq q := fun q h => by rw [← hAe]; exact Or.inr h
  have hS : va_S Bq s.heap s.heap [] := va_S.rf
  have hl := lv_entry ([.ref (ad 1)]) (n := 1) (Nat.le_of_ble_eq_true rfl)
  rw [lg_entry_eq]
  generalize (lg_sl ([.ref (ad 1)]) ++ List.replicate (1 - (lg_sl ([.ref (ad 1)])).length) Slot.unset).toArray = ls at hl ⊢
  have hl : lv_has ls 1 [(0, .ref (ad 1))] := hl
  have hbn := hmi.2.1
  dsimp only at hbn
  refine lv_aload_n hx hb d_Reader_expression_0 rfl (lv_at hl 0 rfl) ?_
  refine lv_iconst (v := 0) hx hb d_Reader_expression_1 (by decide) ?_
  refine W.eq (g2 := F0 m 2 ls [.int (Int32.ofNat 0), .ref (ad 1)]) rfl ?_
  refine k_pi (C := "ChannelMachine$Reader") (F := F_Reader) (N := 9) hx hb hts i_Reader hown t_Reader t_Reader_ok n_Reader hK hP hD hS 1 3 (by decide) (by decide) rfl (by decide) (j := 2) (x := (Int32.ofNat 0)) rfl (hts _ k_47) (fun _ h9 => h9) rfl (by decide +kernel) d_Reader_expression_2 (fun H locs hP hD hS => ?_)
  have hmi : y_RD (upd I 2 (Int32.ofNat 0)) A (ln, 0, lm, aa) := hmi.cl0
  have hbn := hmi.2.1
  dsimp only at hbn
  refine lv_aload_n hx hb d_Reader_expression_5 rfl (lv_at hl 0 rfl) ?_
  refine lv_iconst (v := 0) hx hb d_Reader_expression_6 (by decide) ?_
  refine W.eq (g2 := F0 m 7 ls [.int (Int32.ofNat 0), .ref (ad 1)]) rfl ?_
  refine lv_iconst (v := 1) hx hb d_Reader_expression_7 (by decide) ?_
  refine W.eq (g2 := F0 m 8 ls [.int (Int32.ofNat 1), .int (Int32.ofNat 0), .ref (ad 1)]) rfl ?_
  have hFc := y_free hD hS hA
  refine va_calli (va_runV (As := [.int (Int32.ofNat 0), .int (Int32.ofNat 1)]) (rest := []) ⟨hx, hb, hml, hown, hts⟩ (c_Rd_joined l dC dI ar N0 z ad (upd I 2 (Int32.ofNat 0)) T A O pl ln 0 lm aa 0 1 H.size (y_hs H) hmi (by omega) (by omega) (by omega) (by omega)) (cwV 2 hts (x_goodV k_504 k_506 kp_10 k_2 k_507) rfl rfl rfl (by decide +kernel) ⟨Nat.le_of_ble_eq_true rfl, Nat.le_of_ble_eq_true rfl⟩) ⟨y_blind, va_recv hK hP (ci := 3) (q0 := 1) rfl (y_W_ob (by decide) (by decide)), fun U9 hU9 hW9 => y_pre hU9 hW9 hP hD hU hZ hS hAN hN0⟩ rfl rfl hl.1 rfl (lv_room (Nat.le_of_ble_eq_true rfl)) d_Reader_expression_8 ⟨(by show 0 + (0) ≤ 0; omega), (by show 0 + (0) ≤ 0; omega)⟩) hS (fun q _ h => hFc q h) hFc (fun r_1 u t H1 locs ht hvm hw hB hz1 hk1 hS => ?_)
  obtain ⟨I2, T2, A2, O2, pl2, q2, s2, cq2, cs2⟩ := u
  dsimp only at hw hB
  rw [ht] at hB
  obtain ⟨hP, hD1, hac2⟩ := hB
  have hD : va_D Bq (y_W ad ar I2 T2 A2 O2 pl2) := hD1.weaken (fun _ q _ h => hFc q.1 h)
  generalize H1 = H at hP hS hac2 ⊢
  have hae2 := hac2
  try unfold y_ac at hae2
  try dsimp only at hae2
  refine W.widen (k := 0) (n := 0) (by omega) (by omega) ?_
  obtain ⟨hmi, e2, e4, e5, fr2, e6, e7, hge2, hcc2, hr9⟩ := hw
  rw [e2, e4, e5] at hP hD
  rw [e6, e7] at hmi
  have hP : va_P (dC, dI) y_cl (y_W ad ar I2 T A2 O pl) H := hP
  have hD : va_D Bq (y_W ad ar I2 T A2 O pl) := hD
  have hbn := hmi.2.1
  dsimp only at hbn
  rcases hr9 with rfl | rfl
  · refine y_know (fun hy91 hy92 hy93 hy94 => ?_)
    have hac9 : True := trivial
    refine W.widen (k := 0) (n := 0) (by omega) (by omega) ?_
    exact W.zret (v := 0) hx hb hr (rfl) (fun t ht hW => ⟨⟨0, (I2, T, A2, O, pl, (ln, s2, lm, cs2)), rfl, ⟨hmi, rfl, rfl, rfl, ((m_fr.rf.up (by decide) _).tr fr2 (by decide)), rfl, rfl, by dsimp only; omega, by dsimp only; omega, by dsimp only; omega, Or.inl rfl⟩, (by dsimp only; rw [ht]; exact ⟨hP, hD, hac9⟩)⟩, hS.F ht⟩) hS.2.2 d_Reader_expression_11
  · refine y_know (fun hy91 hy92 hy93 hy94 => ?_)
    have hac9 : True := trivial
    refine W.widen (k := 0) (n := 0) (by omega) (by omega) ?_
    exact W.zret (v := 1) hx hb hr (rfl) (fun t ht hW => ⟨⟨1, (I2, T, A2, O, pl, (ln, s2, lm, cs2)), rfl, ⟨hmi, rfl, rfl, rfl, ((m_fr.rf.up (by decide) _).tr fr2 (by decide)), rfl, rfl, by dsimp only; omega, by dsimp only; omega, by dsimp only; omega, Or.inr rfl⟩, (by dsimp only; rw [ht]; exact ⟨hP, hD, hac9⟩)⟩, hS.F ht⟩) hS.2.2 d_Reader_expression_11
