-- ===== 9d.ycm: set, variable, channel, count, give, take, run of the class, by program =====
theorem k_13 : (Jvm.Cond.initialized "java/lang/IllegalArgumentException") ∈ x_T := x_at 13 (by decide +kernel) (by decide +kernel)
theorem k_28 : (Jvm.Cond.initialized "java/util/NoSuchElementException") ∈ x_T := x_at 28 (by decide +kernel) (by decide +kernel)
theorem k_209 : (Jvm.Cond.methodLink "ChannelMachine" (150 : Nat) ({ cls := "java/util/List", name := "size", desc := "()I" } : Jvm.MethodName)) ∈ x_T := x_at 209 (by decide +kernel) (by decide +kernel)
theorem k_230 : (Jvm.Cond.classLink "ChannelMachine" (31 : Nat) "java/lang/IllegalArgumentException") ∈ x_T := x_at 230 (by decide +kernel) (by decide +kernel)
theorem k_299 : (Jvm.Cond.classLink "ChannelMachine" (41 : Nat) "java/lang/IllegalStateException") ∈ x_T := x_at 299 (by decide +kernel) (by decide +kernel)
theorem k_717 : (Jvm.Cond.methodLink "ChannelMachine" (88 : Nat) ({ cls := "ChannelMachine$Machine", name := "perform", desc := "(I)I" } : Jvm.MethodName)) ∈ x_T := x_at 717 (by decide +kernel) (by decide +kernel)
theorem k_718 : (Jvm.Cond.instanceMethod ({ cls := "ChannelMachine$Machine", name := "perform", desc := "(I)I" } : Jvm.MethodName)) ∈ x_T := x_at 718 (by decide +kernel) (by decide +kernel)
theorem k_719 : (Jvm.Cond.selects "ChannelMachine$Machine" ({ cls := "ChannelMachine$Machine", name := "perform", desc := "(I)I" } : Jvm.MethodName) ({ cls := "ChannelMachine$Machine", name := "perform", desc := "(I)I" } : Jvm.MethodName)) ∈ x_T := x_at 719 (by decide +kernel) (by decide +kernel)
theorem k_720 : (Jvm.Cond.code ({ cls := "ChannelMachine$Machine", name := "perform", desc := "(I)I" } : Jvm.MethodName) prog_6_method_5_code (4 : Nat) (Option.some Jvm.ClassFile.FieldType.int)) ∈ x_T := x_at 720 (by decide +kernel) (by decide +kernel)
theorem k_904 : (Jvm.Cond.methodLink "ChannelMachine" (96 : Nat) ({ cls := "ChannelMachine$Row", name := "isFull", desc := "()Z" } : Jvm.MethodName)) ∈ x_T := x_at 904 (by decide +kernel) (by decide +kernel)
theorem k_906 : (Jvm.Cond.methodLink "ChannelMachine" (103 : Nat) ({ cls := "ChannelMachine$Machine", name := "accept", desc := "(I)V" } : Jvm.MethodName)) ∈ x_T := x_at 906 (by decide +kernel) (by decide +kernel)
theorem k_907 : (Jvm.Cond.instanceMethod ({ cls := "ChannelMachine$Machine", name := "accept", desc := "(I)V" } : Jvm.MethodName)) ∈ x_T := x_at 907 (by decide +kernel) (by decide +kernel)
theorem k_908 : (Jvm.Cond.selects "ChannelMachine$Machine" ({ cls := "ChannelMachine$Machine", name := "accept", desc := "(I)V" } : Jvm.MethodName) ({ cls := "ChannelMachine$Machine", name := "accept", desc := "(I)V" } : Jvm.MethodName)) ∈ x_T := x_at 908 (by decide +kernel) (by decide +kernel)
theorem k_909 : (Jvm.Cond.code ({ cls := "ChannelMachine$Machine", name := "accept", desc := "(I)V" } : Jvm.MethodName) prog_6_method_28_code (2 : Nat) (Option.none : Option Jvm.ClassFile.FieldType)) ∈ x_T := x_at 909 (by decide +kernel) (by decide +kernel)
theorem k_918 : (Jvm.Cond.classLink "ChannelMachine" (113 : Nat) "java/util/NoSuchElementException") ∈ x_T := x_at 918 (by decide +kernel) (by decide +kernel)
theorem k_934 : (Jvm.Cond.methodLink "ChannelMachine" (118 : Nat) ({ cls := "ChannelMachine$Machine", name := "handOut", desc := "()I" } : Jvm.MethodName)) ∈ x_T := x_at 934 (by decide +kernel) (by decide +kernel)
theorem k_935 : (Jvm.Cond.instanceMethod ({ cls := "ChannelMachine$Machine", name := "handOut", desc := "()I" } : Jvm.MethodName)) ∈ x_T := x_at 935 (by decide +kernel) (by decide +kernel)
theorem k_936 : (Jvm.Cond.selects "ChannelMachine$Machine" ({ cls := "ChannelMachine$Machine", name := "handOut", desc := "()I" } : Jvm.MethodName) ({ cls := "ChannelMachine$Machine", name := "handOut", desc := "()I" } : Jvm.MethodName)) ∈ x_T := x_at 936 (by decide +kernel) (by decide +kernel)
theorem k_937 : (Jvm.Cond.code ({ cls := "ChannelMachine$Machine", name := "handOut", desc := "()I" } : Jvm.MethodName) prog_6_method_29_code (3 : Nat) (Option.some Jvm.ClassFile.FieldType.int)) ∈ x_T := x_at 937 (by decide +kernel) (by decide +kernel)
theorem kn_94 : (Jvm.Cond.fieldLinkNest "ChannelMachine" (107 : Nat) "ChannelMachine$Row" "size" "I" "ChannelMachine") ∈ x_nest := x_nest_at 94 (by decide +kernel) (by decide +kernel)
theorem kn_133 : (Jvm.Cond.fieldLinkNest "ChannelMachine" (139 : Nat) "ChannelMachine$Channel" "sender" "LChannelMachine$Task;" "ChannelMachine") ∈ x_nest := x_nest_at 133 (by decide +kernel) (by decide +kernel)
theorem kn_136 : (Jvm.Cond.fieldLinkNest "ChannelMachine" (134 : Nat) "ChannelMachine$Channel" "receiver" "LChannelMachine$Task;" "ChannelMachine") ∈ x_nest := x_nest_at 136 (by decide +kernel) (by decide +kernel)
theorem kn_151 : (Jvm.Cond.fieldLinkNest "ChannelMachine" (124 : Nat) "ChannelMachine$Machine" "variables" "[I" "ChannelMachine") ∈ x_nest := x_nest_at 151 (by decide +kernel) (by decide +kernel)
theorem kn_153 : (Jvm.Cond.fieldLinkNest "ChannelMachine" (130 : Nat) "ChannelMachine$Machine" "channels" "[LChannelMachine$Channel;" "ChannelMachine") ∈ x_nest := x_nest_at 153 (by decide +kernel) (by decide +kernel)
theorem kn_155 : (Jvm.Cond.fieldLinkNest "ChannelMachine" (92 : Nat) "ChannelMachine$Machine" "gifts" "LChannelMachine$Row;" "ChannelMachine") ∈ x_nest := x_nest_at 155 (by decide +kernel) (by decide +kernel)
theorem kn_157 : (Jvm.Cond.fieldLinkNest "ChannelMachine" (110 : Nat) "ChannelMachine$Machine" "box" "LChannelMachine$Row;" "ChannelMachine") ∈ x_nest := x_nest_at 157 (by decide +kernel) (by decide +kernel)
theorem kn_159 : (Jvm.Cond.fieldLinkNest "ChannelMachine" (146 : Nat) "ChannelMachine$Machine" "queue" "Ljava/util/List;" "ChannelMachine") ∈ x_nest := x_nest_at 159 (by decide +kernel) (by decide +kernel)
theorem kn_161 : (Jvm.Cond.fieldLinkNest "ChannelMachine" (160 : Nat) "ChannelMachine$Machine" "sleepers" "Ljava/util/List;" "ChannelMachine") ∈ x_nest := x_nest_at 161 (by decide +kernel) (by decide +kernel)
theorem kn_164 : (Jvm.Cond.fieldLinkNest "ChannelMachine" (83 : Nat) "ChannelMachine$Machine" "state" "I" "ChannelMachine") ∈ x_nest := x_nest_at 164 (by decide +kernel) (by decide +kernel)
theorem kn_166 : (Jvm.Cond.fieldLinkNest "ChannelMachine" (154 : Nat) "ChannelMachine$Machine" "tasks" "I" "ChannelMachine") ∈ x_nest := x_nest_at 166 (by decide +kernel) (by decide +kernel)
theorem kn_168 : (Jvm.Cond.fieldLinkNest "ChannelMachine" (157 : Nat) "ChannelMachine$Machine" "acts" "I" "ChannelMachine") ∈ x_nest := x_nest_at 168 (by decide +kernel) (by decide +kernel)
theorem kn_170 : (Jvm.Cond.fieldLinkNest "ChannelMachine" (142 : Nat) "ChannelMachine$Machine" "time" "J" "ChannelMachine") ∈ x_nest := x_nest_at 170 (by decide +kernel) (by decide +kernel)
theorem x_tChannelMachine_35 : x_okT (vx_atS "ChannelMachine" 35 "java/lang/IllegalArgumentException" x_up2) = true := by decide +kernel
theorem x_tChannelMachine_45 : x_okT (vx_atS "ChannelMachine" 45 "java/lang/IllegalStateException" x_up2) = true := by decide +kernel
theorem d_CM_set_0 : decode prog_1_method_9_code 0 = .ok (.iload_n 1, 1) := by decide +kernel
theorem d_CM_set_1 : decode prog_1_method_9_code 1 = .ok (.ifCond .lt 9, 3) := by decide +kernel
theorem d_CM_set_4 : decode prog_1_method_9_code 4 = .ok (.iload_n 1, 1) := by decide +kernel
theorem d_CM_set_5 : decode prog_1_method_9_code 5 = .ok (.bipush 6, 2) := by decide +kernel
theorem d_CM_set_7 : decode prog_1_method_9_code 7 = .ok (.if_icmp .lt 13, 3) := by decide +kernel
theorem d_CM_set_10 : decode prog_1_method_9_code 10 = .ok (.new 31, 3) := by decide +kernel
theorem d_CM_set_13 : decode prog_1_method_9_code 13 = .ok (.dup, 1) := by decide +kernel
theorem d_CM_set_14 : decode prog_1_method_9_code 14 = .ok (.ldc 122, 2) := by decide +kernel
theorem d_CM_set_16 : decode prog_1_method_9_code 16 = .ok (.invokespecial 35, 3) := by decide +kernel
theorem d_CM_set_19 : decode prog_1_method_9_code 19 = .ok (.athrow, 1) := by decide +kernel
theorem d_CM_set_20 : decode prog_1_method_9_code 20 = .ok (.aload_n 0, 1) := by decide +kernel
theorem d_CM_set_21 : decode prog_1_method_9_code 21 = .ok (.getfield 19, 3) := by decide +kernel
theorem d_CM_set_24 : decode prog_1_method_9_code 24 = .ok (.getfield 124, 3) := by decide +kernel
theorem d_CM_set_27 : decode prog_1_method_9_code 27 = .ok (.iload_n 1, 1) := by decide +kernel
theorem d_CM_set_28 : decode prog_1_method_9_code 28 = .ok (.iload_n 2, 1) := by decide +kernel
theorem d_CM_set_29 : decode prog_1_method_9_code 29 = .ok (.iastore, 1) := by decide +kernel
theorem d_CM_set_30 : decode prog_1_method_9_code 30 = .ok (.return_, 1) := by decide +kernel
theorem d_CM_variable_0 : decode prog_1_method_8_code 0 = .ok (.iload_n 1, 1) := by decide +kernel
theorem d_CM_variable_1 : decode prog_1_method_8_code 1 = .ok (.ifCond .lt 9, 3) := by decide +kernel
theorem d_CM_variable_4 : decode prog_1_method_8_code 4 = .ok (.iload_n 1, 1) := by decide +kernel
theorem d_CM_variable_5 : decode prog_1_method_8_code 5 = .ok (.bipush 6, 2) := by decide +kernel
theorem d_CM_variable_7 : decode prog_1_method_8_code 7 = .ok (.if_icmp .lt 13, 3) := by decide +kernel
theorem d_CM_variable_10 : decode prog_1_method_8_code 10 = .ok (.new 31, 3) := by decide +kernel
theorem d_CM_variable_13 : decode prog_1_method_8_code 13 = .ok (.dup, 1) := by decide +kernel
theorem d_CM_variable_14 : decode prog_1_method_8_code 14 = .ok (.ldc 122, 2) := by decide +kernel
theorem d_CM_variable_16 : decode prog_1_method_8_code 16 = .ok (.invokespecial 35, 3) := by decide +kernel
theorem d_CM_variable_19 : decode prog_1_method_8_code 19 = .ok (.athrow, 1) := by decide +kernel
theorem d_CM_variable_20 : decode prog_1_method_8_code 20 = .ok (.aload_n 0, 1) := by decide +kernel
theorem d_CM_variable_21 : decode prog_1_method_8_code 21 = .ok (.getfield 19, 3) := by decide +kernel
theorem d_CM_variable_24 : decode prog_1_method_8_code 24 = .ok (.getfield 124, 3) := by decide +kernel
theorem d_CM_variable_27 : decode prog_1_method_8_code 27 = .ok (.iload_n 1, 1) := by decide +kernel
theorem d_CM_variable_28 : decode prog_1_method_8_code 28 = .ok (.iaload, 1) := by decide +kernel
theorem d_CM_variable_29 : decode prog_1_method_8_code 29 = .ok (.ireturn, 1) := by decide +kernel
theorem d_CM_channel_0 : decode prog_1_method_10_code 0 = .ok (.iload_n 1, 1) := by decide +kernel
theorem d_CM_channel_1 : decode prog_1_method_10_code 1 = .ok (.ifCond .lt 9, 3) := by decide +kernel
theorem d_CM_channel_4 : decode prog_1_method_10_code 4 = .ok (.iload_n 1, 1) := by decide +kernel
theorem d_CM_channel_5 : decode prog_1_method_10_code 5 = .ok (.bipush 6, 2) := by decide +kernel
theorem d_CM_channel_7 : decode prog_1_method_10_code 7 = .ok (.if_icmp .lt 13, 3) := by decide +kernel
theorem d_CM_channel_10 : decode prog_1_method_10_code 10 = .ok (.new 31, 3) := by decide +kernel
theorem d_CM_channel_13 : decode prog_1_method_10_code 13 = .ok (.dup, 1) := by decide +kernel
theorem d_CM_channel_14 : decode prog_1_method_10_code 14 = .ok (.ldc 128, 2) := by decide +kernel
theorem d_CM_channel_16 : decode prog_1_method_10_code 16 = .ok (.invokespecial 35, 3) := by decide +kernel
theorem d_CM_channel_19 : decode prog_1_method_10_code 19 = .ok (.athrow, 1) := by decide +kernel
theorem d_CM_channel_20 : decode prog_1_method_10_code 20 = .ok (.aload_n 0, 1) := by decide +kernel
theorem d_CM_channel_21 : decode prog_1_method_10_code 21 = .ok (.getfield 19, 3) := by decide +kernel
theorem d_CM_channel_24 : decode prog_1_method_10_code 24 = .ok (.getfield 130, 3) := by decide +kernel
theorem d_CM_channel_27 : decode prog_1_method_10_code 27 = .ok (.iload_n 1, 1) := by decide +kernel
theorem d_CM_channel_28 : decode prog_1_method_10_code 28 = .ok (.aaload, 1) := by decide +kernel
theorem d_CM_channel_29 : decode prog_1_method_10_code 29 = .ok (.astore_n 2, 1) := by decide +kernel
theorem d_CM_channel_30 : decode prog_1_method_10_code 30 = .ok (.aload_n 2, 1) := by decide +kernel
theorem d_CM_channel_31 : decode prog_1_method_10_code 31 = .ok (.getfield 134, 3) := by decide +kernel
theorem d_CM_channel_34 : decode prog_1_method_10_code 34 = .ok (.ifnull 5, 3) := by decide +kernel
theorem d_CM_channel_37 : decode prog_1_method_10_code 37 = .ok (.iconst 1, 1) := by decide +kernel
theorem d_CM_channel_38 : decode prog_1_method_10_code 38 = .ok (.ireturn, 1) := by decide +kernel
theorem d_CM_channel_39 : decode prog_1_method_10_code 39 = .ok (.aload_n 2, 1) := by decide +kernel
theorem d_CM_channel_40 : decode prog_1_method_10_code 40 = .ok (.getfield 139, 3) := by decide +kernel
theorem d_CM_channel_43 : decode prog_1_method_10_code 43 = .ok (.ifnull 7, 3) := by decide +kernel
theorem d_CM_channel_46 : decode prog_1_method_10_code 46 = .ok (.iconst 2, 1) := by decide +kernel
theorem d_CM_channel_47 : decode prog_1_method_10_code 47 = .ok (.goto 4, 3) := by decide +kernel
theorem d_CM_channel_50 : decode prog_1_method_10_code 50 = .ok (.iconst 0, 1) := by decide +kernel
theorem d_CM_channel_51 : decode prog_1_method_10_code 51 = .ok (.ireturn, 1) := by decide +kernel
theorem d_CM_count_0 : decode prog_1_method_11_code 0 = .ok (.iload_n 1, 1) := by decide +kernel
theorem d_CM_count_1 : decode prog_1_method_11_code 1 = .ok (.tableswitch 137 0 8 #[51, 56, 65, 78, 86, 94, 105, 116, 124], 51) := by decide +kernel
theorem d_CM_count_52 : decode prog_1_method_11_code 52 = .ok (.aload_n 0, 1) := by decide +kernel
theorem d_CM_count_53 : decode prog_1_method_11_code 53 = .ok (.getfield 23, 3) := by decide +kernel
theorem d_CM_count_56 : decode prog_1_method_11_code 56 = .ok (.ireturn, 1) := by decide +kernel
theorem d_CM_count_57 : decode prog_1_method_11_code 57 = .ok (.aload_n 0, 1) := by decide +kernel
theorem d_CM_count_58 : decode prog_1_method_11_code 58 = .ok (.getfield 19, 3) := by decide +kernel
theorem d_CM_count_61 : decode prog_1_method_11_code 61 = .ok (.getfield 142, 3) := by decide +kernel
theorem d_CM_count_64 : decode prog_1_method_11_code 64 = .ok (.l2i, 1) := by decide +kernel
theorem d_CM_count_65 : decode prog_1_method_11_code 65 = .ok (.ireturn, 1) := by decide +kernel
theorem d_CM_count_66 : decode prog_1_method_11_code 66 = .ok (.aload_n 0, 1) := by decide +kernel
theorem d_CM_count_67 : decode prog_1_method_11_code 67 = .ok (.getfield 19, 3) := by decide +kernel
theorem d_CM_count_70 : decode prog_1_method_11_code 70 = .ok (.getfield 146, 3) := by decide +kernel
theorem d_CM_count_73 : decode prog_1_method_11_code 73 = .ok (.invokeinterface 150 1, 5) := by decide +kernel
theorem d_CM_count_78 : decode prog_1_method_11_code 78 = .ok (.ireturn, 1) := by decide +kernel
theorem d_CM_count_79 : decode prog_1_method_11_code 79 = .ok (.aload_n 0, 1) := by decide +kernel
theorem d_CM_count_80 : decode prog_1_method_11_code 80 = .ok (.getfield 19, 3) := by decide +kernel
theorem d_CM_count_83 : decode prog_1_method_11_code 83 = .ok (.getfield 154, 3) := by decide +kernel
theorem d_CM_count_86 : decode prog_1_method_11_code 86 = .ok (.ireturn, 1) := by decide +kernel
theorem d_CM_count_87 : decode prog_1_method_11_code 87 = .ok (.aload_n 0, 1) := by decide +kernel
theorem d_CM_count_88 : decode prog_1_method_11_code 88 = .ok (.getfield 19, 3) := by decide +kernel
theorem d_CM_count_91 : decode prog_1_method_11_code 91 = .ok (.getfield 157, 3) := by decide +kernel
theorem d_CM_count_94 : decode prog_1_method_11_code 94 = .ok (.ireturn, 1) := by decide +kernel
theorem d_CM_count_95 : decode prog_1_method_11_code 95 = .ok (.aload_n 0, 1) := by decide +kernel
theorem d_CM_count_96 : decode prog_1_method_11_code 96 = .ok (.getfield 19, 3) := by decide +kernel
theorem d_CM_count_99 : decode prog_1_method_11_code 99 = .ok (.getfield 92, 3) := by decide +kernel
theorem d_CM_count_102 : decode prog_1_method_11_code 102 = .ok (.getfield 107, 3) := by decide +kernel
theorem d_CM_count_105 : decode prog_1_method_11_code 105 = .ok (.ireturn, 1) := by decide +kernel
theorem d_CM_count_106 : decode prog_1_method_11_code 106 = .ok (.aload_n 0, 1) := by decide +kernel
theorem d_CM_count_107 : decode prog_1_method_11_code 107 = .ok (.getfield 19, 3) := by decide +kernel
theorem d_CM_count_110 : decode prog_1_method_11_code 110 = .ok (.getfield 110, 3) := by decide +kernel
theorem d_CM_count_113 : decode prog_1_method_11_code 113 = .ok (.getfield 107, 3) := by decide +kernel
theorem d_CM_count_116 : decode prog_1_method_11_code 116 = .ok (.ireturn, 1) := by decide +kernel
theorem d_CM_count_117 : decode prog_1_method_11_code 117 = .ok (.aload_n 0, 1) := by decide +kernel
theorem d_CM_count_118 : decode prog_1_method_11_code 118 = .ok (.getfield 19, 3) := by decide +kernel
theorem d_CM_count_121 : decode prog_1_method_11_code 121 = .ok (.getfield 83, 3) := by decide +kernel
theorem d_CM_count_124 : decode prog_1_method_11_code 124 = .ok (.ireturn, 1) := by decide +kernel
theorem d_CM_count_125 : decode prog_1_method_11_code 125 = .ok (.aload_n 0, 1) := by decide +kernel
theorem d_CM_count_126 : decode prog_1_method_11_code 126 = .ok (.getfield 19, 3) := by decide +kernel
theorem d_CM_count_129 : decode prog_1_method_11_code 129 = .ok (.getfield 160, 3) := by decide +kernel
theorem d_CM_count_132 : decode prog_1_method_11_code 132 = .ok (.invokeinterface 150 1, 5) := by decide +kernel
theorem d_CM_count_137 : decode prog_1_method_11_code 137 = .ok (.ireturn, 1) := by decide +kernel
theorem d_CM_count_138 : decode prog_1_method_11_code 138 = .ok (.iconst (-1), 1) := by decide +kernel
theorem d_CM_count_139 : decode prog_1_method_11_code 139 = .ok (.ireturn, 1) := by decide +kernel
theorem d_CM_give_0 : decode prog_1_method_6_code 0 = .ok (.aload_n 0, 1) := by decide +kernel
theorem d_CM_give_1 : decode prog_1_method_6_code 1 = .ok (.getfield 19, 3) := by decide +kernel
theorem d_CM_give_4 : decode prog_1_method_6_code 4 = .ok (.getfield 83, 3) := by decide +kernel
theorem d_CM_give_7 : decode prog_1_method_6_code 7 = .ok (.iconst 1, 1) := by decide +kernel
theorem d_CM_give_8 : decode prog_1_method_6_code 8 = .ok (.if_icmp .eq 13, 3) := by decide +kernel
theorem d_CM_give_11 : decode prog_1_method_6_code 11 = .ok (.new 41, 3) := by decide +kernel
theorem d_CM_give_14 : decode prog_1_method_6_code 14 = .ok (.dup, 1) := by decide +kernel
theorem d_CM_give_15 : decode prog_1_method_6_code 15 = .ok (.ldc 86, 2) := by decide +kernel
theorem d_CM_give_17 : decode prog_1_method_6_code 17 = .ok (.invokespecial 45, 3) := by decide +kernel
theorem d_CM_give_20 : decode prog_1_method_6_code 20 = .ok (.athrow, 1) := by decide +kernel
theorem d_CM_give_21 : decode prog_1_method_6_code 21 = .ok (.aload_n 0, 1) := by decide +kernel
theorem d_CM_give_22 : decode prog_1_method_6_code 22 = .ok (.getfield 19, 3) := by decide +kernel
theorem d_CM_give_25 : decode prog_1_method_6_code 25 = .ok (.getfield 92, 3) := by decide +kernel
theorem d_CM_give_28 : decode prog_1_method_6_code 28 = .ok (.invokevirtual 96, 3) := by decide +kernel
theorem d_CM_give_31 : decode prog_1_method_6_code 31 = .ok (.ifCond .eq 13, 3) := by decide +kernel
theorem d_CM_give_34 : decode prog_1_method_6_code 34 = .ok (.new 41, 3) := by decide +kernel
theorem d_CM_give_37 : decode prog_1_method_6_code 37 = .ok (.dup, 1) := by decide +kernel
theorem d_CM_give_38 : decode prog_1_method_6_code 38 = .ok (.ldc 101, 2) := by decide +kernel
theorem d_CM_give_40 : decode prog_1_method_6_code 40 = .ok (.invokespecial 45, 3) := by decide +kernel
theorem d_CM_give_43 : decode prog_1_method_6_code 43 = .ok (.athrow, 1) := by decide +kernel
theorem d_CM_give_44 : decode prog_1_method_6_code 44 = .ok (.aload_n 0, 1) := by decide +kernel
theorem d_CM_give_45 : decode prog_1_method_6_code 45 = .ok (.getfield 19, 3) := by decide +kernel
theorem d_CM_give_48 : decode prog_1_method_6_code 48 = .ok (.iload_n 1, 1) := by decide +kernel
theorem d_CM_give_49 : decode prog_1_method_6_code 49 = .ok (.invokevirtual 103, 3) := by decide +kernel
theorem d_CM_give_52 : decode prog_1_method_6_code 52 = .ok (.aload_n 0, 1) := by decide +kernel
theorem d_CM_give_53 : decode prog_1_method_6_code 53 = .ok (.getfield 19, 3) := by decide +kernel
theorem d_CM_give_56 : decode prog_1_method_6_code 56 = .ok (.getfield 92, 3) := by decide +kernel
theorem d_CM_give_59 : decode prog_1_method_6_code 59 = .ok (.getfield 107, 3) := by decide +kernel
theorem d_CM_give_62 : decode prog_1_method_6_code 62 = .ok (.ireturn, 1) := by decide +kernel
theorem d_CM_take_0 : decode prog_1_method_7_code 0 = .ok (.aload_n 0, 1) := by decide +kernel
theorem d_CM_take_1 : decode prog_1_method_7_code 1 = .ok (.getfield 19, 3) := by decide +kernel
theorem d_CM_take_4 : decode prog_1_method_7_code 4 = .ok (.getfield 110, 3) := by decide +kernel
theorem d_CM_take_7 : decode prog_1_method_7_code 7 = .ok (.getfield 107, 3) := by decide +kernel
theorem d_CM_take_10 : decode prog_1_method_7_code 10 = .ok (.ifCond .ne 13, 3) := by decide +kernel
theorem d_CM_take_13 : decode prog_1_method_7_code 13 = .ok (.new 113, 3) := by decide +kernel
theorem d_CM_take_16 : decode prog_1_method_7_code 16 = .ok (.dup, 1) := by decide +kernel
theorem d_CM_take_17 : decode prog_1_method_7_code 17 = .ok (.ldc 115, 2) := by decide +kernel
theorem d_CM_take_19 : decode prog_1_method_7_code 19 = .ok (.invokespecial 117, 3) := by decide +kernel
theorem d_CM_take_22 : decode prog_1_method_7_code 22 = .ok (.athrow, 1) := by decide +kernel
theorem d_CM_take_23 : decode prog_1_method_7_code 23 = .ok (.aload_n 0, 1) := by decide +kernel
theorem d_CM_take_24 : decode prog_1_method_7_code 24 = .ok (.getfield 19, 3) := by decide +kernel
theorem d_CM_take_27 : decode prog_1_method_7_code 27 = .ok (.invokevirtual 118, 3) := by decide +kernel
theorem d_CM_take_30 : decode prog_1_method_7_code 30 = .ok (.ireturn, 1) := by decide +kernel
theorem d_CM_run_0 : decode prog_1_method_5_code 0 = .ok (.iload_n 1, 1) := by decide +kernel
theorem d_CM_run_1 : decode prog_1_method_5_code 1 = .ok (.iconst 1, 1) := by decide +kernel
theorem d_CM_run_2 : decode prog_1_method_5_code 2 = .ok (.if_icmp .lt 10, 3) := by decide +kernel
theorem d_CM_run_5 : decode prog_1_method_5_code 5 = .ok (.iload_n 1, 1) := by decide +kernel
theorem d_CM_run_6 : decode prog_1_method_5_code 6 = .ok (.sipush 200, 3) := by decide +kernel
theorem d_CM_run_9 : decode prog_1_method_5_code 9 = .ok (.if_icmp .le 13, 3) := by decide +kernel
theorem d_CM_run_12 : decode prog_1_method_5_code 12 = .ok (.new 31, 3) := by decide +kernel
theorem d_CM_run_15 : decode prog_1_method_5_code 15 = .ok (.dup, 1) := by decide +kernel
theorem d_CM_run_16 : decode prog_1_method_5_code 16 = .ok (.ldc 81, 2) := by decide +kernel
theorem d_CM_run_18 : decode prog_1_method_5_code 18 = .ok (.invokespecial 35, 3) := by decide +kernel
theorem d_CM_run_21 : decode prog_1_method_5_code 21 = .ok (.athrow, 1) := by decide +kernel
theorem d_CM_run_22 : decode prog_1_method_5_code 22 = .ok (.aload_n 0, 1) := by decide +kernel
theorem d_CM_run_23 : decode prog_1_method_5_code 23 = .ok (.getfield 19, 3) := by decide +kernel
theorem d_CM_run_26 : decode prog_1_method_5_code 26 = .ok (.getfield 83, 3) := by decide +kernel
theorem d_CM_run_29 : decode prog_1_method_5_code 29 = .ok (.iconst 1, 1) := by decide +kernel
theorem d_CM_run_30 : decode prog_1_method_5_code 30 = .ok (.if_icmp .eq 13, 3) := by decide +kernel
theorem d_CM_run_33 : decode prog_1_method_5_code 33 = .ok (.new 41, 3) := by decide +kernel
theorem d_CM_run_36 : decode prog_1_method_5_code 36 = .ok (.dup, 1) := by decide +kernel
theorem d_CM_run_37 : decode prog_1_method_5_code 37 = .ok (.ldc 86, 2) := by decide +kernel
theorem d_CM_run_39 : decode prog_1_method_5_code 39 = .ok (.invokespecial 45, 3) := by decide +kernel
theorem d_CM_run_42 : decode prog_1_method_5_code 42 = .ok (.athrow, 1) := by decide +kernel
theorem d_CM_run_43 : decode prog_1_method_5_code 43 = .ok (.aload_n 0, 1) := by decide +kernel
theorem d_CM_run_44 : decode prog_1_method_5_code 44 = .ok (.getfield 19, 3) := by decide +kernel
theorem d_CM_run_47 : decode prog_1_method_5_code 47 = .ok (.iload_n 1, 1) := by decide +kernel
theorem d_CM_run_48 : decode prog_1_method_5_code 48 = .ok (.invokevirtual 88, 3) := by decide +kernel
theorem d_CM_run_51 : decode prog_1_method_5_code 51 = .ok (.ireturn, 1) := by decide +kernel
/-- the Reader and the bounds between calls; K calls have been -/
def y_CR (I : Nat → Int32) (n : Nat × Nat × Nat × Nat) (K ln : Nat) : Prop := (ln ≤ 72 ∧ I 1 = Int32.ofNat ln) ∧ (∃ cl : Nat, cl ≤ 72 ∧ I 2 = Int32.ofNat cl) ∧ (I 7 = 1 → ∃ a0 : Nat, a0 ≤ 200 * K ∧ I 9 = Int32.ofNat a0) ∧ (n.1 ≤ 1000 * K + 1 ∧ n.2.1 ≤ 200 * K ∧ n.2.2.1 ≤ 2000 * K + 14 ∧ n.2.2.2 ≤ 400 * K + 12)
def y_CO (z : Nat → Nat) (ar : Nat → ClassId) (I : Nat → Int32) (O : Nat → Option Nat) (f : Nat → Option va_E) (n : Nat × Nat × Nat × Nat) (K ln : Nat) : Prop := ∃ (G : Nat → Nat) (C Gs : Nat → List Nat), y_MI z ar G C Gs I O f n ∧ y_CR I n K ln
def y_aE (E e c0 sz w0 c1 : Nat) (H : Heap) : Prop := y_hs H + 4 * c0 ≤ w0 + 4 * c1 + E ∧ 5 * H.size + c0 ≤ 5 * sz + c1 + e
theorem y_CR.nx {I I' : Nat → Int32} {n n' : Nat × Nat × Nat × Nat} {K ln : Nat} (h : y_CR I n K ln) (h1 : I' 1 = I 1) (h2 : I' 2 = I 2) (h7 : I' 7 = 1 → ∃ a0 : Nat, a0 ≤ 200 * (K + 1) ∧ I' 9 = Int32.ofNat a0) (hn : n'.1 ≤ 1000 * (K + 1) + 1 ∧ n'.2.1 ≤ 200 * (K + 1) ∧ n'.2.2.1 ≤ 2000 * (K + 1) + 14 ∧ n'.2.2.2 ≤ 400 * (K + 1) + 12) : y_CR I' n' (K + 1) ln :=
  ⟨⟨h.1.1, h1.trans h.1.2⟩, by obtain ⟨cl, q1, q2⟩ := h.2.1; exact ⟨cl, q1, h2.trans q2⟩, h7, hn⟩
theorem y_CR.k7 {I I' : Nat → Int32} {n : Nat × Nat × Nat × Nat} {K ln : Nat} (h : y_CR I n K ln) (h7 : I' 7 = I 7) (h9 : I' 9 = I 9) : I' 7 = 1 → ∃ a0 : Nat, a0 ≤ 200 * (K + 1) ∧ I' 9 = Int32.ofNat a0 := fun e => by
  obtain ⟨a0, q1, q2⟩ := h.2.2.1 (h7.symm.trans e)
  exact ⟨a0, by omega, h9.trans q2⟩
theorem y_rg2 {d : Int32} {lo hi : Nat} (h1 : ¬ d < Int32.ofNat lo) (h2 : d ≤ Int32.ofNat hi) (hh : hi < 2147483648) (hl : lo < 2147483648) : ∃ e : Nat, lo ≤ e ∧ e ≤ hi ∧ d = Int32.ofNat e :=
  y_rg h1 (fun h9 => by rw [x_le] at h2; rw [x_lt] at h9; omega) hh hl
theorem y_rg3 {d : Int32} {hi : Nat} (h1 : ¬ d < 0) (h2 : d < Int32.ofNat hi) (hh : hi < 2147483648) : ∃ e : Nat, e < hi ∧ d = Int32.ofNat e := by
  obtain ⟨e, e1, e2, e3⟩ := y_rg (lo := 0) (hi := hi) h1 (fun h9 => by rw [x_lt] at h2 h9; omega) hh (by decide)
  subst e3
  exact ⟨e, (x_ltN (by omega) hh).mp h2, rfl⟩
set_option maxHeartbeats 4000000 in
set_option maxRecDepth 100000 in
theorem c_C_set (l : Launch) (hst : l.stackTraces = false) (dC : Nat → ClassId) (dI : Nat → Nat → Nat) (ar : Nat → ClassId) (N0 : Nat) (z : Nat → Nat) (ad : Nat → Nat) (I : Nat → Int32) (T : Int64) (A : Nat → Nat → Int32) (O : Nat → Option Nat) (pl : va_W) (G : Nat → Nat) (C Gs : Nat → List Nat) (qn sn cq cs : Nat) (K ln : Nat) (vv xv : Int32) (sz w0 : Nat) (hmi : y_MI z ar G C Gs I O (y_L pl) (qn, sn, cq, cs)) (hK5 : K ≤ 511) (hci : y_CR I (qn, sn, cq, cs) K ln) : vx_Met l ({ cls := "ChannelMachine", name := "set", desc := "(II)V" } : Jvm.MethodName) ((Jvm.Cond.code ({ cls := "ChannelMachine", name := "set", desc := "(II)V" } : Jvm.MethodName) prog_1_method_9_code (3 : Nat) (Option.none : Option Jvm.ClassFile.FieldType)) :: x_T) ({ frames := 6, cells := (2000 * (K + 1) + 14 - cq + (400 * (K + 1) + 12 - cs)) / 5 + 8, slots := 4 * (2000 * (K + 1) + 14 - cq + (400 * (K + 1) + 12 - cs)) + 110, locals := 84 }) (y_Pc (dC, dI) ar N0 z (y_W ad ar I T A O pl) sz w0 [.ref (ad 0), .int vv, .int xv]) (va_Qv (fun (u : (Nat → Int32) × Int64 × (Nat → Nat → Int32) × (Nat → Option Nat) × va_W × (Nat × Nat × Nat × Nat)) => y_CO z ar u.1 u.2.2.2.1 (y_L u.2.2.2.2.1) u.2.2.2.2.2 (K + 1) ln ∧ (¬ vv < 0 ∧ vv < 6)) (fun u t => va_P (dC, dI) y_cl (y_W ad ar u.1 u.2.1 u.2.2.1 u.2.2.2.1 u.2.2.2.2.1) t.heap ∧ va_D (va_A (y_W ad ar I T A O pl) sz) (y_W ad ar u.1 u.2.1 u.2.2.1 u.2.2.2.1 u.2.2.2.2.1) ∧ y_aE 110 35 (cq + cs) sz w0 (u.2.2.2.2.2.2.2.1 + u.2.2.2.2.2.2.2.2) t.heap) (va_A (y_W ad ar I T A O pl) sz)) (vx_X (fun (u : (Nat → Int32) × Int64 × (Nat → Nat → Int32) × (Nat → Option Nat) × va_W × (Nat × Nat × Nat × Nat)) => y_CO z ar u.1 u.2.2.2.1 (y_L u.2.2.2.2.1) u.2.2.2.2.2 (K + 1) ln ∧ (vv < 0 ∨ ¬ vv < 6)) (fun E u t => va_P (dC, dI) y_cl (y_W ad ar u.1 u.2.1 u.2.2.1 u.2.2.2.1 u.2.2.2.2.1) t.heap ∧ va_D (va_A (y_W ad ar I T A O pl) sz) (y_W ad ar u.1 u.2.1 u.2.2.1 u.2.2.2.1 u.2.2.2.2.1) ∧ (E = "java/lang/IllegalArgumentException") ∧ y_aE 110 35 (cq + cs) sz w0 (u.2.2.2.2.2.2.2.1 + u.2.2.2.2.2.2.2.2) t.heap) (va_A (y_W ad ar I T A O pl) sz)) ((2000 * (K + 1) + 14 - cq + (400 * (K + 1) + 12 - cs)) / 5 + 8) (4 * (2000 * (K + 1) + 14 - cq + (400 * (K + 1) + 12 - cs)) + 110) (va_A (y_W ad ar I T A O pl) sz) := by
  refine vx_ofW (cc := prog_1_method_9_code) (maxL := 3) (ret := none) (by decide) rfl ?_
  intro p e s m args below meth c s₁ B hml htb hv
  obtain ⟨rfl, hsz, hN0, hP, hU, hZ, hD0, hw0⟩ := hv
  have hK := hU.2.1
  have hx := B.exec
  have hb := B.bytes
  have hr := B.returns
  have hts : ∀ w ∈ x_T, w.before ([.ref (ad 0), .int vv, .int xv] : List Value).toArray s = true := fun w h => atoms_spec (ws := (Jvm.Cond.code ({ cls := "ChannelMachine", name := "set", desc := "(II)V" } : Jvm.MethodName) prog_1_method_9_code (3 : Nat) (Option.none : Option Jvm.ClassFile.FieldType)) :: x_T) B.pre w (List.mem_cons_of_mem _ h)
  have hown : s.vm.findClass "ChannelMachine" = some m.cls := findClass_of_methodNamed B.named
  have hlocks := B.notSynchronized
  subst hsz
  subst hw0
  have hD := hD0.self (sz := s.heap.size)
  have hAN := x_AN hD0 hN0
  generalize hAe : va_A (y_W ad ar I T A O pl) s.heap.size = Bq at hD hAN ⊢
  have hA : ∀ q : Nat, s.heap.size ≤ q → Bq q := fun q h => by rw [← hAe]; exact Or.inr h
  have hS : va_S Bq s.heap s.heap [] := va_S.rf
  have hl := lv_entry ([.ref (ad 0), .int vv, .int xv]) (n := 3) (Nat.le_of_ble_eq_true rfl)
  rw [lg_entry_eq]
  generalize (lg_sl ([.ref (ad 0), .int vv, .int xv]) ++ List.replicate (3 - (lg_sl ([.ref (ad 0), .int vv, .int xv])).length) Slot.unset).toArray = ls at hl ⊢
  have hl : lv_has ls 3 [(0, .ref (ad 0)), (1, .int vv), (2, .int xv)] := hl
  have hbn := hci.2.2.2
  dsimp only at hbn
  have hle := y_LS.le hmi.2.1.2
  have hle2 := y_LS.le hmi.2.2.1.2
  have hcap := hmi.2.2.2.2.1
  dsimp only at hle hle2 hcap
  refine lv_iload_n hx hb d_CM_set_0 rfl (lv_at hl 1 rfl) ?_
  refine lv_if_lt (tgt := 10) hx hb d_CM_set_1 (by decide) (fun c1 => ?_) (fun c1 => ?_)
  · have hfr9 : m_fr [] I I := m_fr.rf
    have hcr9 : y_CR I (qn, sn, cq, cs) (K + 1) ln := hci.nx (hfr9 1 (by decide)) (hfr9 2 (by decide)) (hci.k7 (hfr9 7 (by decide)) (hfr9 9 (by decide))) ⟨by dsimp only; omega, by dsimp only; omega, by dsimp only; omega, by dsimp only; omega⟩
    have hco9 : y_CO z ar I O (y_L pl) (qn, sn, cq, cs) (K + 1) ln := ⟨_, _, _, hmi, hcr9⟩
    refine y_know (fun hy91 hy92 hy93 hy94 => ?_)
    refine y_xW (XC' := fun E st t => E = "java/lang/IllegalArgumentException" ∧ va_P (dC, dI) y_cl (y_W ad ar I T A O pl) t.heap ∧ va_F Bq st t) (mc' := 0 + 1) (ms' := 0 + 6) (by omega) (by omega) (fun E t hx9 hz9 hk9 => ?_) ?_
    · obtain ⟨rfl, hx1, hx2⟩ := hx9
      have hac9 : y_aE 110 35 (cq + cs) s.heap.size (y_hs s.heap) (cq + cs) t.heap := ⟨by omega, by omega⟩
      exact ⟨(I, T, A, O, pl, (qn, sn, cq, cs)), ⟨hco9, Or.inl c1⟩, ⟨hx1, hD, rfl, hac9⟩, hx2⟩
    exact x_throw (A := Bq) hx hb hst (own := "ChannelMachine") (cls := "java/lang/IllegalArgumentException") (text := "not a variable") (ik := 31) (is := 122) (ic := 35) hown k_230 k_13 (by decide) x_tChannelMachine_35 (by decide +kernel) rfl hts hU.1 hZ.1 hAN hS (by rw [hml]; exact hl.1) d_CM_set_10 d_CM_set_13 d_CM_set_14 d_CM_set_16 d_CM_set_19 htb (Nat.le_of_ble_eq_true rfl) (Nat.le_of_ble_eq_true rfl) (by show 0 + 1 ≤ (2000 * (K + 1) + 14 - cq + (400 * (K + 1) + 12 - cs)) / 5 + 8; omega) (by show 0 + 6 ≤ 4 * (2000 * (K + 1) + 14 - cq + (400 * (K + 1) + 12 - cs)) + 110; omega) hlocks (fun t h1 h2 h3 h4 => ⟨rfl, fun k q hk => (hP k q hk).kept (h3 q.1 (hP k q hk).lt), h4⟩) hS.2.2 (Nat.le_refl _) (Nat.le_refl _)
  · refine lv_iload_n hx hb d_CM_set_4 rfl (lv_at hl 1 rfl) ?_
    refine lv_bipush (v := 6) hx hb d_CM_set_5 (by decide) ?_
    refine lv_icmp_lt (tgt := 20) hx hb d_CM_set_7 (by decide) (fun c2 => ?_) (fun c2 => ?_)
    · refine lv_aload_n hx hb d_CM_set_20 rfl (lv_at hl 0 rfl) ?_
      refine k_g (C := "ChannelMachine") (F := F_CM) (N := 3) hx hb hts i_CM hown hK hP 0 1 (by decide) (by decide) rfl (by decide) (d := (0, 4)) rfl (hts _ k_195) (fun _ h9 => h9) (v := .ref (ad 4)) rfl d_CM_set_21 ?_
      refine k_gN (C := "ChannelMachine$Machine") (F := F_Machine) (N := 11) hx hb hts i_Machine hown hK hP 4 0 (by decide) (by decide) rfl (by decide) (d := (0, 5)) rfl (hU.1.2.1 _ kn_151) (fun _ h9 => h9) (v := .ref (ad 5)) rfl d_CM_set_24 ?_
      refine lv_iload_n hx hb d_CM_set_27 rfl (lv_at hl 1 rfl) ?_
      refine lv_iload_n hx hb d_CM_set_28 rfl (lv_at hl 2 rfl) ?_
      refine k_st hx hb hK hP hD hS 5 (by decide) (by decide) (by decide) (by decide) (j := vv) (x := xv) (x_in (b := 6) (by decide) c1 c2) d_CM_set_29 (fun H locs hP hD hS => ?_)
      generalize m_up A 5 _ = A3 at hP hD
      have hfr9 : m_fr [] I I := m_fr.rf
      have hcr9 : y_CR I (qn, sn, cq, cs) (K + 1) ln := hci.nx (hfr9 1 (by decide)) (hfr9 2 (by decide)) (hci.k7 (hfr9 7 (by decide)) (hfr9 9 (by decide))) ⟨by dsimp only; omega, by dsimp only; omega, by dsimp only; omega, by dsimp only; omega⟩
      have hco9 : y_CO z ar I O (y_L pl) (qn, sn, cq, cs) (K + 1) ln := ⟨_, _, _, hmi, hcr9⟩
      refine vx_ret ?_
      refine y_know (fun hy91 hy92 hy93 hy94 => ?_)
      have hac9 : y_aE 110 35 (cq + cs) s.heap.size (y_hs s.heap) (cq + cs) H := ⟨by omega, by omega⟩
      refine W.widen (k := (2000 * (K + 1) + 14 - cq + (400 * (K + 1) + 12 - cs)) / 5 + 8) (n := 4 * (2000 * (K + 1) + 14 - cq + (400 * (K + 1) + 12 - cs)) + 110) (by omega) (by omega) ?_
      exact W.vret hx hb hr (fun t ht hW => ⟨⟨(I, T, A3, O, pl, (qn, sn, cq, cs)), rfl, ⟨hco9, ⟨c1, c2⟩⟩, (by dsimp only; rw [ht]; exact ⟨hP, hD, hac9⟩)⟩, hS.F ht⟩) hS.2.2 d_CM_set_30
    · have hfr9 : m_fr [] I I := m_fr.rf
      have hcr9 : y_CR I (qn, sn, cq, cs) (K + 1) ln := hci.nx (hfr9 1 (by decide)) (hfr9 2 (by decide)) (hci.k7 (hfr9 7 (by decide)) (hfr9 9 (by decide))) ⟨by dsimp only; omega, by dsimp only; omega, by dsimp only; omega, by dsimp only; omega⟩
      have hco9 : y_CO z ar I O (y_L pl) (qn, sn, cq, cs) (K + 1) ln := ⟨_, _, _, hmi, hcr9⟩
      refine y_know (fun hy91 hy92 hy93 hy94 => ?_)
      refine y_xW (XC' := fun E st t => E = "java/lang/IllegalArgumentException" ∧ va_P (dC, dI) y_cl (y_W ad ar I T A O pl) t.heap ∧ va_F Bq st t) (mc' := 0 + 1) (ms' := 0 + 6) (by omega) (by omega) (fun E t hx9 hz9 hk9 => ?_) ?_
      · obtain ⟨rfl, hx1, hx2⟩ := hx9
        have hac9 : y_aE 110 35 (cq + cs) s.heap.size (y_hs s.heap) (cq + cs) t.heap := ⟨by omega, by omega⟩
        exact ⟨(I, T, A, O, pl, (qn, sn, cq, cs)), ⟨hco9, Or.inr c2⟩, ⟨hx1, hD, rfl, hac9⟩, hx2⟩
      exact x_throw (A := Bq) hx hb hst (own := "ChannelMachine") (cls := "java/lang/IllegalArgumentException") (text := "not a variable") (ik := 31) (is := 122) (ic := 35) hown k_230 k_13 (by decide) x_tChannelMachine_35 (by decide +kernel) rfl hts hU.1 hZ.1 hAN hS (by rw [hml]; exact hl.1) d_CM_set_10 d_CM_set_13 d_CM_set_14 d_CM_set_16 d_CM_set_19 htb (Nat.le_of_ble_eq_true rfl) (Nat.le_of_ble_eq_true rfl) (by show 0 + 1 ≤ (2000 * (K + 1) + 14 - cq + (400 * (K + 1) + 12 - cs)) / 5 + 8; omega) (by show 0 + 6 ≤ 4 * (2000 * (K + 1) + 14 - cq + (400 * (K + 1) + 12 - cs)) + 110; omega) hlocks (fun t h1 h2 h3 h4 => ⟨rfl, fun k q hk => (hP k q hk).kept (h3 q.1 (hP k q hk).lt), h4⟩) hS.2.2 (Nat.le_refl _) (Nat.le_refl _)
set_option maxHeartbeats 4000000 in
set_option maxRecDepth 100000 in
theorem c_C_variable (l : Launch) (hst : l.stackTraces = false) (dC : Nat → ClassId) (dI : Nat → Nat → Nat) (ar : Nat → ClassId) (N0 : Nat) (z : Nat → Nat) (ad : Nat → Nat) (I : Nat → Int32) (T : Int64) (A : Nat → Nat → Int32) (O : Nat → Option Nat) (pl : va_W) (G : Nat → Nat) (C Gs : Nat → List Nat) (qn sn cq cs : Nat) (K ln : Nat) (vv : Int32) (sz w0 : Nat) (hmi : y_MI z ar G C Gs I O (y_L pl) (qn, sn, cq, cs)) (hK5 : K ≤ 511) (hci : y_CR I (qn, sn, cq, cs) K ln) : vx_Met l ({ cls := "ChannelMachine", name := "variable", desc := "(I)I" } : Jvm.MethodName) ((Jvm.Cond.code ({ cls := "ChannelMachine", name := "variable", desc := "(I)I" } : Jvm.MethodName) prog_1_method_8_code (2 : Nat) (Option.some Jvm.ClassFile.FieldType.int)) :: x_T) ({ frames := 6, cells := (2000 * (K + 1) + 14 - cq + (400 * (K + 1) + 12 - cs)) / 5 + 8, slots := 4 * (2000 * (K + 1) + 14 - cq + (400 * (K + 1) + 12 - cs)) + 110, locals := 84 }) (y_Pc (dC, dI) ar N0 z (y_W ad ar I T A O pl) sz w0 [.ref (ad 0), .int vv]) (va_Qi (fun (r : Int32) (u : (Nat → Int32) × Int64 × (Nat → Nat → Int32) × (Nat → Option Nat) × va_W × (Nat × Nat × Nat × Nat)) => y_CO z ar u.1 u.2.2.2.1 (y_L u.2.2.2.2.1) u.2.2.2.2.2 (K + 1) ln) (fun u t => va_P (dC, dI) y_cl (y_W ad ar u.1 u.2.1 u.2.2.1 u.2.2.2.1 u.2.2.2.2.1) t.heap ∧ va_D (va_A (y_W ad ar I T A O pl) sz) (y_W ad ar u.1 u.2.1 u.2.2.1 u.2.2.2.1 u.2.2.2.2.1) ∧ y_aE 110 35 (cq + cs) sz w0 (u.2.2.2.2.2.2.2.1 + u.2.2.2.2.2.2.2.2) t.heap) (va_A (y_W ad ar I T A O pl) sz)) (vx_X (fun (u : (Nat → Int32) × Int64 × (Nat → Nat → Int32) × (Nat → Option Nat) × va_W × (Nat × Nat × Nat × Nat)) => y_CO z ar u.1 u.2.2.2.1 (y_L u.2.2.2.2.1) u.2.2.2.2.2 (K + 1) ln) (fun E u t => va_P (dC, dI) y_cl (y_W ad ar u.1 u.2.1 u.2.2.1 u.2.2.2.1 u.2.2.2.2.1) t.heap ∧ va_D (va_A (y_W ad ar I T A O pl) sz) (y_W ad ar u.1 u.2.1 u.2.2.1 u.2.2.2.1 u.2.2.2.2.1) ∧ (E = "java/lang/IllegalArgumentException") ∧ y_aE 110 35 (cq + cs) sz w0 (u.2.2.2.2.2.2.2.1 + u.2.2.2.2.2.2.2.2) t.heap) (va_A (y_W ad ar I T A O pl) sz)) ((2000 * (K + 1) + 14 - cq + (400 * (K + 1) + 12 - cs)) / 5 + 8) (4 * (2000 * (K + 1) + 14 - cq + (400 * (K + 1) + 12 - cs)) + 110) (va_A (y_W ad ar I T A O pl) sz) := by
  refine vx_ofW (cc := prog_1_method_8_code) (maxL := 2) (ret := (some .int)) (by decide) rfl ?_
  intro p e s m args below meth c s₁ B hml htb hv
  obtain ⟨rfl, hsz, hN0, hP, hU, hZ, hD0, hw0⟩ := hv
  have hK := hU.2.1
  have hx := B.exec
  have hb := B.bytes
  have hr := B.returns
  have hts : ∀ w ∈ x_T, w.before ([.ref (ad 0), .int vv] : List Value).toArray s = true := fun w h => atoms_spec (ws := (Jvm.Cond.code ({ cls := "ChannelMachine", name := "variable", desc := "(I)I" } : Jvm.MethodName) prog_1_method_8_code (2 : Nat) (Option.some Jvm.ClassFile.FieldType.int)) :: x_T) B.pre w (List.mem_cons_of_mem _ h)
  have hown : s.vm.findClass "ChannelMachine" = some m.cls := findClass_of_methodNamed B.named
  have hlocks := B.notSynchronized
  subst hsz
  subst hw0
  have hD := hD0.self (sz := s.heap.size)
  have hAN := x_AN hD0 hN0
  generalize hAe : va_A (y_W ad ar I T A O pl) s.heap.size = Bq at hD hAN ⊢
  have hA : ∀ q : Nat, s.heap.size ≤ q → Bq q := fun q h => by rw [← hAe]; exact Or.inr h
  have hS : va_S Bq s.heap s.heap [] := va_S.rf
  have hl := lv_entry ([.ref (ad 0), .int vv]) (n := 2) (Nat.le_of_ble_eq_true rfl)
  rw [lg_entry_eq]
  generalize (lg_sl ([.ref (ad 0), .int vv]) ++ List.replicate (2 - (lg_sl ([.ref (ad 0), .int vv])).length) Slot.unset).toArray = ls at hl ⊢
  have hl : lv_has ls 2 [(0, .ref (ad 0)), (1, .int vv)] := hl
  have hbn := hci.2.2.2
  dsimp only at hbn
  have hle := y_LS.le hmi.2.1.2
  have hle2 := y_LS.le hmi.2.2.1.2
  have hcap := hmi.2.2.2.2.1
  dsimp only at hle hle2 hcap
  refine lv_iload_n hx hb d_CM_variable_0 rfl (lv_at hl 1 rfl) ?_
  refine lv_if_lt (tgt := 10) hx hb d_CM_variable_1 (by decide) (fun c1 => ?_) (fun c1 => ?_)
  · have hfr9 : m_fr [] I I := m_fr.rf
    have hcr9 : y_CR I (qn, sn, cq, cs) (K + 1) ln := hci.nx (hfr9 1 (by decide)) (hfr9 2 (by decide)) (hci.k7 (hfr9 7 (by decide)) (hfr9 9 (by decide))) ⟨by dsimp only; omega, by dsimp only; omega, by dsimp only; omega, by dsimp only; omega⟩
    have hco9 : y_CO z ar I O (y_L pl) (qn, sn, cq, cs) (K + 1) ln := ⟨_, _, _, hmi, hcr9⟩
    refine y_know (fun hy91 hy92 hy93 hy94 => ?_)
    refine y_xW (XC' := fun E st t => E = "java/lang/IllegalArgumentException" ∧ va_P (dC, dI) y_cl (y_W ad ar I T A O pl) t.heap ∧ va_F Bq st t) (mc' := 0 + 1) (ms' := 0 + 6) (by omega) (by omega) (fun E t hx9 hz9 hk9 => ?_) ?_
    · obtain ⟨rfl, hx1, hx2⟩ := hx9
      have hac9 : y_aE 110 35 (cq + cs) s.heap.size (y_hs s.heap) (cq + cs) t.heap := ⟨by omega, by omega⟩
      exact ⟨(I, T, A, O, pl, (qn, sn, cq, cs)), hco9, ⟨hx1, hD, rfl, hac9⟩, hx2⟩
    exact x_throw (A := Bq) hx hb hst (own := "ChannelMachine") (cls := "java/lang/IllegalArgumentException") (text := "not a variable") (ik := 31) (is := 122) (ic := 35) hown k_230 k_13 (by decide) x_tChannelMachine_35 (by decide +kernel) rfl hts hU.1 hZ.1 hAN hS (by rw [hml]; exact hl.1) d_CM_variable_10 d_CM_variable_13 d_CM_variable_14 d_CM_variable_16 d_CM_variable_19 htb (Nat.le_of_ble_eq_true rfl) (Nat.le_of_ble_eq_true rfl) (by show 0 + 1 ≤ (2000 * (K + 1) + 14 - cq + (400 * (K + 1) + 12 - cs)) / 5 + 8; omega) (by show 0 + 6 ≤ 4 * (2000 * (K + 1) + 14 - cq + (400 * (K + 1) + 12 - cs)) + 110; omega) hlocks (fun t h1 h2 h3 h4 => ⟨rfl, fun k q hk => (hP k q hk).kept (h3 q.1 (hP k q hk).lt), h4⟩) hS.2.2 (Nat.le_refl _) (Nat.le_refl _)
  · refine lv_iload_n hx hb d_CM_variable_4 rfl (lv_at hl 1 rfl) ?_
    refine lv_bipush (v := 6) hx hb d_CM_variable_5 (by decide) ?_
    refine lv_icmp_lt (tgt := 20) hx hb d_CM_variable_7 (by decide) (fun c2 => ?_) (fun c2 => ?_)
    · refine lv_aload_n hx hb d_CM_variable_20 rfl (lv_at hl 0 rfl) ?_
      refine k_g (C := "ChannelMachine") (F := F_CM) (N := 3) hx hb hts i_CM hown hK hP 0 1 (by decide) (by decide) rfl (by decide) (d := (0, 4)) rfl (hts _ k_195) (fun _ h9 => h9) (v := .ref (ad 4)) rfl d_CM_variable_21 ?_
      refine k_gN (C := "ChannelMachine$Machine") (F := F_Machine) (N := 11) hx hb hts i_Machine hown hK hP 4 0 (by decide) (by decide) rfl (by decide) (d := (0, 5)) rfl (hU.1.2.1 _ kn_151) (fun _ h9 => h9) (v := .ref (ad 5)) rfl d_CM_variable_24 ?_
      refine lv_iload_n hx hb d_CM_variable_27 rfl (lv_at hl 1 rfl) ?_
      refine k_ld hx hb hK hP 5 (by decide) (by decide) (by decide) (by decide) (j := vv) (x_in (b := 6) (by decide) c1 c2) d_CM_variable_28 ?_
      have hfr9 : m_fr [] I I := m_fr.rf
      have hcr9 : y_CR I (qn, sn, cq, cs) (K + 1) ln := hci.nx (hfr9 1 (by decide)) (hfr9 2 (by decide)) (hci.k7 (hfr9 7 (by decide)) (hfr9 9 (by decide))) ⟨by dsimp only; omega, by dsimp only; omega, by dsimp only; omega, by dsimp only; omega⟩
      have hco9 : y_CO z ar I O (y_L pl) (qn, sn, cq, cs) (K + 1) ln := ⟨_, _, _, hmi, hcr9⟩
      refine vx_ret ?_
      refine y_know (fun hy91 hy92 hy93 hy94 => ?_)
      have hac9 : y_aE 110 35 (cq + cs) s.heap.size (y_hs s.heap) (cq + cs) s.heap := ⟨by omega, by omega⟩
      refine W.widen (k := (2000 * (K + 1) + 14 - cq + (400 * (K + 1) + 12 - cs)) / 5 + 8) (n := 4 * (2000 * (K + 1) + 14 - cq + (400 * (K + 1) + 12 - cs)) + 110) (by omega) (by omega) ?_
      exact W.iret (v := (A 5 (Int32.toNatClampNeg vv))) hx hb hr (fun t ht hW => ⟨⟨(A 5 (Int32.toNatClampNeg vv)), (I, T, A, O, pl, (qn, sn, cq, cs)), rfl, hco9, (by dsimp only; rw [ht]; exact ⟨hP, hD, hac9⟩)⟩, hS.F ht⟩) hS.2.2 d_CM_variable_29
    · have hfr9 : m_fr [] I I := m_fr.rf
      have hcr9 : y_CR I (qn, sn, cq, cs) (K + 1) ln := hci.nx (hfr9 1 (by decide)) (hfr9 2 (by decide)) (hci.k7 (hfr9 7 (by decide)) (hfr9 9 (by decide))) ⟨by dsimp only; omega, by dsimp only; omega, by dsimp only; omega, by dsimp only; omega⟩
      have hco9 : y_CO z ar I O (y_L pl) (qn, sn, cq, cs) (K + 1) ln := ⟨_, _, _, hmi, hcr9⟩
      refine y_know (fun hy91 hy92 hy93 hy94 => ?_)
      refine y_xW (XC' := fun E st t => E = "java/lang/IllegalArgumentException" ∧ va_P (dC, dI) y_cl (y_W ad ar I T A O pl) t.heap ∧ va_F Bq st t) (mc' := 0 + 1) (ms' := 0 + 6) (by omega) (by omega) (fun E t hx9 hz9 hk9 => ?_) ?_
      · obtain ⟨rfl, hx1, hx2⟩ := hx9
        have hac9 : y_aE 110 35 (cq + cs) s.heap.size (y_hs s.heap) (cq + cs) t.heap := ⟨by omega, by omega⟩
        exact ⟨(I, T, A, O, pl, (qn, sn, cq, cs)), hco9, ⟨hx1, hD, rfl, hac9⟩, hx2⟩
      exact x_throw (A := Bq) hx hb hst (own := "ChannelMachine") (cls := "java/lang/IllegalArgumentException") (text := "not a variable") (ik := 31) (is := 122) (ic := 35) hown k_230 k_13 (by decide) x_tChannelMachine_35 (by decide +kernel) rfl hts hU.1 hZ.1 hAN hS (by rw [hml]; exact hl.1) d_CM_variable_10 d_CM_variable_13 d_CM_variable_14 d_CM_variable_16 d_CM_variable_19 htb (Nat.le_of_ble_eq_true rfl) (Nat.le_of_ble_eq_true rfl) (by show 0 + 1 ≤ (2000 * (K + 1) + 14 - cq + (400 * (K + 1) + 12 - cs)) / 5 + 8; omega) (by show 0 + 6 ≤ 4 * (2000 * (K + 1) + 14 - cq + (400 * (K + 1) + 12 - cs)) + 110; omega) hlocks (fun t h1 h2 h3 h4 => ⟨rfl, fun k q hk => (hP k q hk).kept (h3 q.1 (hP k q hk).lt), h4⟩) hS.2.2 (Nat.le_refl _) (Nat.le_refl _)
set_option maxHeartbeats 4000000 in
set_option maxRecDepth 100000 in
theorem c_C_channel (l : Launch) (hst : l.stackTraces = false) (dC : Nat → ClassId) (dI : Nat → Nat → Nat) (ar : Nat → ClassId) (N0 : Nat) (z : Nat → Nat) (ad : Nat → Nat) (I : Nat → Int32) (T : Int64) (A : Nat → Nat → Int32) (O : Nat → Option Nat) (pl : va_W) (G : Nat → Nat) (C Gs : Nat → List Nat) (qn sn cq cs : Nat) (K ln : Nat) (vv : Int32) (sz w0 : Nat) (hmi : y_MI z ar G C Gs I O (y_L pl) (qn, sn, cq, cs)) (hK5 : K ≤ 511) (hci : y_CR I (qn, sn, cq, cs) K ln) : vx_Met l ({ cls := "ChannelMachine", name := "channel", desc := "(I)I" } : Jvm.MethodName) ((Jvm.Cond.code ({ cls := "ChannelMachine", name := "channel", desc := "(I)I" } : Jvm.MethodName) prog_1_method_10_code (3 : Nat) (Option.some Jvm.ClassFile.FieldType.int)) :: x_T) ({ frames := 6, cells := (2000 * (K + 1) + 14 - cq + (400 * (K + 1) + 12 - cs)) / 5 + 8, slots := 4 * (2000 * (K + 1) + 14 - cq + (400 * (K + 1) + 12 - cs)) + 110, locals := 84 }) (y_Pc (dC, dI) ar N0 z (y_W ad ar I T A O pl) sz w0 [.ref (ad 0), .int vv]) (va_Qi (fun (r : Int32) (u : (Nat → Int32) × Int64 × (Nat → Nat → Int32) × (Nat → Option Nat) × va_W × (Nat × Nat × Nat × Nat)) => y_CO z ar u.1 u.2.2.2.1 (y_L u.2.2.2.2.1) u.2.2.2.2.2 (K + 1) ln) (fun u t => va_P (dC, dI) y_cl (y_W ad ar u.1 u.2.1 u.2.2.1 u.2.2.2.1 u.2.2.2.2.1) t.heap ∧ va_D (va_A (y_W ad ar I T A O pl) sz) (y_W ad ar u.1 u.2.1 u.2.2.1 u.2.2.2.1 u.2.2.2.2.1) ∧ y_aE 110 35 (cq + cs) sz w0 (u.2.2.2.2.2.2.2.1 + u.2.2.2.2.2.2.2.2) t.heap) (va_A (y_W ad ar I T A O pl) sz)) (vx_X (fun (u : (Nat → Int32) × Int64 × (Nat → Nat → Int32) × (Nat → Option Nat) × va_W × (Nat × Nat × Nat × Nat)) => y_CO z ar u.1 u.2.2.2.1 (y_L u.2.2.2.2.1) u.2.2.2.2.2 (K + 1) ln) (fun E u t => va_P (dC, dI) y_cl (y_W ad ar u.1 u.2.1 u.2.2.1 u.2.2.2.1 u.2.2.2.2.1) t.heap ∧ va_D (va_A (y_W ad ar I T A O pl) sz) (y_W ad ar u.1 u.2.1 u.2.2.1 u.2.2.2.1 u.2.2.2.2.1) ∧ (E = "java/lang/IllegalArgumentException") ∧ y_aE 110 35 (cq + cs) sz w0 (u.2.2.2.2.2.2.2.1 + u.2.2.2.2.2.2.2.2) t.heap) (va_A (y_W ad ar I T A O pl) sz)) ((2000 * (K + 1) + 14 - cq + (400 * (K + 1) + 12 - cs)) / 5 + 8) (4 * (2000 * (K + 1) + 14 - cq + (400 * (K + 1) + 12 - cs)) + 110) (va_A (y_W ad ar I T A O pl) sz) := by
  refine vx_ofW (cc := prog_1_method_10_code) (maxL := 3) (ret := (some .int)) (by decide) rfl ?_
  intro p e s m args below meth c s₁ B hml htb hv
  obtain ⟨rfl, hsz, hN0, hP, hU, hZ, hD0, hw0⟩ := hv
  have hK := hU.2.1
  have hx := B.exec
  have hb := B.bytes
  have hr := B.returns
  have hts : ∀ w ∈ x_T, w.before ([.ref (ad 0), .int vv] : List Value).toArray s = true := fun w h => atoms_spec (ws := (Jvm.Cond.code ({ cls := "ChannelMachine", name := "channel", desc := "(I)I" } : Jvm.MethodName) prog_1_method_10_code (3 : Nat) (Option.some Jvm.ClassFile.FieldType.int)) :: x_T) B.pre w (List.mem_cons_of_mem _ h)
  have hown : s.vm.findClass "ChannelMachine" = some m.cls := findClass_of_methodNamed B.named
  have hlocks := B.notSynchronized
  subst hsz
  subst hw0
  have hD := hD0.self (sz := s.heap.size)
  have hAN := x_AN hD0 hN0
  generalize hAe : va_A (y_W ad ar I T A O pl) s.heap.size = Bq at hD hAN ⊢
  have hA : ∀ q : Nat, s.heap.size ≤ q → Bq q := fun q h => by rw [← hAe]; exact Or.inr h
  have hS : va_S Bq s.heap s.heap [] := va_S.rf
  have hl := lv_entry ([.ref (ad 0), .int vv]) (n := 3) (Nat.le_of_ble_eq_true rfl)
  rw [lg_entry_eq]
  generalize (lg_sl ([.ref (ad 0), .int vv]) ++ List.replicate (3 - (lg_sl ([.ref (ad 0), .int vv])).length) Slot.unset).toArray = ls at hl ⊢
  have hl : lv_has ls 3 [(0, .ref (ad 0)), (1, .int vv)] := hl
  have hbn := hci.2.2.2
  dsimp only at hbn
  have hle := y_LS.le hmi.2.1.2
  have hle2 := y_LS.le hmi.2.2.1.2
  have hcap := hmi.2.2.2.2.1
  dsimp only at hle hle2 hcap
  refine lv_iload_n hx hb d_CM_channel_0 rfl (lv_at hl 1 rfl) ?_
  refine lv_if_lt (tgt := 10) hx hb d_CM_channel_1 (by decide) (fun c1 => ?_) (fun c1 => ?_)
  · have hfr9 : m_fr [] I I := m_fr.rf
    have hcr9 : y_CR I (qn, sn, cq, cs) (K + 1) ln := hci.nx (hfr9 1 (by decide)) (hfr9 2 (by decide)) (hci.k7 (hfr9 7 (by decide)) (hfr9 9 (by decide))) ⟨by dsimp only; omega, by dsimp only; omega, by dsimp only; omega, by dsimp only; omega⟩
    have hco9 : y_CO z ar I O (y_L pl) (qn, sn, cq, cs) (K + 1) ln := ⟨_, _, _, hmi, hcr9⟩
    refine y_know (fun hy91 hy92 hy93 hy94 => ?_)
    refine y_xW (XC' := fun E st t => E = "java/lang/IllegalArgumentException" ∧ va_P (dC, dI) y_cl (y_W ad ar I T A O pl) t.heap ∧ va_F Bq st t) (mc' := 0 + 1) (ms' := 0 + 6) (by omega) (by omega) (fun E t hx9 hz9 hk9 => ?_) ?_
    · obtain ⟨rfl, hx1, hx2⟩ := hx9
      have hac9 : y_aE 110 35 (cq + cs) s.heap.size (y_hs s.heap) (cq + cs) t.heap := ⟨by omega, by omega⟩
      exact ⟨(I, T, A, O, pl, (qn, sn, cq, cs)), hco9, ⟨hx1, hD, rfl, hac9⟩, hx2⟩
    exact x_throw (A := Bq) hx hb hst (own := "ChannelMachine") (cls := "java/lang/IllegalArgumentException") (text := "not a channel") (ik := 31) (is := 128) (ic := 35) hown k_230 k_13 (by decide) x_tChannelMachine_35 (by decide +kernel) rfl hts hU.1 hZ.1 hAN hS (by rw [hml]; exact hl.1) d_CM_channel_10 d_CM_channel_13 d_CM_channel_14 d_CM_channel_16 d_CM_channel_19 htb (Nat.le_of_ble_eq_true rfl) (Nat.le_of_ble_eq_true rfl) (by show 0 + 1 ≤ (2000 * (K + 1) + 14 - cq + (400 * (K + 1) + 12 - cs)) / 5 + 8; omega) (by show 0 + 6 ≤ 4 * (2000 * (K + 1) + 14 - cq + (400 * (K + 1) + 12 - cs)) + 110; omega) hlocks (fun t h1 h2 h3 h4 => ⟨rfl, fun k q hk => (hP k q hk).kept (h3 q.1 (hP k q hk).lt), h4⟩) hS.2.2 (Nat.le_refl _) (Nat.le_refl _)
  · refine lv_iload_n hx hb d_CM_channel_4 rfl (lv_at hl 1 rfl) ?_
    refine lv_bipush (v := 6) hx hb d_CM_channel_5 (by decide) ?_
    refine lv_icmp_lt (tgt := 20) hx hb d_CM_channel_7 (by decide) (fun c2 => ?_) (fun c2 => ?_)
    · obtain ⟨c9, hc9, rfl⟩ := y_rg3 (hi := 6) c1 c2 (by decide)
      refine lv_aload_n hx hb d_CM_channel_20 rfl (lv_at hl 0 rfl) ?_
      refine k_g (C := "ChannelMachine") (F := F_CM) (N := 3) hx hb hts i_CM hown hK hP 0 1 (by decide) (by decide) rfl (by decide) (d := (0, 4)) rfl (hts _ k_195) (fun _ h9 => h9) (v := .ref (ad 4)) rfl d_CM_channel_21 ?_
      refine k_gN (C := "ChannelMachine$Machine") (F := F_Machine) (N := 11) hx hb hts i_Machine hown hK hP 4 1 (by decide) (by decide) rfl (by decide) (d := (0, 6)) rfl (hU.1.2.1 _ kn_153) (fun _ h9 => h9) (v := .ref (ad 6)) rfl d_CM_channel_24 ?_
      refine lv_iload_n hx hb d_CM_channel_27 rfl (lv_at hl 1 rfl) ?_
      refine k_chl hx hb hK hP (n := c9) (by omega) d_CM_channel_28 ?_
      refine lv_astore_n (lv' := [(2, .ref (ad (14 + c9))), (0, .ref (ad 0)), (1, .int (Int32.ofNat c9))]) hx hb d_CM_channel_29 rfl hl (by decide) rfl (fun ls hl => ?_)
      refine lv_aload_n hx hb d_CM_channel_30 rfl (lv_at hl 0 rfl) ?_
      refine k_gN (C := "ChannelMachine$Channel") (F := F_Channel) (N := 4) hx hb hts i_Channel hown hK hP (14 + c9) 1 (by omega) (y_cc (by omega)) (y_ccl (by omega)) (by decide) (d := (3, (4 + 3 * c9))) (y_dc1 (by omega)) (hU.1.2.1 _ kn_136) (fun _ h9 => h9) (v := va_rf (O ((4 + 3 * c9)))) rfl d_CM_channel_31 ?_
      rcases hOx3 : O ((4 + 3 * c9)) with _ | x3
      · refine W.eq (g2 := F0 m 34 ls [.null]) rfl ?_
        refine lv_ifnullN (tgt := 39) hx hb d_CM_channel_34 (by decide) ?_
        refine lv_aload_n hx hb d_CM_channel_39 rfl (lv_at hl 0 rfl) ?_
        refine k_gN (C := "ChannelMachine$Channel") (F := F_Channel) (N := 4) hx hb hts i_Channel hown hK hP (14 + c9) 0 (by omega) (y_cc (by omega)) (y_ccl (by omega)) (by decide) (d := (3, (3 + 3 * c9))) (y_dc0 (by omega)) (hU.1.2.1 _ kn_133) (fun _ h9 => h9) (v := va_rf (O ((3 + 3 * c9)))) rfl d_CM_channel_40 ?_
        rcases hOx4 : O ((3 + 3 * c9)) with _ | x4
        · refine W.eq (g2 := F0 m 43 ls [.null]) rfl ?_
          refine lv_ifnullN (tgt := 50) hx hb d_CM_channel_43 (by decide) ?_
          refine lv_iconst (v := 0) hx hb d_CM_channel_50 (by decide) ?_
          have hfr9 : m_fr [] I I := m_fr.rf
          have hcr9 : y_CR I (qn, sn, cq, cs) (K + 1) ln := hci.nx (hfr9 1 (by decide)) (hfr9 2 (by decide)) (hci.k7 (hfr9 7 (by decide)) (hfr9 9 (by decide))) ⟨by dsimp only; omega, by dsimp only; omega, by dsimp only; omega, by dsimp only; omega⟩
          have hco9 : y_CO z ar I O (y_L pl) (qn, sn, cq, cs) (K + 1) ln := ⟨_, _, _, hmi, hcr9⟩
          refine vx_ret ?_
          refine y_know (fun hy91 hy92 hy93 hy94 => ?_)
          have hac9 : y_aE 110 35 (cq + cs) s.heap.size (y_hs s.heap) (cq + cs) s.heap := ⟨by omega, by omega⟩
          refine W.widen (k := (2000 * (K + 1) + 14 - cq + (400 * (K + 1) + 12 - cs)) / 5 + 8) (n := 4 * (2000 * (K + 1) + 14 - cq + (400 * (K + 1) + 12 - cs)) + 110) (by omega) (by omega) ?_
          exact W.iret (v := 0) hx hb hr (fun t ht hW => ⟨⟨0, (I, T, A, O, pl, (qn, sn, cq, cs)), rfl, hco9, (by dsimp only; rw [ht]; exact ⟨hP, hD, hac9⟩)⟩, hS.F ht⟩) hS.2.2 d_CM_channel_51
        · refine W.eq (g2 := F0 m 43 ls [.ref x4]) rfl ?_
          have hx4 : G x4 = 8 := (hmi.2.2.2.2.2.1 c9 (by omega)).1 x4 hOx4
          refine lv_ifnull hx hb d_CM_channel_43 ?_
          refine lv_iconst (v := 2) hx hb d_CM_channel_46 (by decide) ?_
          refine lv_goto (tgt := 51) hx hb d_CM_channel_47 (by decide) ?_
          have hfr9 : m_fr [] I I := m_fr.rf
          have hcr9 : y_CR I (qn, sn, cq, cs) (K + 1) ln := hci.nx (hfr9 1 (by decide)) (hfr9 2 (by decide)) (hci.k7 (hfr9 7 (by decide)) (hfr9 9 (by decide))) ⟨by dsimp only; omega, by dsimp only; omega, by dsimp only; omega, by dsimp only; omega⟩
          have hco9 : y_CO z ar I O (y_L pl) (qn, sn, cq, cs) (K + 1) ln := ⟨_, _, _, hmi, hcr9⟩
          refine vx_ret ?_
          refine y_know (fun hy91 hy92 hy93 hy94 => ?_)
          have hac9 : y_aE 110 35 (cq + cs) s.heap.size (y_hs s.heap) (cq + cs) s.heap := ⟨by omega, by omega⟩
          refine W.widen (k := (2000 * (K + 1) + 14 - cq + (400 * (K + 1) + 12 - cs)) / 5 + 8) (n := 4 * (2000 * (K + 1) + 14 - cq + (400 * (K + 1) + 12 - cs)) + 110) (by omega) (by omega) ?_
          exact W.iret (v := 2) hx hb hr (fun t ht hW => ⟨⟨2, (I, T, A, O, pl, (qn, sn, cq, cs)), rfl, hco9, (by dsimp only; rw [ht]; exact ⟨hP, hD, hac9⟩)⟩, hS.F ht⟩) hS.2.2 d_CM_channel_51
      · refine W.eq (g2 := F0 m 34 ls [.ref x3]) rfl ?_
        have hx3 : G x3 = 8 := (hmi.2.2.2.2.2.1 c9 (by omega)).2.1 x3 hOx3
        refine lv_ifnull hx hb d_CM_channel_34 ?_
        refine lv_iconst (v := 1) hx hb d_CM_channel_37 (by decide) ?_
        have hfr9 : m_fr [] I I := m_fr.rf
        have hcr9 : y_CR I (qn, sn, cq, cs) (K + 1) ln := hci.nx (hfr9 1 (by decide)) (hfr9 2 (by decide)) (hci.k7 (hfr9 7 (by decide)) (hfr9 9 (by decide))) ⟨by dsimp only; omega, by dsimp only; omega, by dsimp only; omega, by dsimp only; omega⟩
        have hco9 : y_CO z ar I O (y_L pl) (qn, sn, cq, cs) (K + 1) ln := ⟨_, _, _, hmi, hcr9⟩
        refine vx_ret ?_
        refine y_know (fun hy91 hy92 hy93 hy94 => ?_)
        have hac9 : y_aE 110 35 (cq + cs) s.heap.size (y_hs s.heap) (cq + cs) s.heap := ⟨by omega, by omega⟩
        refine W.widen (k := (2000 * (K + 1) + 14 - cq + (400 * (K + 1) + 12 - cs)) / 5 + 8) (n := 4 * (2000 * (K + 1) + 14 - cq + (400 * (K + 1) + 12 - cs)) + 110) (by omega) (by omega) ?_
        exact W.iret (v := 1) hx hb hr (fun t ht hW => ⟨⟨1, (I, T, A, O, pl, (qn, sn, cq, cs)), rfl, hco9, (by dsimp only; rw [ht]; exact ⟨hP, hD, hac9⟩)⟩, hS.F ht⟩) hS.2.2 d_CM_channel_38
    · have hfr9 : m_fr [] I I := m_fr.rf
      have hcr9 : y_CR I (qn, sn, cq, cs) (K + 1) ln := hci.nx (hfr9 1 (by decide)) (hfr9 2 (by decide)) (hci.k7 (hfr9 7 (by decide)) (hfr9 9 (by decide))) ⟨by dsimp only; omega, by dsimp only; omega, by dsimp only; omega, by dsimp only; omega⟩
      have hco9 : y_CO z ar I O (y_L pl) (qn, sn, cq, cs) (K + 1) ln := ⟨_, _, _, hmi, hcr9⟩
      refine y_know (fun hy91 hy92 hy93 hy94 => ?_)
      refine y_xW (XC' := fun E st t => E = "java/lang/IllegalArgumentException" ∧ va_P (dC, dI) y_cl (y_W ad ar I T A O pl) t.heap ∧ va_F Bq st t) (mc' := 0 + 1) (ms' := 0 + 6) (by omega) (by omega) (fun E t hx9 hz9 hk9 => ?_) ?_
      · obtain ⟨rfl, hx1, hx2⟩ := hx9
        have hac9 : y_aE 110 35 (cq + cs) s.heap.size (y_hs s.heap) (cq + cs) t.heap := ⟨by omega, by omega⟩
        exact ⟨(I, T, A, O, pl, (qn, sn, cq, cs)), hco9, ⟨hx1, hD, rfl, hac9⟩, hx2⟩
      exact x_throw (A := Bq) hx hb hst (own := "ChannelMachine") (cls := "java/lang/IllegalArgumentException") (text := "not a channel") (ik := 31) (is := 128) (ic := 35) hown k_230 k_13 (by decide) x_tChannelMachine_35 (by decide +kernel) rfl hts hU.1 hZ.1 hAN hS (by rw [hml]; exact hl.1) d_CM_channel_10 d_CM_channel_13 d_CM_channel_14 d_CM_channel_16 d_CM_channel_19 htb (Nat.le_of_ble_eq_true rfl) (Nat.le_of_ble_eq_true rfl) (by show 0 + 1 ≤ (2000 * (K + 1) + 14 - cq + (400 * (K + 1) + 12 - cs)) / 5 + 8; omega) (by show 0 + 6 ≤ 4 * (2000 * (K + 1) + 14 - cq + (400 * (K + 1) + 12 - cs)) + 110; omega) hlocks (fun t h1 h2 h3 h4 => ⟨rfl, fun k q hk => (hP k q hk).kept (h3 q.1 (hP k q hk).lt), h4⟩) hS.2.2 (Nat.le_refl _) (Nat.le_refl _)
set_option maxHeartbeats 4000000 in
set_option maxRecDepth 100000 in
theorem c_C_count (l : Launch) (dC : Nat → ClassId) (dI : Nat → Nat → Nat) (ar : Nat → ClassId) (N0 : Nat) (z : Nat → Nat) (ad : Nat → Nat) (I : Nat → Int32) (T : Int64) (A : Nat → Nat → Int32) (O : Nat → Option Nat) (pl : va_W) (G : Nat → Nat) (C Gs : Nat → List Nat) (qn sn cq cs : Nat) (K ln : Nat) (vv : Int32) (sz w0 : Nat) (hmi : y_MI z ar G C Gs I O (y_L pl) (qn, sn, cq, cs)) (hK5 : K ≤ 511) (hci : y_CR I (qn, sn, cq, cs) K ln) : Met l ({ cls := "ChannelMachine", name := "count", desc := "(I)I" } : Jvm.MethodName) ((Jvm.Cond.code ({ cls := "ChannelMachine", name := "count", desc := "(I)I" } : Jvm.MethodName) prog_1_method_11_code (2 : Nat) (Option.some Jvm.ClassFile.FieldType.int)) :: x_T) ({ frames := 1, cells := (2000 * (K + 1) + 14 - cq + (400 * (K + 1) + 12 - cs)) / 5 + 8, slots := 4 * (2000 * (K + 1) + 14 - cq + (400 * (K + 1) + 12 - cs)) + 110, locals := 20 }) (y_Pc (dC, dI) ar N0 z (y_W ad ar I T A O pl) sz w0 [.ref (ad 0), .int vv]) (va_Qi (fun (r : Int32) (u : (Nat → Int32) × Int64 × (Nat → Nat → Int32) × (Nat → Option Nat) × va_W × (Nat × Nat × Nat × Nat)) => y_CO z ar u.1 u.2.2.2.1 (y_L u.2.2.2.2.1) u.2.2.2.2.2 (K + 1) ln) (fun u t => va_P (dC, dI) y_cl (y_W ad ar u.1 u.2.1 u.2.2.1 u.2.2.2.1 u.2.2.2.2.1) t.heap ∧ va_D (va_A (y_W ad ar I T A O pl) sz) (y_W ad ar u.1 u.2.1 u.2.2.1 u.2.2.2.1 u.2.2.2.2.1) ∧ y_aE 110 35 (cq + cs) sz w0 (u.2.2.2.2.2.2.2.1 + u.2.2.2.2.2.2.2.2) t.heap) (va_A (y_W ad ar I T A O pl) sz)) ((2000 * (K + 1) + 14 - cq + (400 * (K + 1) + 12 - cs)) / 5 + 8) (4 * (2000 * (K + 1) + 14 - cq + (400 * (K + 1) + 12 - cs)) + 110) (va_A (y_W ad ar I T A O pl) sz) := by
  refine Met.ofW (cc := prog_1_method_11_code) (maxL := 2) (ret := (some .int)) (by decide) rfl ?_
  intro p e s m args below meth c s₁ B hml hv
  obtain ⟨rfl, hsz, hN0, hP, hU, hZ, hD0, hw0⟩ := hv
  have hK := hU.2.1
  have hx := B.exec
  have hb := B.bytes
  have hr := B.returns
  have hts : ∀ w ∈ x_T, w.before ([.ref (ad 0), .int vv] : List Value).toArray s = true := fun w h => atoms_spec (ws := (Jvm.Cond.code ({ cls := "ChannelMachine", name := "count", desc := "(I)I" } : Jvm.MethodName) prog_1_method_11_code (2 : Nat) (Option.some Jvm.ClassFile.FieldType.int)) :: x_T) B.pre w (List.mem_cons_of_mem _ h)
  have hown : s.vm.findClass "ChannelMachine" = some m.cls := findClass_of_methodNamed B.named
  have hlocks := B.notSynchronized
  subst hsz
  subst hw0
  have hD := hD0.self (sz := s.heap.size)
  have hAN := x_AN hD0 hN0
  generalize hAe : va_A (y_W ad ar I T A O pl) s.heap.size = Bq at hD hAN ⊢
  have hA : ∀ q : Nat, s.heap.size ≤ q → Bq q := fun q h => by rw [← hAe]; exact Or.inr h
  have hS : va_S Bq s.heap s.heap [] := va_S.rf
  have hl := lv_entry ([.ref (ad 0), .int vv]) (n := 2) (Nat.le_of_ble_eq_true rfl)
  rw [lg_entry_eq]
  generalize (lg_sl ([.ref (ad 0), .int vv]) ++ List.replicate (2 - (lg_sl ([.ref (ad 0), .int vv])).length) Slot.unset).toArray = ls at hl ⊢
  have hl : lv_has ls 2 [(0, .ref (ad 0)), (1, .int vv)] := hl
  have hbn := hci.2.2.2
  dsimp only at hbn
  have hle := y_LS.le hmi.2.1.2
  have hle2 := y_LS.le hmi.2.2.1.2
  have hcap := hmi.2.2.2.2.1
  dsimp only at hle hle2 hcap
  refine lv_iload_n hx hb d_CM_count_0 rfl (lv_at hl 1 rfl) ?_
  rcases x_9 vv with h9 | rfl | rfl | rfl | rfl | rfl | rfl | rfl | rfl | rfl
  · refine lv_tableOut (tgt := 138) hx hb d_CM_count_1 h9 (by decide) ?_
    refine lv_iconst (v := (-1)) hx hb d_CM_count_138 (by decide) ?_
    have hfr9 : m_fr [] I I := m_fr.rf
    have hcr9 : y_CR I (qn, sn, cq, cs) (K + 1) ln := hci.nx (hfr9 1 (by decide)) (hfr9 2 (by decide)) (hci.k7 (hfr9 7 (by decide)) (hfr9 9 (by decide))) ⟨by dsimp only; omega, by dsimp only; omega, by dsimp only; omega, by dsimp only; omega⟩
    have hco9 : y_CO z ar I O (y_L pl) (qn, sn, cq, cs) (K + 1) ln := ⟨_, _, _, hmi, hcr9⟩
    refine y_know (fun hy91 hy92 hy93 hy94 => ?_)
    have hac9 : y_aE 110 35 (cq + cs) s.heap.size (y_hs s.heap) (cq + cs) s.heap := ⟨by omega, by omega⟩
    refine W.widen (k := (2000 * (K + 1) + 14 - cq + (400 * (K + 1) + 12 - cs)) / 5 + 8) (n := 4 * (2000 * (K + 1) + 14 - cq + (400 * (K + 1) + 12 - cs)) + 110) (by omega) (by omega) ?_
    exact W.iret (v := (-1)) hx hb hr (fun t ht hW => ⟨⟨(-1), (I, T, A, O, pl, (qn, sn, cq, cs)), rfl, hco9, (by dsimp only; rw [ht]; exact ⟨hP, hD, hac9⟩)⟩, hS.F ht⟩) hS.2.2 d_CM_count_139
  · refine lv_tableIn (tgt := 52) hx hb d_CM_count_1 (by decide) (by decide) (off := 51) rfl (by decide) ?_
    refine lv_aload_n hx hb d_CM_count_52 rfl (lv_at hl 0 rfl) ?_
    refine k_g (C := "ChannelMachine") (F := F_CM) (N := 3) hx hb hts i_CM hown hK hP 0 2 (by decide) (by decide) rfl (by decide) (d := (1, 0)) rfl (hts _ k_196) (fun _ h9 => h9) (v := .int (I 0)) rfl d_CM_count_53 ?_
    have hfr9 : m_fr [] I I := m_fr.rf
    have hcr9 : y_CR I (qn, sn, cq, cs) (K + 1) ln := hci.nx (hfr9 1 (by decide)) (hfr9 2 (by decide)) (hci.k7 (hfr9 7 (by decide)) (hfr9 9 (by decide))) ⟨by dsimp only; omega, by dsimp only; omega, by dsimp only; omega, by dsimp only; omega⟩
    have hco9 : y_CO z ar I O (y_L pl) (qn, sn, cq, cs) (K + 1) ln := ⟨_, _, _, hmi, hcr9⟩
    refine y_know (fun hy91 hy92 hy93 hy94 => ?_)
    have hac9 : y_aE 110 35 (cq + cs) s.heap.size (y_hs s.heap) (cq + cs) s.heap := ⟨by omega, by omega⟩
    refine W.widen (k := (2000 * (K + 1) + 14 - cq + (400 * (K + 1) + 12 - cs)) / 5 + 8) (n := 4 * (2000 * (K + 1) + 14 - cq + (400 * (K + 1) + 12 - cs)) + 110) (by omega) (by omega) ?_
    exact W.iret (v := (I 0)) hx hb hr (fun t ht hW => ⟨⟨(I 0), (I, T, A, O, pl, (qn, sn, cq, cs)), rfl, hco9, (by dsimp only; rw [ht]; exact ⟨hP, hD, hac9⟩)⟩, hS.F ht⟩) hS.2.2 d_CM_count_56
  · refine lv_tableIn (tgt := 57) hx hb d_CM_count_1 (by decide) (by decide) (off := 56) rfl (by decide) ?_
    refine lv_aload_n hx hb d_CM_count_57 rfl (lv_at hl 0 rfl) ?_
    refine k_g (C := "ChannelMachine") (F := F_CM) (N := 3) hx hb hts i_CM hown hK hP 0 1 (by decide) (by decide) rfl (by decide) (d := (0, 4)) rfl (hts _ k_195) (fun _ h9 => h9) (v := .ref (ad 4)) rfl d_CM_count_58 ?_
    refine k_gN (C := "ChannelMachine$Machine") (F := F_Machine) (N := 11) hx hb hts i_Machine hown hK hP 4 10 (by decide) (by decide) rfl (by decide) (d := (2, 0)) rfl (hU.1.2.1 _ kn_170) (fun _ h9 => h9) (v := .long T) rfl d_CM_count_61 ?_
    refine lv_l2i (v := (Int64.toInt32 T)) hx hb d_CM_count_64 rfl ?_
    have hfr9 : m_fr [] I I := m_fr.rf
    have hcr9 : y_CR I (qn, sn, cq, cs) (K + 1) ln := hci.nx (hfr9 1 (by decide)) (hfr9 2 (by decide)) (hci.k7 (hfr9 7 (by decide)) (hfr9 9 (by decide))) ⟨by dsimp only; omega, by dsimp only; omega, by dsimp only; omega, by dsimp only; omega⟩
    have hco9 : y_CO z ar I O (y_L pl) (qn, sn, cq, cs) (K + 1) ln := ⟨_, _, _, hmi, hcr9⟩
    refine y_know (fun hy91 hy92 hy93 hy94 => ?_)
    have hac9 : y_aE 110 35 (cq + cs) s.heap.size (y_hs s.heap) (cq + cs) s.heap := ⟨by omega, by omega⟩
    refine W.widen (k := (2000 * (K + 1) + 14 - cq + (400 * (K + 1) + 12 - cs)) / 5 + 8) (n := 4 * (2000 * (K + 1) + 14 - cq + (400 * (K + 1) + 12 - cs)) + 110) (by omega) (by omega) ?_
    exact W.iret (v := (Int64.toInt32 T)) hx hb hr (fun t ht hW => ⟨⟨(Int64.toInt32 T), (I, T, A, O, pl, (qn, sn, cq, cs)), rfl, hco9, (by dsimp only; rw [ht]; exact ⟨hP, hD, hac9⟩)⟩, hS.F ht⟩) hS.2.2 d_CM_count_65
  · refine lv_tableIn (tgt := 66) hx hb d_CM_count_1 (by decide) (by decide) (off := 65) rfl (by decide) ?_
    refine lv_aload_n hx hb d_CM_count_66 rfl (lv_at hl 0 rfl) ?_
    refine k_g (C := "ChannelMachine") (F := F_CM) (N := 3) hx hb hts i_CM hown hK hP 0 1 (by decide) (by decide) rfl (by decide) (d := (0, 4)) rfl (hts _ k_195) (fun _ h9 => h9) (v := .ref (ad 4)) rfl d_CM_count_67 ?_
    refine k_gN (C := "ChannelMachine$Machine") (F := F_Machine) (N := 11) hx hb hts i_Machine hown hK hP 4 4 (by decide) (by decide) rfl (by decide) (d := (0, 11)) rfl (hU.1.2.1 _ kn_159) (fun _ h9 => h9) (v := .ref (ad 11)) rfl d_CM_count_70 ?_
    have hFc := y_free hD hS hA
    refine va_callFi (va_runF (As := []) (rest := []) (hK.1 0 _ rfl).2 ⟨hx, hb, hml, hown, hts⟩ (c_L_size11 l dC dI ar N0 z ad I T A O pl G C Gs qn sn cq cs s.heap.size (y_hs s.heap) hmi) (va_cwF 0 hts (x_goodF k_209 k_213 k_215 k_7 k_217) rfl rfl rfl hU.1.2.2.2.2.1 (by decide +kernel) ⟨Nat.le_of_ble_eq_true rfl, Nat.le_of_ble_eq_true rfl⟩) ⟨y_blind, va_recv hK hP (ci := 0) (q0 := 11) rfl (y_W_ob (by decide) (by decide)), fun U9 hU9 hW9 => y_pre hU9 hW9 hP hD hU hZ hS hAN hN0⟩ rfl rfl hl.1 rfl (lv_room (Nat.le_of_ble_eq_true rfl)) d_CM_count_73 ⟨(by show 0 + (0) ≤ (2000 * (K + 1) + 14 - cq + (400 * (K + 1) + 12 - cs)) / 5 + 8; omega), (by show 0 + (0) ≤ 4 * (2000 * (K + 1) + 14 - cq + (400 * (K + 1) + 12 - cs)) + 110; omega)⟩) hS (fun q _ h => hFc q h) hFc (fun r_1 u t H1 locs ht hvm hw hB hz1 hk1 hS => ?_)
    obtain ⟨I2, T2, A2, O2, pl2, q2, s2, cq2, cs2⟩ := u
    dsimp only at hw hB
    rw [ht] at hB
    obtain ⟨hP, hD1, hac2⟩ := hB
    have hD : va_D Bq (y_W ad ar I2 T2 A2 O2 pl2) := hD1.weaken (fun _ q _ h => hFc q.1 h)
    generalize H1 = H at hP hS hac2 ⊢
    have hae2 := hac2
    try unfold y_ac at hae2
    try dsimp only at hae2
    refine W.widen (k := 0) (n := 0) (by omega) (by omega) ?_
    obtain ⟨h9, hw⟩ := hw
    cases h9
    obtain rfl := hw
    have hfr9 : m_fr [] I I := m_fr.rf
    have hcr9 : y_CR I (qn, sn, cq, cs) (K + 1) ln := hci.nx (hfr9 1 (by decide)) (hfr9 2 (by decide)) (hci.k7 (hfr9 7 (by decide)) (hfr9 9 (by decide))) ⟨by dsimp only; omega, by dsimp only; omega, by dsimp only; omega, by dsimp only; omega⟩
    have hco9 : y_CO z ar I O (y_L pl) (qn, sn, cq, cs) (K + 1) ln := ⟨_, _, _, hmi, hcr9⟩
    refine y_know (fun hy91 hy92 hy93 hy94 => ?_)
    have hac9 : y_aE 110 35 (cq + cs) s.heap.size (y_hs s.heap) (cq + cs) H := ⟨by omega, by omega⟩
    refine W.widen (k := (2000 * (K + 1) + 14 - cq + (400 * (K + 1) + 12 - cs)) / 5 + 8) (n := 4 * (2000 * (K + 1) + 14 - cq + (400 * (K + 1) + 12 - cs)) + 110) (by omega) (by omega) ?_
    exact W.iret (v := (Int32.ofNat qn)) hx hb hr (fun t ht hW => ⟨⟨(Int32.ofNat qn), (I, T, A, O, pl, (qn, sn, cq, cs)), rfl, hco9, (by dsimp only; rw [ht]; exact ⟨hP, hD, hac9⟩)⟩, hS.F ht⟩) hS.2.2 d_CM_count_78
  · refine lv_tableIn (tgt := 79) hx hb d_CM_count_1 (by decide) (by decide) (off := 78) rfl (by decide) ?_
    refine lv_aload_n hx hb d_CM_count_79 rfl (lv_at hl 0 rfl) ?_
    refine k_g (C := "ChannelMachine") (F := F_CM) (N := 3) hx hb hts i_CM hown hK hP 0 1 (by decide) (by decide) rfl (by decide) (d := (0, 4)) rfl (hts _ k_195) (fun _ h9 => h9) (v := .ref (ad 4)) rfl d_CM_count_80 ?_
    refine k_gN (C := "ChannelMachine$Machine") (F := F_Machine) (N := 11) hx hb hts i_Machine hown hK hP 4 8 (by decide) (by decide) rfl (by decide) (d := (1, 8)) rfl (hU.1.2.1 _ kn_166) (fun _ h9 => h9) (v := .int (I 8)) rfl d_CM_count_83 ?_
    have hfr9 : m_fr [] I I := m_fr.rf
    have hcr9 : y_CR I (qn, sn, cq, cs) (K + 1) ln := hci.nx (hfr9 1 (by decide)) (hfr9 2 (by decide)) (hci.k7 (hfr9 7 (by decide)) (hfr9 9 (by decide))) ⟨by dsimp only; omega, by dsimp only; omega, by dsimp only; omega, by dsimp only; omega⟩
    have hco9 : y_CO z ar I O (y_L pl) (qn, sn, cq, cs) (K + 1) ln := ⟨_, _, _, hmi, hcr9⟩
    refine y_know (fun hy91 hy92 hy93 hy94 => ?_)
    have hac9 : y_aE 110 35 (cq + cs) s.heap.size (y_hs s.heap) (cq + cs) s.heap := ⟨by omega, by omega⟩
    refine W.widen (k := (2000 * (K + 1) + 14 - cq + (400 * (K + 1) + 12 - cs)) / 5 + 8) (n := 4 * (2000 * (K + 1) + 14 - cq + (400 * (K + 1) + 12 - cs)) + 110) (by omega) (by omega) ?_
    exact W.iret (v := (I 8)) hx hb hr (fun t ht hW => ⟨⟨(I 8), (I, T, A, O, pl, (qn, sn, cq, cs)), rfl, hco9, (by dsimp only; rw [ht]; exact ⟨hP, hD, hac9⟩)⟩, hS.F ht⟩) hS.2.2 d_CM_count_86
  · refine lv_tableIn (tgt := 87) hx hb d_CM_count_1 (by decide) (by decide) (off := 86) rfl (by decide) ?_
    refine lv_aload_n hx hb d_CM_count_87 rfl (lv_at hl 0 rfl) ?_
    refine k_g (C := "ChannelMachine") (F := F_CM) (N := 3) hx hb hts i_CM hown hK hP 0 1 (by decide) (by decide) rfl (by decide) (d := (0, 4)) rfl (hts _ k_195) (fun _ h9 => h9) (v := .ref (ad 4)) rfl d_CM_count_88 ?_
    refine k_gN (C := "ChannelMachine$Machine") (F := F_Machine) (N := 11) hx hb hts i_Machine hown hK hP 4 9 (by decide) (by decide) rfl (by decide) (d := (1, 9)) rfl (hU.1.2.1 _ kn_168) (fun _ h9 => h9) (v := .int (I 9)) rfl d_CM_count_91 ?_
    have hfr9 : m_fr [] I I := m_fr.rf
    have hcr9 : y_CR I (qn, sn, cq, cs) (K + 1) ln := hci.nx (hfr9 1 (by decide)) (hfr9 2 (by decide)) (hci.k7 (hfr9 7 (by decide)) (hfr9 9 (by decide))) ⟨by dsimp only; omega, by dsimp only; omega, by dsimp only; omega, by dsimp only; omega⟩
    have hco9 : y_CO z ar I O (y_L pl) (qn, sn, cq, cs) (K + 1) ln := ⟨_, _, _, hmi, hcr9⟩
    refine y_know (fun hy91 hy92 hy93 hy94 => ?_)
    have hac9 : y_aE 110 35 (cq + cs) s.heap.size (y_hs s.heap) (cq + cs) s.heap := ⟨by omega, by omega⟩
    refine W.widen (k := (2000 * (K + 1) + 14 - cq + (400 * (K + 1) + 12 - cs)) / 5 + 8) (n := 4 * (2000 * (K + 1) + 14 - cq + (400 * (K + 1) + 12 - cs)) + 110) (by omega) (by omega) ?_
    exact W.iret (v := (I 9)) hx hb hr (fun t ht hW => ⟨⟨(I 9), (I, T, A, O, pl, (qn, sn, cq, cs)), rfl, hco9, (by dsimp only; rw [ht]; exact ⟨hP, hD, hac9⟩)⟩, hS.F ht⟩) hS.2.2 d_CM_count_94
  · refine lv_tableIn (tgt := 95) hx hb d_CM_count_1 (by decide) (by decide) (off := 94) rfl (by decide) ?_
    refine lv_aload_n hx hb d_CM_count_95 rfl (lv_at hl 0 rfl) ?_
    refine k_g (C := "ChannelMachine") (F := F_CM) (N := 3) hx hb hts i_CM hown hK hP 0 1 (by decide) (by decide) rfl (by decide) (d := (0, 4)) rfl (hts _ k_195) (fun _ h9 => h9) (v := .ref (ad 4)) rfl d_CM_count_96 ?_
    refine k_gN (C := "ChannelMachine$Machine") (F := F_Machine) (N := 11) hx hb hts i_Machine hown hK hP 4 2 (by decide) (by decide) rfl (by decide) (d := (0, 7)) rfl (hU.1.2.1 _ kn_155) (fun _ h9 => h9) (v := .ref (ad 7)) rfl d_CM_count_99 ?_
    refine k_gN (C := "ChannelMachine$Row") (F := F_Row) (N := 2) hx hb hts i_Row hown hK hP 7 1 (by decide) (by decide) rfl (by decide) (d := (1, 10)) rfl (hU.1.2.1 _ kn_94) (fun _ h9 => h9) (v := .int (I 10)) rfl d_CM_count_102 ?_
    have hfr9 : m_fr [] I I := m_fr.rf
    have hcr9 : y_CR I (qn, sn, cq, cs) (K + 1) ln := hci.nx (hfr9 1 (by decide)) (hfr9 2 (by decide)) (hci.k7 (hfr9 7 (by decide)) (hfr9 9 (by decide))) ⟨by dsimp only; omega, by dsimp only; omega, by dsimp only; omega, by dsimp only; omega⟩
    have hco9 : y_CO z ar I O (y_L pl) (qn, sn, cq, cs) (K + 1) ln := ⟨_, _, _, hmi, hcr9⟩
    refine y_know (fun hy91 hy92 hy93 hy94 => ?_)
    have hac9 : y_aE 110 35 (cq + cs) s.heap.size (y_hs s.heap) (cq + cs) s.heap := ⟨by omega, by omega⟩
    refine W.widen (k := (2000 * (K + 1) + 14 - cq + (400 * (K + 1) + 12 - cs)) / 5 + 8) (n := 4 * (2000 * (K + 1) + 14 - cq + (400 * (K + 1) + 12 - cs)) + 110) (by omega) (by omega) ?_
    exact W.iret (v := (I 10)) hx hb hr (fun t ht hW => ⟨⟨(I 10), (I, T, A, O, pl, (qn, sn, cq, cs)), rfl, hco9, (by dsimp only; rw [ht]; exact ⟨hP, hD, hac9⟩)⟩, hS.F ht⟩) hS.2.2 d_CM_count_105
  · refine lv_tableIn (tgt := 106) hx hb d_CM_count_1 (by decide) (by decide) (off := 105) rfl (by decide) ?_
    refine lv_aload_n hx hb d_CM_count_106 rfl (lv_at hl 0 rfl) ?_
    refine k_g (C := "ChannelMachine") (F := F_CM) (N := 3) hx hb hts i_CM hown hK hP 0 1 (by decide) (by decide) rfl (by decide) (d := (0, 4)) rfl (hts _ k_195) (fun _ h9 => h9) (v := .ref (ad 4)) rfl d_CM_count_107 ?_
    refine k_gN (C := "ChannelMachine$Machine") (F := F_Machine) (N := 11) hx hb hts i_Machine hown hK hP 4 3 (by decide) (by decide) rfl (by decide) (d := (0, 9)) rfl (hU.1.2.1 _ kn_157) (fun _ h9 => h9) (v := .ref (ad 9)) rfl d_CM_count_110 ?_
    refine k_gN (C := "ChannelMachine$Row") (F := F_Row) (N := 2) hx hb hts i_Row hown hK hP 9 1 (by decide) (by decide) rfl (by decide) (d := (1, 11)) rfl (hU.1.2.1 _ kn_94) (fun _ h9 => h9) (v := .int (I 11)) rfl d_CM_count_113 ?_
    have hfr9 : m_fr [] I I := m_fr.rf
    have hcr9 : y_CR I (qn, sn, cq, cs) (K + 1) ln := hci.nx (hfr9 1 (by decide)) (hfr9 2 (by decide)) (hci.k7 (hfr9 7 (by decide)) (hfr9 9 (by decide))) ⟨by dsimp only; omega, by dsimp only; omega, by dsimp only; omega, by dsimp only; omega⟩
    have hco9 : y_CO z ar I O (y_L pl) (qn, sn, cq, cs) (K + 1) ln := ⟨_, _, _, hmi, hcr9⟩
    refine y_know (fun hy91 hy92 hy93 hy94 => ?_)
    have hac9 : y_aE 110 35 (cq + cs) s.heap.size (y_hs s.heap) (cq + cs) s.heap := ⟨by omega, by omega⟩
    refine W.widen (k := (2000 * (K + 1) + 14 - cq + (400 * (K + 1) + 12 - cs)) / 5 + 8) (n := 4 * (2000 * (K + 1) + 14 - cq + (400 * (K + 1) + 12 - cs)) + 110) (by omega) (by omega) ?_
    exact W.iret (v := (I 11)) hx hb hr (fun t ht hW => ⟨⟨(I 11), (I, T, A, O, pl, (qn, sn, cq, cs)), rfl, hco9, (by dsimp only; rw [ht]; exact ⟨hP, hD, hac9⟩)⟩, hS.F ht⟩) hS.2.2 d_CM_count_116
  · refine lv_tableIn (tgt := 117) hx hb d_CM_count_1 (by decide) (by decide) (off := 116) rfl (by decide) ?_
    refine lv_aload_n hx hb d_CM_count_117 rfl (lv_at hl 0 rfl) ?_
    refine k_g (C := "ChannelMachine") (F := F_CM) (N := 3) hx hb hts i_CM hown hK hP 0 1 (by decide) (by decide) rfl (by decide) (d := (0, 4)) rfl (hts _ k_195) (fun _ h9 => h9) (v := .ref (ad 4)) rfl d_CM_count_118 ?_
    refine k_gN (C := "ChannelMachine$Machine") (F := F_Machine) (N := 11) hx hb hts i_Machine hown hK hP 4 7 (by decide) (by decide) rfl (by decide) (d := (1, 7)) rfl (hU.1.2.1 _ kn_164) (fun _ h9 => h9) (v := .int (I 7)) rfl d_CM_count_121 ?_
    have hfr9 : m_fr [] I I := m_fr.rf
    have hcr9 : y_CR I (qn, sn, cq, cs) (K + 1) ln := hci.nx (hfr9 1 (by decide)) (hfr9 2 (by decide)) (hci.k7 (hfr9 7 (by decide)) (hfr9 9 (by decide))) ⟨by dsimp only; omega, by dsimp only; omega, by dsimp only; omega, by dsimp only; omega⟩
    have hco9 : y_CO z ar I O (y_L pl) (qn, sn, cq, cs) (K + 1) ln := ⟨_, _, _, hmi, hcr9⟩
    refine y_know (fun hy91 hy92 hy93 hy94 => ?_)
    have hac9 : y_aE 110 35 (cq + cs) s.heap.size (y_hs s.heap) (cq + cs) s.heap := ⟨by omega, by omega⟩
    refine W.widen (k := (2000 * (K + 1) + 14 - cq + (400 * (K + 1) + 12 - cs)) / 5 + 8) (n := 4 * (2000 * (K + 1) + 14 - cq + (400 * (K + 1) + 12 - cs)) + 110) (by omega) (by omega) ?_
    exact W.iret (v := (I 7)) hx hb hr (fun t ht hW => ⟨⟨(I 7), (I, T, A, O, pl, (qn, sn, cq, cs)), rfl, hco9, (by dsimp only; rw [ht]; exact ⟨hP, hD, hac9⟩)⟩, hS.F ht⟩) hS.2.2 d_CM_count_124
  · refine lv_tableIn (tgt := 125) hx hb d_CM_count_1 (by decide) (by decide) (off := 124) rfl (by decide) ?_
    refine lv_aload_n hx hb d_CM_count_125 rfl (lv_at hl 0 rfl) ?_
    refine k_g (C := "ChannelMachine") (F := F_CM) (N := 3) hx hb hts i_CM hown hK hP 0 1 (by decide) (by decide) rfl (by decide) (d := (0, 4)) rfl (hts _ k_195) (fun _ h9 => h9) (v := .ref (ad 4)) rfl d_CM_count_126 ?_
    refine k_gN (C := "ChannelMachine$Machine") (F := F_Machine) (N := 11) hx hb hts i_Machine hown hK hP 4 5 (by decide) (by decide) rfl (by decide) (d := (0, 12)) rfl (hU.1.2.1 _ kn_161) (fun _ h9 => h9) (v := .ref (ad 12)) rfl d_CM_count_129 ?_
    have hFc := y_free hD hS hA
    refine va_callFi (va_runF (As := []) (rest := []) (hK.1 0 _ rfl).2 ⟨hx, hb, hml, hown, hts⟩ (c_L_size12 l dC dI ar N0 z ad I T A O pl G C Gs qn sn cq cs s.heap.size (y_hs s.heap) hmi) (va_cwF 0 hts (x_goodF k_209 k_213 k_215 k_7 k_217) rfl rfl rfl hU.1.2.2.2.2.1 (by decide +kernel) ⟨Nat.le_of_ble_eq_true rfl, Nat.le_of_ble_eq_true rfl⟩) ⟨y_blind, va_recv hK hP (ci := 0) (q0 := 12) rfl (y_W_ob (by decide) (by decide)), fun U9 hU9 hW9 => y_pre hU9 hW9 hP hD hU hZ hS hAN hN0⟩ rfl rfl hl.1 rfl (lv_room (Nat.le_of_ble_eq_true rfl)) d_CM_count_132 ⟨(by show 0 + (0) ≤ (2000 * (K + 1) + 14 - cq + (400 * (K + 1) + 12 - cs)) / 5 + 8; omega), (by show 0 + (0) ≤ 4 * (2000 * (K + 1) + 14 - cq + (400 * (K + 1) + 12 - cs)) + 110; omega)⟩) hS (fun q _ h => hFc q h) hFc (fun r_3 u t H1 locs ht hvm hw hB hz1 hk1 hS => ?_)
    obtain ⟨I4, T4, A4, O4, pl4, q4, s4, cq4, cs4⟩ := u
    dsimp only at hw hB
    rw [ht] at hB
    obtain ⟨hP, hD1, hac4⟩ := hB
    have hD : va_D Bq (y_W ad ar I4 T4 A4 O4 pl4) := hD1.weaken (fun _ q _ h => hFc q.1 h)
    generalize H1 = H at hP hS hac4 ⊢
    have hae4 := hac4
    try unfold y_ac at hae4
    try dsimp only at hae4
    refine W.widen (k := 0) (n := 0) (by omega) (by omega) ?_
    obtain ⟨h9, hw⟩ := hw
    cases h9
    obtain rfl := hw
    have hfr9 : m_fr [] I I := m_fr.rf
    have hcr9 : y_CR I (qn, sn, cq, cs) (K + 1) ln := hci.nx (hfr9 1 (by decide)) (hfr9 2 (by decide)) (hci.k7 (hfr9 7 (by decide)) (hfr9 9 (by decide))) ⟨by dsimp only; omega, by dsimp only; omega, by dsimp only; omega, by dsimp only; omega⟩
    have hco9 : y_CO z ar I O (y_L pl) (qn, sn, cq, cs) (K + 1) ln := ⟨_, _, _, hmi, hcr9⟩
    refine y_know (fun hy91 hy92 hy93 hy94 => ?_)
    have hac9 : y_aE 110 35 (cq + cs) s.heap.size (y_hs s.heap) (cq + cs) H := ⟨by omega, by omega⟩
    refine W.widen (k := (2000 * (K + 1) + 14 - cq + (400 * (K + 1) + 12 - cs)) / 5 + 8) (n := 4 * (2000 * (K + 1) + 14 - cq + (400 * (K + 1) + 12 - cs)) + 110) (by omega) (by omega) ?_
    exact W.iret (v := (Int32.ofNat sn)) hx hb hr (fun t ht hW => ⟨⟨(Int32.ofNat sn), (I, T, A, O, pl, (qn, sn, cq, cs)), rfl, hco9, (by dsimp only; rw [ht]; exact ⟨hP, hD, hac9⟩)⟩, hS.F ht⟩) hS.2.2 d_CM_count_137
set_option maxHeartbeats 4000000 in
set_option maxRecDepth 100000 in
theorem c_C_give (l : Launch) (hst : l.stackTraces = false) (dC : Nat → ClassId) (dI : Nat → Nat → Nat) (ar : Nat → ClassId) (N0 : Nat) (z : Nat → Nat) (ad : Nat → Nat) (I : Nat → Int32) (T : Int64) (A : Nat → Nat → Int32) (O : Nat → Option Nat) (pl : va_W) (G : Nat → Nat) (C Gs : Nat → List Nat) (qn sn cq cs : Nat) (K ln : Nat) (vv : Int32) (sz w0 : Nat) (hmi : y_MI z ar G C Gs I O (y_L pl) (qn, sn, cq, cs)) (hK5 : K ≤ 511) (hci : y_CR I (qn, sn, cq, cs) K ln) : vx_Met l ({ cls := "ChannelMachine", name := "give", desc := "(I)I" } : Jvm.MethodName) ((Jvm.Cond.code ({ cls := "ChannelMachine", name := "give", desc := "(I)I" } : Jvm.MethodName) prog_1_method_6_code (2 : Nat) (Option.some Jvm.ClassFile.FieldType.int)) :: x_T) ({ frames := 9, cells := (2000 * (K + 1) + 14 - cq + (400 * (K + 1) + 12 - cs)) / 5 + 8, slots := 4 * (2000 * (K + 1) + 14 - cq + (400 * (K + 1) + 12 - cs)) + 110, locals := 237 }) (y_Pc (dC, dI) ar N0 z (y_W ad ar I T A O pl) sz w0 [.ref (ad 0), .int vv]) (va_Qi (fun (r : Int32) (u : (Nat → Int32) × Int64 × (Nat → Nat → Int32) × (Nat → Option Nat) × va_W × (Nat × Nat × Nat × Nat)) => y_CO z ar u.1 u.2.2.2.1 (y_L u.2.2.2.2.1) u.2.2.2.2.2 (K + 1) ln) (fun u t => va_P (dC, dI) y_cl (y_W ad ar u.1 u.2.1 u.2.2.1 u.2.2.2.1 u.2.2.2.2.1) t.heap ∧ va_D (va_A (y_W ad ar I T A O pl) sz) (y_W ad ar u.1 u.2.1 u.2.2.1 u.2.2.2.1 u.2.2.2.2.1) ∧ y_aE 110 35 (cq + cs) sz w0 (u.2.2.2.2.2.2.2.1 + u.2.2.2.2.2.2.2.2) t.heap) (va_A (y_W ad ar I T A O pl) sz)) (vx_X (fun (u : (Nat → Int32) × Int64 × (Nat → Nat → Int32) × (Nat → Option Nat) × va_W × (Nat × Nat × Nat × Nat)) => y_CO z ar u.1 u.2.2.2.1 (y_L u.2.2.2.2.1) u.2.2.2.2.2 (K + 1) ln) (fun E u t => va_P (dC, dI) y_cl (y_W ad ar u.1 u.2.1 u.2.2.1 u.2.2.2.1 u.2.2.2.2.1) t.heap ∧ va_D (va_A (y_W ad ar I T A O pl) sz) (y_W ad ar u.1 u.2.1 u.2.2.1 u.2.2.2.1 u.2.2.2.2.1) ∧ (E = "java/lang/IllegalStateException") ∧ y_aE 110 35 (cq + cs) sz w0 (u.2.2.2.2.2.2.2.1 + u.2.2.2.2.2.2.2.2) t.heap) (va_A (y_W ad ar I T A O pl) sz)) ((2000 * (K + 1) + 14 - cq + (400 * (K + 1) + 12 - cs)) / 5 + 8) (4 * (2000 * (K + 1) + 14 - cq + (400 * (K + 1) + 12 - cs)) + 110) (va_A (y_W ad ar I T A O pl) sz) := by
  refine vx_ofW (cc := prog_1_method_6_code) (maxL := 2) (ret := (some .int)) (by decide) rfl ?_
  intro p e s m args below meth c s₁ B hml htb hv
  obtain ⟨rfl, hsz, hN0, hP, hU, hZ, hD0, hw0⟩ := hv
  have hK := hU.2.1
  have hx := B.exec
  have hb := B.bytes
  have hr := B.returns
  have hts : ∀ w ∈ x_T, w.before ([.ref (ad 0), .int vv] : List Value).toArray s = true := fun w h => atoms_spec (ws := (Jvm.Cond.code ({ cls := "ChannelMachine", name := "give", desc := "(I)I" } : Jvm.MethodName) prog_1_method_6_code (2 : Nat) (Option.some Jvm.ClassFile.FieldType.int)) :: x_T) B.pre w (List.mem_cons_of_mem _ h)
  have hown : s.vm.findClass "ChannelMachine" = some m.cls := findClass_of_methodNamed B.named
  have hlocks := B.notSynchronized
  subst hsz
  subst hw0
  have hD := hD0.self (sz := s.heap.size)
  have hAN := x_AN hD0 hN0
  generalize hAe : va_A (y_W ad ar I T A O pl) s.heap.size = Bq at hD hAN ⊢
  have hA : ∀ q : Nat, s.heap.size ≤ q → Bq q := fun q h => by rw [← hAe]; exact Or.inr h
  have hS : va_S Bq s.heap s.heap [] := va_S.rf
  have hl := lv_entry ([.ref (ad 0), .int vv]) (n := 2) (Nat.le_of_ble_eq_true rfl)
  rw [lg_entry_eq]
  generalize (lg_sl ([.ref (ad 0), .int vv]) ++ List.replicate (2 - (lg_sl ([.ref (ad 0), .int vv])).length) Slot.unset).toArray = ls at hl ⊢
  have hl : lv_has ls 2 [(0, .ref (ad 0)), (1, .int vv)] := hl
  have hbn := hci.2.2.2
  dsimp only at hbn
  have hle := y_LS.le hmi.2.1.2
  have hle2 := y_LS.le hmi.2.2.1.2
  have hcap := hmi.2.2.2.2.1
  dsimp only at hle hle2 hcap
  have hgg := y_gg qn cq
  refine lv_aload_n hx hb d_CM_give_0 rfl (lv_at hl 0 rfl) ?_
  refine k_g (C := "ChannelMachine") (F := F_CM) (N := 3) hx hb hts i_CM hown hK hP 0 1 (by decide) (by decide) rfl (by decide) (d := (0, 4)) rfl (hts _ k_195) (fun _ h9 => h9) (v := .ref (ad 4)) rfl d_CM_give_1 ?_
  refine k_gN (C := "ChannelMachine$Machine") (F := F_Machine) (N := 11) hx hb hts i_Machine hown hK hP 4 7 (by decide) (by decide) rfl (by decide) (d := (1, 7)) rfl (hU.1.2.1 _ kn_164) (fun _ h9 => h9) (v := .int (I 7)) rfl d_CM_give_4 ?_
  refine lv_iconst (v := 1) hx hb d_CM_give_7 (by decide) ?_
  refine lv_icmp_eq (tgt := 21) hx hb d_CM_give_8 (by decide) (fun c1 => ?_) (fun c1 => ?_)
  · refine lv_aload_n hx hb d_CM_give_21 rfl (lv_at hl 0 rfl) ?_
    refine k_g (C := "ChannelMachine") (F := F_CM) (N := 3) hx hb hts i_CM hown hK hP 0 1 (by decide) (by decide) rfl (by decide) (d := (0, 4)) rfl (hts _ k_195) (fun _ h9 => h9) (v := .ref (ad 4)) rfl d_CM_give_22 ?_
    refine k_gN (C := "ChannelMachine$Machine") (F := F_Machine) (N := 11) hx hb hts i_Machine hown hK hP 4 2 (by decide) (by decide) rfl (by decide) (d := (0, 7)) rfl (hU.1.2.1 _ kn_155) (fun _ h9 => h9) (v := .ref (ad 7)) rfl d_CM_give_25 ?_
    have hFc := y_free hD hS hA
    refine va_calli (va_runV (As := []) (rest := []) ⟨hx, hb, hml, hown, hts⟩ (c_R_isFull7 l dC dI ar N0 z ad I T A O pl G C Gs qn sn cq cs s.heap.size (y_hs s.heap) hmi) (cwV 0 hts (x_goodV k_904 k_832 k_833 k_4 k_834) rfl rfl rfl (by decide +kernel) ⟨Nat.le_of_ble_eq_true rfl, Nat.le_of_ble_eq_true rfl⟩) ⟨y_blind, va_recv hK hP (ci := 4) (q0 := 7) rfl (y_W_ob (by decide) (by decide)), fun U9 hU9 hW9 => y_pre hU9 hW9 hP hD hU hZ hS hAN hN0⟩ rfl rfl hl.1 rfl (lv_room (Nat.le_of_ble_eq_true rfl)) d_CM_give_28 ⟨(by show 0 + (0) ≤ (2000 * (K + 1) + 14 - cq + (400 * (K + 1) + 12 - cs)) / 5 + 8; omega), (by show 0 + (0) ≤ 4 * (2000 * (K + 1) + 14 - cq + (400 * (K + 1) + 12 - cs)) + 110; omega)⟩) hS (fun q _ h => hFc q h) hFc (fun r_2 u t H1 locs ht hvm hw hB hz1 hk1 hS => ?_)
    obtain ⟨I3, T3, A3, O3, pl3, q3, s3, cq3, cs3⟩ := u
    dsimp only at hw hB
    rw [ht] at hB
    obtain ⟨hP, hD1, hac3⟩ := hB
    have hD : va_D Bq (y_W ad ar I3 T3 A3 O3 pl3) := hD1.weaken (fun _ q _ h => hFc q.1 h)
    generalize H1 = H at hP hS hac3 ⊢
    have hae3 := hac3
    try unfold y_ac at hae3
    try dsimp only at hae3
    refine W.widen (k := 0) (n := 0) (by omega) (by omega) ?_
    obtain ⟨h9, hw⟩ := hw
    cases h9
    rcases hw with rfl | rfl
    · refine lv_if_eq (tgt := 44) hx hb d_CM_give_31 (by decide) (fun _ => ?_) (fun c4 => absurd (by decide) c4)
      refine lv_aload_n hx hb d_CM_give_44 rfl (lv_at hl 0 rfl) ?_
      refine k_g (C := "ChannelMachine") (F := F_CM) (N := 3) hx hb hts i_CM hown hK hP 0 1 (by decide) (by decide) rfl (by decide) (d := (0, 4)) rfl (hts _ k_195) (fun _ h9 => h9) (v := .ref (ad 4)) rfl d_CM_give_45 ?_
      refine lv_iload_n hx hb d_CM_give_48 rfl (lv_at hl 1 rfl) ?_
      have hgg5 := y_gg qn cq
      refine y_know (fun hya1 hya2 hya3 hya4 => ?_)
      have hFc := y_free hD hS hA
      refine va_callv (va_runV (As := [.int vv]) (rest := []) ⟨hx, hb, hml, hown, hts⟩ (c_M_accept l dC dI ar N0 z ad I T A O pl G C Gs qn sn cq cs (vv) H.size (y_hs H) hmi (by omega)) (cwV 1 hts (x_goodV k_906 k_907 k_908 k_3 k_909) rfl rfl rfl (by decide +kernel) ⟨Nat.le_of_ble_eq_true rfl, Nat.le_of_ble_eq_true rfl⟩) ⟨y_blind, va_recv hK hP (ci := 2) (q0 := 4) rfl (y_W_ob (by decide) (by decide)), fun U9 hU9 hW9 => y_pre hU9 hW9 hP hD hU hZ hS hAN hN0⟩ rfl rfl hl.1 rfl (lv_room (Nat.le_of_ble_eq_true rfl)) d_CM_give_49 ⟨(by show 0 + (y_gc qn cq) ≤ (2000 * (K + 1) + 14 - cq + (400 * (K + 1) + 12 - cs)) / 5 + 8; omega), (by show 0 + (y_gs qn cq) ≤ 4 * (2000 * (K + 1) + 14 - cq + (400 * (K + 1) + 12 - cs)) + 110; omega)⟩) hS (fun q _ h => hFc q h) hFc (fun u t H1 locs ht hvm hw hB hz1 hk1 hS => ?_)
      obtain ⟨I6, T6, A6, O6, pl6, q6, s6, cq6, cs6⟩ := u
      dsimp only at hw hB
      rw [ht] at hB
      obtain ⟨hP, hD1, hac6⟩ := hB
      have hD : va_D Bq (y_W ad ar I6 T6 A6 O6 pl6) := hD1.weaken (fun _ q _ h => hFc q.1 h)
      generalize H1 = H at hP hS hac6 ⊢
      have hae6 := hac6
      try unfold y_ac at hae6
      try dsimp only at hae6
      obtain ⟨hmi, hbd6, fr6⟩ := hw
      unfold y_ac at hac6
      have hb6 := hbd6
      unfold y_bd at hb6
      dsimp only at hb6 hac6
      refine y_tight (k := (cq6 + cs6 - (cq + cs)) / 5) (n := 4 * (cq6 + cs6 - (cq + cs))) (by omega) (by omega) ?_
      refine lv_aload_n hx hb d_CM_give_52 rfl (lv_at hl 0 rfl) ?_
      refine k_g (C := "ChannelMachine") (F := F_CM) (N := 3) hx hb hts i_CM hown hK hP 0 1 (by decide) (by decide) rfl (by decide) (d := (0, 4)) rfl (hts _ k_195) (fun _ h9 => h9) (v := .ref (ad 4)) rfl d_CM_give_53 ?_
      refine k_gN (C := "ChannelMachine$Machine") (F := F_Machine) (N := 11) hx hb hts i_Machine hown hK hP 4 2 (by decide) (by decide) rfl (by decide) (d := (0, 7)) rfl (hU.1.2.1 _ kn_155) (fun _ h9 => h9) (v := .ref (ad 7)) rfl d_CM_give_56 ?_
      refine k_gN (C := "ChannelMachine$Row") (F := F_Row) (N := 2) hx hb hts i_Row hown hK hP 7 1 (by decide) (by decide) rfl (by decide) (d := (1, 10)) rfl (hU.1.2.1 _ kn_94) (fun _ h9 => h9) (v := .int (I6 10)) rfl d_CM_give_59 ?_
      have hfr9 : m_fr [10, 11, 12, 13, 14, 15] I I6 := (m_fr.rf.tr fr6 (by decide))
      have hcr9 : y_CR I6 (q6, s6, cq6, cs6) (K + 1) ln := hci.nx (hfr9 1 (by decide)) (hfr9 2 (by decide)) (hci.k7 (hfr9 7 (by decide)) (hfr9 9 (by decide))) ⟨by dsimp only; omega, by dsimp only; omega, by dsimp only; omega, by dsimp only; omega⟩
      have hco9 : y_CO z ar I6 O6 (y_L pl6) (q6, s6, cq6, cs6) (K + 1) ln := ⟨_, _, _, hmi, hcr9⟩
      refine vx_ret ?_
      refine y_know (fun hy91 hy92 hy93 hy94 => ?_)
      have hac9 : y_aE 110 35 (cq + cs) s.heap.size (y_hs s.heap) (cq6 + cs6) H := ⟨by omega, by omega⟩
      refine W.widen (k := (2000 * (K + 1) + 14 - cq + (400 * (K + 1) + 12 - cs)) / 5 + 8) (n := 4 * (2000 * (K + 1) + 14 - cq + (400 * (K + 1) + 12 - cs)) + 110) (by omega) (by omega) ?_
      exact W.iret (v := (I6 10)) hx hb hr (fun t ht hW => ⟨⟨(I6 10), (I6, T6, A6, O6, pl6, (q6, s6, cq6, cs6)), rfl, hco9, (by dsimp only; rw [ht]; exact ⟨hP, hD, hac9⟩)⟩, hS.F ht⟩) hS.2.2 d_CM_give_62
    · refine lv_if_eq (tgt := 44) hx hb d_CM_give_31 (by decide) (fun c7 => absurd c7 (by decide)) (fun _ => ?_)
      have hfr9 : m_fr [10, 11, 12, 13, 14, 15] I I := m_fr.rf
      have hcr9 : y_CR I (qn, sn, cq, cs) (K + 1) ln := hci.nx (hfr9 1 (by decide)) (hfr9 2 (by decide)) (hci.k7 (hfr9 7 (by decide)) (hfr9 9 (by decide))) ⟨by dsimp only; omega, by dsimp only; omega, by dsimp only; omega, by dsimp only; omega⟩
      have hco9 : y_CO z ar I O (y_L pl) (qn, sn, cq, cs) (K + 1) ln := ⟨_, _, _, hmi, hcr9⟩
      refine y_know (fun hy91 hy92 hy93 hy94 => ?_)
      refine y_xW (XC' := fun E st t => E = "java/lang/IllegalStateException" ∧ va_P (dC, dI) y_cl (y_W ad ar I T A O pl) t.heap ∧ va_F Bq st t) (mc' := 0 + 1) (ms' := 0 + 6) (by omega) (by omega) (fun E t hx9 hz9 hk9 => ?_) ?_
      · obtain ⟨rfl, hx1, hx2⟩ := hx9
        have hac9 : y_aE 110 35 (cq + cs) s.heap.size (y_hs s.heap) (cq + cs) t.heap := ⟨by omega, by omega⟩
        exact ⟨(I, T, A, O, pl, (qn, sn, cq, cs)), hco9, ⟨hx1, hD, rfl, hac9⟩, hx2⟩
      exact x_throw (A := Bq) hx hb hst (own := "ChannelMachine") (cls := "java/lang/IllegalStateException") (text := "no room for a gift") (ik := 41) (is := 101) (ic := 45) hown k_299 k_14 (by decide) x_tChannelMachine_45 (by decide +kernel) rfl hts hU.1 hZ.1 hAN hS (by rw [hml]; exact hl.1) d_CM_give_34 d_CM_give_37 d_CM_give_38 d_CM_give_40 d_CM_give_43 htb (Nat.le_of_ble_eq_true rfl) (Nat.le_of_ble_eq_true rfl) (by show 0 + 1 ≤ (2000 * (K + 1) + 14 - cq + (400 * (K + 1) + 12 - cs)) / 5 + 8; omega) (by show 0 + 6 ≤ 4 * (2000 * (K + 1) + 14 - cq + (400 * (K + 1) + 12 - cs)) + 110; omega) hlocks (fun t h1 h2 h3 h4 => ⟨rfl, fun k q hk => (hP k q hk).kept (h3 q.1 (hP k q hk).lt), h4⟩) hS.2.2 (Nat.le_refl _) (Nat.le_refl _)
  · have hfr9 : m_fr [10, 11, 12, 13, 14, 15] I I := m_fr.rf
    have hcr9 : y_CR I (qn, sn, cq, cs) (K + 1) ln := hci.nx (hfr9 1 (by decide)) (hfr9 2 (by decide)) (hci.k7 (hfr9 7 (by decide)) (hfr9 9 (by decide))) ⟨by dsimp only; omega, by dsimp only; omega, by dsimp only; omega, by dsimp only; omega⟩
    have hco9 : y_CO z ar I O (y_L pl) (qn, sn, cq, cs) (K + 1) ln := ⟨_, _, _, hmi, hcr9⟩
    refine y_know (fun hy91 hy92 hy93 hy94 => ?_)
    refine y_xW (XC' := fun E st t => E = "java/lang/IllegalStateException" ∧ va_P (dC, dI) y_cl (y_W ad ar I T A O pl) t.heap ∧ va_F Bq st t) (mc' := 0 + 1) (ms' := 0 + 6) (by omega) (by omega) (fun E t hx9 hz9 hk9 => ?_) ?_
    · obtain ⟨rfl, hx1, hx2⟩ := hx9
      have hac9 : y_aE 110 35 (cq + cs) s.heap.size (y_hs s.heap) (cq + cs) t.heap := ⟨by omega, by omega⟩
      exact ⟨(I, T, A, O, pl, (qn, sn, cq, cs)), hco9, ⟨hx1, hD, rfl, hac9⟩, hx2⟩
    exact x_throw (A := Bq) hx hb hst (own := "ChannelMachine") (cls := "java/lang/IllegalStateException") (text := "no program to be run") (ik := 41) (is := 86) (ic := 45) hown k_299 k_14 (by decide) x_tChannelMachine_45 (by decide +kernel) rfl hts hU.1 hZ.1 hAN hS (by rw [hml]; exact hl.1) d_CM_give_11 d_CM_give_14 d_CM_give_15 d_CM_give_17 d_CM_give_20 htb (Nat.le_of_ble_eq_true rfl) (Nat.le_of_ble_eq_true rfl) (by show 0 + 1 ≤ (2000 * (K + 1) + 14 - cq + (400 * (K + 1) + 12 - cs)) / 5 + 8; omega) (by show 0 + 6 ≤ 4 * (2000 * (K + 1) + 14 - cq + (400 * (K + 1) + 12 - cs)) + 110; omega) hlocks (fun t h1 h2 h3 h4 => ⟨rfl, fun k q hk => (hP k q hk).kept (h3 q.1 (hP k q hk).lt), h4⟩) hS.2.2 (Nat.le_refl _) (Nat.le_refl _)
theorem x_tK_117 : x_okT ((x_ownK prog_32_method_4_code 13 "ChannelMachine" 117 "java/util/NoSuchElementException" "java/lang/RuntimeException" ["java/lang/Exception"]).filter vx_no) = true := by decide +kernel
set_option maxHeartbeats 4000000 in
set_option maxRecDepth 100000 in
theorem c_C_take (l : Launch) (hst : l.stackTraces = false) (dC : Nat → ClassId) (dI : Nat → Nat → Nat) (ar : Nat → ClassId) (N0 : Nat) (z : Nat → Nat) (ad : Nat → Nat) (I : Nat → Int32) (T : Int64) (A : Nat → Nat → Int32) (O : Nat → Option Nat) (pl : va_W) (G : Nat → Nat) (C Gs : Nat → List Nat) (qn sn cq cs : Nat) (K ln : Nat) (sz w0 : Nat) (hmi : y_MI z ar G C Gs I O (y_L pl) (qn, sn, cq, cs)) (hK5 : K ≤ 511) (hci : y_CR I (qn, sn, cq, cs) K ln) : vx_Met l ({ cls := "ChannelMachine", name := "take", desc := "()I" } : Jvm.MethodName) ((Jvm.Cond.code ({ cls := "ChannelMachine", name := "take", desc := "()I" } : Jvm.MethodName) prog_1_method_7_code (1 : Nat) (Option.some Jvm.ClassFile.FieldType.int)) :: x_T) ({ frames := 9, cells := (2000 * (K + 1) + 14 - cq + (400 * (K + 1) + 12 - cs)) / 5 + 8, slots := 4 * (2000 * (K + 1) + 14 - cq + (400 * (K + 1) + 12 - cs)) + 110, locals := 234 }) (y_Pc (dC, dI) ar N0 z (y_W ad ar I T A O pl) sz w0 [.ref (ad 0)]) (va_Qi (fun (r : Int32) (u : (Nat → Int32) × Int64 × (Nat → Nat → Int32) × (Nat → Option Nat) × va_W × (Nat × Nat × Nat × Nat)) => y_CO z ar u.1 u.2.2.2.1 (y_L u.2.2.2.2.1) u.2.2.2.2.2 (K + 1) ln) (fun u t => va_P (dC, dI) y_cl (y_W ad ar u.1 u.2.1 u.2.2.1 u.2.2.2.1 u.2.2.2.2.1) t.heap ∧ va_D (va_A (y_W ad ar I T A O pl) sz) (y_W ad ar u.1 u.2.1 u.2.2.1 u.2.2.2.1 u.2.2.2.2.1) ∧ y_aE 110 35 (cq + cs) sz w0 (u.2.2.2.2.2.2.2.1 + u.2.2.2.2.2.2.2.2) t.heap) (va_A (y_W ad ar I T A O pl) sz)) (vx_X (fun (u : (Nat → Int32) × Int64 × (Nat → Nat → Int32) × (Nat → Option Nat) × va_W × (Nat × Nat × Nat × Nat)) => y_CO z ar u.1 u.2.2.2.1 (y_L u.2.2.2.2.1) u.2.2.2.2.2 (K + 1) ln) (fun E u t => va_P (dC, dI) y_cl (y_W ad ar u.1 u.2.1 u.2.2.1 u.2.2.2.1 u.2.2.2.2.1) t.heap ∧ va_D (va_A (y_W ad ar I T A O pl) sz) (y_W ad ar u.1 u.2.1 u.2.2.1 u.2.2.2.1 u.2.2.2.2.1) ∧ (E = "java/util/NoSuchElementException") ∧ y_aE 110 35 (cq + cs) sz w0 (u.2.2.2.2.2.2.2.1 + u.2.2.2.2.2.2.2.2) t.heap) (va_A (y_W ad ar I T A O pl) sz)) ((2000 * (K + 1) + 14 - cq + (400 * (K + 1) + 12 - cs)) / 5 + 8) (4 * (2000 * (K + 1) + 14 - cq + (400 * (K + 1) + 12 - cs)) + 110) (va_A (y_W ad ar I T A O pl) sz) := by
  refine vx_ofW (cc := prog_1_method_7_code) (maxL := 1) (ret := (some .int)) (by decide) rfl ?_
  intro p e s m args below meth c s₁ B hml htb hv
  obtain ⟨rfl, hsz, hN0, hP, hU, hZ, hD0, hw0⟩ := hv
  have hK := hU.2.1
  have hx := B.exec
  have hb := B.bytes
  have hr := B.returns
  have hts : ∀ w ∈ x_T, w.before ([.ref (ad 0)] : List Value).toArray s = true := fun w h => atoms_spec (ws := (Jvm.Cond.code ({ cls := "ChannelMachine", name := "take", desc := "()I" } : Jvm.MethodName) prog_1_method_7_code (1 : Nat) (Option.some Jvm.ClassFile.FieldType.int)) :: x_T) B.pre w (List.mem_cons_of_mem _ h)
  have hown : s.vm.findClass "ChannelMachine" = some m.cls := findClass_of_methodNamed B.named
  have hlocks := B.notSynchronized
  subst hsz
  subst hw0
  have hD := hD0.self (sz := s.heap.size)
  have hAN := x_AN hD0 hN0
  generalize hAe : va_A (y_W ad ar I T A O pl) s.heap.size = Bq at hD hAN ⊢
  have hA : ∀ q : Nat, s.heap.size ≤ q → Bq q := fun q h => by rw [← hAe]; exact Or.inr h
  have hS : va_S Bq s.heap s.heap [] := va_S.rf
  have hl := lv_entry ([.ref (ad 0)]) (n := 1) (Nat.le_of_ble_eq_true rfl)
  rw [lg_entry_eq]
  generalize (lg_sl ([.ref (ad 0)]) ++ List.replicate (1 - (lg_sl ([.ref (ad 0)])).length) Slot.unset).toArray = ls at hl ⊢
  have hl : lv_has ls 1 [(0, .ref (ad 0))] := hl
  have hbn := hci.2.2.2
  dsimp only at hbn
  have hle := y_LS.le hmi.2.1.2
  have hle2 := y_LS.le hmi.2.2.1.2
  have hcap := hmi.2.2.2.2.1
  dsimp only at hle hle2 hcap
  have hgg := y_gg qn cq
  refine lv_aload_n hx hb d_CM_take_0 rfl (lv_at hl 0 rfl) ?_
  refine k_g (C := "ChannelMachine") (F := F_CM) (N := 3) hx hb hts i_CM hown hK hP 0 1 (by decide) (by decide) rfl (by decide) (d := (0, 4)) rfl (hts _ k_195) (fun _ h9 => h9) (v := .ref (ad 4)) rfl d_CM_take_1 ?_
  refine k_gN (C := "ChannelMachine$Machine") (F := F_Machine) (N := 11) hx hb hts i_Machine hown hK hP 4 3 (by decide) (by decide) rfl (by decide) (d := (0, 9)) rfl (hU.1.2.1 _ kn_157) (fun _ h9 => h9) (v := .ref (ad 9)) rfl d_CM_take_4 ?_
  refine k_gN (C := "ChannelMachine$Row") (F := F_Row) (N := 2) hx hb hts i_Row hown hK hP 9 1 (by decide) (by decide) rfl (by decide) (d := (1, 11)) rfl (hU.1.2.1 _ kn_94) (fun _ h9 => h9) (v := .int (I 11)) rfl d_CM_take_7 ?_
  refine lv_if_ne (tgt := 23) hx hb d_CM_take_10 (by decide) (fun c1 => ?_) (fun c1 => ?_)
  · refine lv_aload_n hx hb d_CM_take_23 rfl (lv_at hl 0 rfl) ?_
    refine k_g (C := "ChannelMachine") (F := F_CM) (N := 3) hx hb hts i_CM hown hK hP 0 1 (by decide) (by decide) rfl (by decide) (d := (0, 4)) rfl (hts _ k_195) (fun _ h9 => h9) (v := .ref (ad 4)) rfl d_CM_take_24 ?_
    have hgg2 := y_gg qn cq
    refine y_know (fun hya1 hya2 hya3 hya4 => ?_)
    have hFc := y_free hD hS hA
    refine va_calli (va_runV (As := []) (rest := []) ⟨hx, hb, hml, hown, hts⟩ (c_M_handOut l dC dI ar N0 z ad I T A O pl G C Gs qn sn cq cs s.heap.size (y_hs s.heap) hmi (by omega)) (cwV 0 hts (x_goodV k_934 k_935 k_936 k_3 k_937) rfl rfl rfl (by decide +kernel) ⟨Nat.le_of_ble_eq_true rfl, Nat.le_of_ble_eq_true rfl⟩) ⟨y_blind, va_recv hK hP (ci := 2) (q0 := 4) rfl (y_W_ob (by decide) (by decide)), fun U9 hU9 hW9 => y_pre hU9 hW9 hP hD hU hZ hS hAN hN0⟩ rfl rfl hl.1 rfl (lv_room (Nat.le_of_ble_eq_true rfl)) d_CM_take_27 ⟨(by show 0 + (y_gc qn cq) ≤ (2000 * (K + 1) + 14 - cq + (400 * (K + 1) + 12 - cs)) / 5 + 8; omega), (by show 0 + (y_gs qn cq) ≤ 4 * (2000 * (K + 1) + 14 - cq + (400 * (K + 1) + 12 - cs)) + 110; omega)⟩) hS (fun q _ h => hFc q h) hFc (fun r_3 u t H1 locs ht hvm hw hB hz1 hk1 hS => ?_)
    obtain ⟨I4, T4, A4, O4, pl4, q4, s4, cq4, cs4⟩ := u
    dsimp only at hw hB
    rw [ht] at hB
    obtain ⟨hP, hD1, hac4⟩ := hB
    have hD : va_D Bq (y_W ad ar I4 T4 A4 O4 pl4) := hD1.weaken (fun _ q _ h => hFc q.1 h)
    generalize H1 = H at hP hS hac4 ⊢
    have hae4 := hac4
    try unfold y_ac at hae4
    try dsimp only at hae4
    obtain ⟨hmi, hbd4, fr4⟩ := hw
    unfold y_ac at hac4
    have hb4 := hbd4
    unfold y_bd at hb4
    dsimp only at hb4 hac4
    refine y_tight (k := (cq4 + cs4 - (cq + cs)) / 5) (n := 4 * (cq4 + cs4 - (cq + cs))) (by omega) (by omega) ?_
    have hfr9 : m_fr [10, 11, 12, 13, 14, 15] I I4 := (m_fr.rf.tr fr4 (by decide))
    have hcr9 : y_CR I4 (q4, s4, cq4, cs4) (K + 1) ln := hci.nx (hfr9 1 (by decide)) (hfr9 2 (by decide)) (hci.k7 (hfr9 7 (by decide)) (hfr9 9 (by decide))) ⟨by dsimp only; omega, by dsimp only; omega, by dsimp only; omega, by dsimp only; omega⟩
    have hco9 : y_CO z ar I4 O4 (y_L pl4) (q4, s4, cq4, cs4) (K + 1) ln := ⟨_, _, _, hmi, hcr9⟩
    refine vx_ret ?_
    refine y_know (fun hy91 hy92 hy93 hy94 => ?_)
    have hac9 : y_aE 110 35 (cq + cs) s.heap.size (y_hs s.heap) (cq4 + cs4) H := ⟨by omega, by omega⟩
    refine W.widen (k := (2000 * (K + 1) + 14 - cq + (400 * (K + 1) + 12 - cs)) / 5 + 8) (n := 4 * (2000 * (K + 1) + 14 - cq + (400 * (K + 1) + 12 - cs)) + 110) (by omega) (by omega) ?_
    exact W.iret (v := r_3) hx hb hr (fun t ht hW => ⟨⟨r_3, (I4, T4, A4, O4, pl4, (q4, s4, cq4, cs4)), rfl, hco9, (by dsimp only; rw [ht]; exact ⟨hP, hD, hac9⟩)⟩, hS.F ht⟩) hS.2.2 d_CM_take_30
  · have hfr9 : m_fr [10, 11, 12, 13, 14, 15] I I := m_fr.rf
    have hcr9 : y_CR I (qn, sn, cq, cs) (K + 1) ln := hci.nx (hfr9 1 (by decide)) (hfr9 2 (by decide)) (hci.k7 (hfr9 7 (by decide)) (hfr9 9 (by decide))) ⟨by dsimp only; omega, by dsimp only; omega, by dsimp only; omega, by dsimp only; omega⟩
    have hco9 : y_CO z ar I O (y_L pl) (qn, sn, cq, cs) (K + 1) ln := ⟨_, _, _, hmi, hcr9⟩
    refine y_know (fun hy91 hy92 hy93 hy94 => ?_)
    refine y_xW (XC' := fun E st t => E = "java/util/NoSuchElementException" ∧ va_P (dC, dI) y_cl (y_W ad ar I T A O pl) t.heap ∧ va_F Bq st t) (mc' := 0 + 1) (ms' := 0 + 6) (by omega) (by omega) (fun E t hx9 hz9 hk9 => ?_) ?_
    · obtain ⟨rfl, hx1, hx2⟩ := hx9
      have hac9 : y_aE 110 35 (cq + cs) s.heap.size (y_hs s.heap) (cq + cs) t.heap := ⟨by omega, by omega⟩
      exact ⟨(I, T, A, O, pl, (qn, sn, cq, cs)), hco9, ⟨hx1, hD, rfl, hac9⟩, hx2⟩
    exact x_throwK (A := Bq) hx hb hst (own := "ChannelMachine") (cls := "java/util/NoSuchElementException") (text := "the box is empty") (up := "java/lang/RuntimeException") (names := ["java/lang/Exception"]) (ik := 113) (is := 115) (ic := 117) (kk := 13) (bt := prog_32_method_4_code) hown k_918 k_28 (by decide) x_tK_117 (by decide +kernel) rfl rfl (by decide +kernel) (by decide +kernel) (by decide +kernel) (by decide +kernel) (by decide +kernel) hts hU.1 hZ.1 hAN hS (by rw [hml]; exact hl.1) d_CM_take_13 d_CM_take_16 d_CM_take_17 d_CM_take_19 d_CM_take_22 htb (Nat.le_of_ble_eq_true rfl) (Nat.le_of_ble_eq_true rfl) (by show 0 + 1 ≤ (2000 * (K + 1) + 14 - cq + (400 * (K + 1) + 12 - cs)) / 5 + 8; omega) (by show 0 + 6 ≤ 4 * (2000 * (K + 1) + 14 - cq + (400 * (K + 1) + 12 - cs)) + 110; omega) hlocks (fun t h1 h2 h3 h4 => ⟨rfl, fun k q hk => (hP k q hk).kept (h3 q.1 (hP k q hk).lt), h4⟩) hS.2.2 (Nat.le_refl _) (Nat.le_refl _)
set_option maxHeartbeats 4000000 in
set_option maxRecDepth 100000 in
theorem c_C_run (l : Launch) (hst : l.stackTraces = false) (dC : Nat → ClassId) (dI : Nat → Nat → Nat) (ar : Nat → ClassId) (N0 : Nat) (z : Nat → Nat) (ad : Nat → Nat) (I : Nat → Int32) (T : Int64) (A : Nat → Nat → Int32) (O : Nat → Option Nat) (pl : va_W) (G : Nat → Nat) (C Gs : Nat → List Nat) (qn sn cq cs : Nat) (K ln : Nat) (vv : Int32) (sz w0 : Nat) (hmi : y_MI z ar G C Gs I O (y_L pl) (qn, sn, cq, cs)) (hK5 : K ≤ 511) (hci : y_CR I (qn, sn, cq, cs) K ln) : vx_Met l ({ cls := "ChannelMachine", name := "run", desc := "(I)I" } : Jvm.MethodName) ((Jvm.Cond.code ({ cls := "ChannelMachine", name := "run", desc := "(I)I" } : Jvm.MethodName) prog_1_method_5_code (2 : Nat) (Option.some Jvm.ClassFile.FieldType.int)) :: x_T) ({ frames := 13, cells := (2000 * (K + 1) + 14 - cq + (400 * (K + 1) + 12 - cs)) / 5 + 8, slots := 4 * (2000 * (K + 1) + 14 - cq + (400 * (K + 1) + 12 - cs)) + 110, locals := 324 }) (y_Pc (dC, dI) ar N0 z (y_W ad ar I T A O pl) sz w0 [.ref (ad 0), .int vv]) (va_Qi (fun (r : Int32) (u : (Nat → Int32) × Int64 × (Nat → Nat → Int32) × (Nat → Option Nat) × va_W × (Nat × Nat × Nat × Nat)) => y_CO z ar u.1 u.2.2.2.1 (y_L u.2.2.2.2.1) u.2.2.2.2.2 (K + 1) ln) (fun u t => va_P (dC, dI) y_cl (y_W ad ar u.1 u.2.1 u.2.2.1 u.2.2.2.1 u.2.2.2.2.1) t.heap ∧ va_D (va_A (y_W ad ar I T A O pl) sz) (y_W ad ar u.1 u.2.1 u.2.2.1 u.2.2.2.1 u.2.2.2.2.1) ∧ y_aE 110 35 (cq + cs) sz w0 (u.2.2.2.2.2.2.2.1 + u.2.2.2.2.2.2.2.2) t.heap) (va_A (y_W ad ar I T A O pl) sz)) (vx_X (fun (u : (Nat → Int32) × Int64 × (Nat → Nat → Int32) × (Nat → Option Nat) × va_W × (Nat × Nat × Nat × Nat)) => y_CO z ar u.1 u.2.2.2.1 (y_L u.2.2.2.2.1) u.2.2.2.2.2 (K + 1) ln) (fun E u t => va_P (dC, dI) y_cl (y_W ad ar u.1 u.2.1 u.2.2.1 u.2.2.2.1 u.2.2.2.2.1) t.heap ∧ va_D (va_A (y_W ad ar I T A O pl) sz) (y_W ad ar u.1 u.2.1 u.2.2.1 u.2.2.2.1 u.2.2.2.2.1) ∧ (E = "java/lang/IllegalArgumentException" ∨ E = "java/lang/IllegalStateException" ∨ E = "java/lang/ArithmeticException") ∧ y_aE 110 35 (cq + cs) sz w0 (u.2.2.2.2.2.2.2.1 + u.2.2.2.2.2.2.2.2) t.heap) (va_A (y_W ad ar I T A O pl) sz)) ((2000 * (K + 1) + 14 - cq + (400 * (K + 1) + 12 - cs)) / 5 + 8) (4 * (2000 * (K + 1) + 14 - cq + (400 * (K + 1) + 12 - cs)) + 110) (va_A (y_W ad ar I T A O pl) sz) := by
  refine vx_ofW (cc := prog_1_method_5_code) (maxL := 2) (ret := (some .int)) (by decide) rfl ?_
  intro p e s m args below meth c s₁ B hml htb hv
  obtain ⟨rfl, hsz, hN0, hP, hU, hZ, hD0, hw0⟩ := hv
  have hK := hU.2.1
  have hx := B.exec
  have hb := B.bytes
  have hr := B.returns
  have hts : ∀ w ∈ x_T, w.before ([.ref (ad 0), .int vv] : List Value).toArray s = true := fun w h => atoms_spec (ws := (Jvm.Cond.code ({ cls := "ChannelMachine", name := "run", desc := "(I)I" } : Jvm.MethodName) prog_1_method_5_code (2 : Nat) (Option.some Jvm.ClassFile.FieldType.int)) :: x_T) B.pre w (List.mem_cons_of_mem _ h)
  have hown : s.vm.findClass "ChannelMachine" = some m.cls := findClass_of_methodNamed B.named
  have hlocks := B.notSynchronized
  subst hsz
  subst hw0
  have hD := hD0.self (sz := s.heap.size)
  have hAN := x_AN hD0 hN0
  generalize hAe : va_A (y_W ad ar I T A O pl) s.heap.size = Bq at hD hAN ⊢
  have hA : ∀ q : Nat, s.heap.size ≤ q → Bq q := fun q h => by rw [← hAe]; exact Or.inr h
  have hS : va_S Bq s.heap s.heap [] := va_S.rf
  have hl := lv_entry ([.ref (ad 0), .int vv]) (n := 2) (Nat.le_of_ble_eq_true rfl)
  rw [lg_entry_eq]
  generalize (lg_sl ([.ref (ad 0), .int vv]) ++ List.replicate (2 - (lg_sl ([.ref (ad 0), .int vv])).length) Slot.unset).toArray = ls at hl ⊢
  have hl : lv_has ls 2 [(0, .ref (ad 0)), (1, .int vv)] := hl
  have hbn := hci.2.2.2
  dsimp only at hbn
  have hle := y_LS.le hmi.2.1.2
  have hle2 := y_LS.le hmi.2.2.1.2
  have hcap := hmi.2.2.2.2.1
  dsimp only at hle hle2 hcap
  refine lv_iload_n hx hb d_CM_run_0 rfl (lv_at hl 1 rfl) ?_
  refine lv_iconst (v := 1) hx hb d_CM_run_1 (by decide) ?_
  refine lv_icmp_lt (tgt := 12) hx hb d_CM_run_2 (by decide) (fun c1 => ?_) (fun c1 => ?_)
  · have hfr9 : m_fr [] I I := m_fr.rf
    have hcr9 : y_CR I (qn, sn, cq, cs) (K + 1) ln := hci.nx (hfr9 1 (by decide)) (hfr9 2 (by decide)) (hci.k7 (hfr9 7 (by decide)) (hfr9 9 (by decide))) ⟨by dsimp only; omega, by dsimp only; omega, by dsimp only; omega, by dsimp only; omega⟩
    have hco9 : y_CO z ar I O (y_L pl) (qn, sn, cq, cs) (K + 1) ln := ⟨_, _, _, hmi, hcr9⟩
    refine y_know (fun hy91 hy92 hy93 hy94 => ?_)
    refine y_xW (XC' := fun E st t => E = "java/lang/IllegalArgumentException" ∧ va_P (dC, dI) y_cl (y_W ad ar I T A O pl) t.heap ∧ va_F Bq st t) (mc' := 0 + 1) (ms' := 0 + 6) (by omega) (by omega) (fun E t hx9 hz9 hk9 => ?_) ?_
    · obtain ⟨rfl, hx1, hx2⟩ := hx9
      have hac9 : y_aE 110 35 (cq + cs) s.heap.size (y_hs s.heap) (cq + cs) t.heap := ⟨by omega, by omega⟩
      exact ⟨(I, T, A, O, pl, (qn, sn, cq, cs)), hco9, ⟨hx1, hD, (Or.inl rfl), hac9⟩, hx2⟩
    exact x_throw (A := Bq) hx hb hst (own := "ChannelMachine") (cls := "java/lang/IllegalArgumentException") (text := "not a number of acts") (ik := 31) (is := 81) (ic := 35) hown k_230 k_13 (by decide) x_tChannelMachine_35 (by decide +kernel) rfl hts hU.1 hZ.1 hAN hS (by rw [hml]; exact hl.1) d_CM_run_12 d_CM_run_15 d_CM_run_16 d_CM_run_18 d_CM_run_21 htb (Nat.le_of_ble_eq_true rfl) (Nat.le_of_ble_eq_true rfl) (by show 0 + 1 ≤ (2000 * (K + 1) + 14 - cq + (400 * (K + 1) + 12 - cs)) / 5 + 8; omega) (by show 0 + 6 ≤ 4 * (2000 * (K + 1) + 14 - cq + (400 * (K + 1) + 12 - cs)) + 110; omega) hlocks (fun t h1 h2 h3 h4 => ⟨rfl, fun k q hk => (hP k q hk).kept (h3 q.1 (hP k q hk).lt), h4⟩) hS.2.2 (Nat.le_refl _) (Nat.le_refl _)
  · refine lv_iload_n hx hb d_CM_run_5 rfl (lv_at hl 1 rfl) ?_
    refine lv_sipush (v := 200) hx hb d_CM_run_6 (by decide) ?_
    refine lv_icmp_le (tgt := 22) hx hb d_CM_run_9 (by decide) (fun c2 => ?_) (fun c2 => ?_)
    · obtain ⟨mo, hmo1, hmo2, rfl⟩ := y_rg2 (lo := 1) (hi := 200) c1 c2 (by decide) (by decide)
      refine lv_aload_n hx hb d_CM_run_22 rfl (lv_at hl 0 rfl) ?_
      refine k_g (C := "ChannelMachine") (F := F_CM) (N := 3) hx hb hts i_CM hown hK hP 0 1 (by decide) (by decide) rfl (by decide) (d := (0, 4)) rfl (hts _ k_195) (fun _ h9 => h9) (v := .ref (ad 4)) rfl d_CM_run_23 ?_
      refine k_gN (C := "ChannelMachine$Machine") (F := F_Machine) (N := 11) hx hb hts i_Machine hown hK hP 4 7 (by decide) (by decide) rfl (by decide) (d := (1, 7)) rfl (hU.1.2.1 _ kn_164) (fun _ h9 => h9) (v := .int (I 7)) rfl d_CM_run_26 ?_
      refine lv_iconst (v := 1) hx hb d_CM_run_29 (by decide) ?_
      refine lv_icmp_eq (tgt := 43) hx hb d_CM_run_30 (by decide) (fun c3 => ?_) (fun c3 => ?_)
      · obtain ⟨a0, ha01, ha0⟩ := hci.2.2.1 c3
        have hx1 : y_mx cq (2 * (qn + (sn + mo - qn + 4 * mo)) + 12) ≤ 2000 * (K + 1) + 14 := y_mx.le (by omega) (by omega)
        have hx2 : y_mx cs (2 * (sn + mo) + 12) ≤ 400 * (K + 1) + 12 := y_mx.le (by omega) (by omega)
        have hx3 := @y_mx.l cq (2 * (qn + (sn + mo - qn + 4 * mo)) + 12)
        have hx4 := @y_mx.l cs (2 * (sn + mo) + 12)
        refine lv_aload_n hx hb d_CM_run_43 rfl (lv_at hl 0 rfl) ?_
        refine k_g (C := "ChannelMachine") (F := F_CM) (N := 3) hx hb hts i_CM hown hK hP 0 1 (by decide) (by decide) rfl (by decide) (d := (0, 4)) rfl (hts _ k_195) (fun _ h9 => h9) (v := .ref (ad 4)) rfl d_CM_run_44 ?_
        refine lv_iload_n hx hb d_CM_run_47 rfl (lv_at hl 1 rfl) ?_
        refine y_know (fun hya1 hya2 hya3 hya4 => ?_)
        have hFc := y_free hD hS hA
        refine vx_calli (vx_runV (As := [.int (Int32.ofNat mo)]) (rest := []) ⟨hx, hb, hml, hown, hts⟩ (c_M_perform l hst dC dI ar N0 z ad I T A O pl G C Gs qn sn cq cs mo a0 s.heap.size (y_hs s.heap) hmi ha0 (by omega) (by omega) (by omega) (by omega)) (cwV 1 hts (x_goodV k_717 k_718 k_719 k_3 k_720) rfl rfl rfl (by decide +kernel) ⟨Nat.le_of_ble_eq_true rfl, Nat.le_of_ble_eq_true rfl⟩) ⟨y_blind, va_recv hK hP (ci := 2) (q0 := 4) rfl (y_W_ob (by decide) (by decide)), fun U9 hU9 hW9 => y_pre hU9 hW9 hP hD hU hZ hS hAN hN0⟩ rfl rfl hl.1 rfl (lv_room (Nat.le_of_ble_eq_true rfl)) d_CM_run_48 ⟨(by show 0 + ((y_mx cq (2 * (qn + (sn + mo - qn + 4 * mo)) + 12) - cq + (y_mx cs (2 * (sn + mo) + 12) - cs)) / 5 + 6) ≤ (2000 * (K + 1) + 14 - cq + (400 * (K + 1) + 12 - cs)) / 5 + 8; omega), (by show 0 + (4 * (y_mx cq (2 * (qn + (sn + mo - qn + 4 * mo)) + 12) - cq + (y_mx cs (2 * (sn + mo) + 12) - cs)) + 106) ≤ 4 * (2000 * (K + 1) + 14 - cq + (400 * (K + 1) + 12 - cs)) + 110; omega)⟩) hS (fun q _ h => hFc q h) hFc (fun q h1 h2 => hFc q h2) (fun E ce q9 u t H1 locs ht hvm hpx hbx hz1 hk1 hS hce hcv hcl => ?_) (fun r_4 u t H1 locs ht hvm hw hB hz1 hk1 hS => ?_)
        · obtain ⟨I5, T5, A5, O5, pl5, q5, s5, cq5, cs5⟩ := u
          dsimp only at hpx hbx
          rw [ht] at hbx
          obtain ⟨hP, hD1, hac5⟩ := hbx
          have hD : va_D Bq (y_W ad ar I5 T5 A5 O5 pl5) := hD1.weaken (fun _ q _ h => hFc q.1 h)
          generalize H1 = H at hP hS hac5 hce ⊢
          obtain ⟨hE, hac5⟩ := hac5
          obtain ⟨hmi, hbd5, fr5, h73⟩ := hpx
          unfold y_ac at hac5
          have hb5 := hbd5
          unfold y_bd at hb5
          dsimp only at hb5
          try dsimp only at hac5
          have hfr9 : m_fr [7, 8, 9, 10, 11, 12, 13, 14, 15, 16, 17, 18, 19, 20, 21] I I5 := (m_fr.rf.tr fr5 (by decide))
          have hcr9 : y_CR I5 (q5, s5, cq5, cs5) (K + 1) ln := hci.nx (hfr9 1 (by decide)) (hfr9 2 (by decide)) (fun h9 => by rw [h73] at h9; exact absurd h9 (by decide)) ⟨by dsimp only; omega, by dsimp only; omega, by dsimp only; omega, by dsimp only; omega⟩
          have hco9 : y_CO z ar I5 O5 (y_L pl5) (q5, s5, cq5, cs5) (K + 1) ln := ⟨_, _, _, hmi, hcr9⟩
          refine y_knowx (fun hy91 hy92 hy93 hy94 => ?_)
          have hac9 : y_aE 110 35 (cq + cs) s.heap.size (y_hs s.heap) (cq5 + cs5) H := ⟨by omega, by omega⟩
          exact vx_out (fun x hx9 => (htb x hx9).elim) hlocks hce hcv hcl (fun t ht hvm => ⟨(I5, T5, A5, O5, pl5, (q5, s5, cq5, cs5)), hco9, (by dsimp only; rw [ht]; exact ⟨hP, hD, Or.inr hE, hac9⟩), hS.F ht⟩) hS.2.2 (by show 0 + ((y_mx cq (2 * (qn + (sn + mo - qn + 4 * mo)) + 12) - cq + (y_mx cs (2 * (sn + mo) + 12) - cs)) / 5 + 6) ≤ (2000 * (K + 1) + 14 - cq + (400 * (K + 1) + 12 - cs)) / 5 + 8; omega) (by show 0 + (4 * (y_mx cq (2 * (qn + (sn + mo - qn + 4 * mo)) + 12) - cq + (y_mx cs (2 * (sn + mo) + 12) - cs)) + 106) ≤ 4 * (2000 * (K + 1) + 14 - cq + (400 * (K + 1) + 12 - cs)) + 110; omega)
        · obtain ⟨I6, T6, A6, O6, pl6, q6, s6, cq6, cs6⟩ := u
          dsimp only at hw hB
          rw [ht] at hB
          obtain ⟨hP, hD1, hac6⟩ := hB
          have hD : va_D Bq (y_W ad ar I6 T6 A6 O6 pl6) := hD1.weaken (fun _ q _ h => hFc q.1 h)
          generalize H1 = H at hP hS hac6 ⊢
          have hae6 := hac6
          try unfold y_ac at hae6
          try dsimp only at hae6
          obtain ⟨hmi, hbd6, fr6, ⟨a1, ha1, h91⟩, hr9⟩ := hw
          unfold y_ac at hac6
          have hb6 := hbd6
          unfold y_bd at hb6
          dsimp only at hb6 hac6
          refine y_tight (k := (cq6 + cs6 - (cq + cs)) / 5) (n := 4 * (cq6 + cs6 - (cq + cs))) (by omega) (by omega) ?_
          have hfr9 : m_fr [7, 8, 9, 10, 11, 12, 13, 14, 15, 16, 17, 18, 19, 20, 21] I I6 := (m_fr.rf.tr fr6 (by decide))
          have hcr9 : y_CR I6 (q6, s6, cq6, cs6) (K + 1) ln := hci.nx (hfr9 1 (by decide)) (hfr9 2 (by decide)) (fun _ => ⟨a0 + a1, by omega, h91⟩) ⟨by dsimp only; omega, by dsimp only; omega, by dsimp only; omega, by dsimp only; omega⟩
          have hco9 : y_CO z ar I6 O6 (y_L pl6) (q6, s6, cq6, cs6) (K + 1) ln := ⟨_, _, _, hmi, hcr9⟩
          refine vx_ret ?_
          refine y_know (fun hy91 hy92 hy93 hy94 => ?_)
          have hac9 : y_aE 110 35 (cq + cs) s.heap.size (y_hs s.heap) (cq6 + cs6) H := ⟨by omega, by omega⟩
          refine W.widen (k := (2000 * (K + 1) + 14 - cq + (400 * (K + 1) + 12 - cs)) / 5 + 8) (n := 4 * (2000 * (K + 1) + 14 - cq + (400 * (K + 1) + 12 - cs)) + 110) (by omega) (by omega) ?_
          exact W.iret (v := r_4) hx hb hr (fun t ht hW => ⟨⟨r_4, (I6, T6, A6, O6, pl6, (q6, s6, cq6, cs6)), rfl, hco9, (by dsimp only; rw [ht]; exact ⟨hP, hD, hac9⟩)⟩, hS.F ht⟩) hS.2.2 d_CM_run_51
      · have hfr9 : m_fr [] I I := m_fr.rf
        have hcr9 : y_CR I (qn, sn, cq, cs) (K + 1) ln := hci.nx (hfr9 1 (by decide)) (hfr9 2 (by decide)) (hci.k7 (hfr9 7 (by decide)) (hfr9 9 (by decide))) ⟨by dsimp only; omega, by dsimp only; omega, by dsimp only; omega, by dsimp only; omega⟩
        have hco9 : y_CO z ar I O (y_L pl) (qn, sn, cq, cs) (K + 1) ln := ⟨_, _, _, hmi, hcr9⟩
        refine y_know (fun hy91 hy92 hy93 hy94 => ?_)
        refine y_xW (XC' := fun E st t => E = "java/lang/IllegalStateException" ∧ va_P (dC, dI) y_cl (y_W ad ar I T A O pl) t.heap ∧ va_F Bq st t) (mc' := 0 + 1) (ms' := 0 + 6) (by omega) (by omega) (fun E t hx9 hz9 hk9 => ?_) ?_
        · obtain ⟨rfl, hx1, hx2⟩ := hx9
          have hac9 : y_aE 110 35 (cq + cs) s.heap.size (y_hs s.heap) (cq + cs) t.heap := ⟨by omega, by omega⟩
          exact ⟨(I, T, A, O, pl, (qn, sn, cq, cs)), hco9, ⟨hx1, hD, (Or.inr (Or.inl rfl)), hac9⟩, hx2⟩
        exact x_throw (A := Bq) hx hb hst (own := "ChannelMachine") (cls := "java/lang/IllegalStateException") (text := "no program to be run") (ik := 41) (is := 86) (ic := 45) hown k_299 k_14 (by decide) x_tChannelMachine_45 (by decide +kernel) rfl hts hU.1 hZ.1 hAN hS (by rw [hml]; exact hl.1) d_CM_run_33 d_CM_run_36 d_CM_run_37 d_CM_run_39 d_CM_run_42 htb (Nat.le_of_ble_eq_true rfl) (Nat.le_of_ble_eq_true rfl) (by show 0 + 1 ≤ (2000 * (K + 1) + 14 - cq + (400 * (K + 1) + 12 - cs)) / 5 + 8; omega) (by show 0 + 6 ≤ 4 * (2000 * (K + 1) + 14 - cq + (400 * (K + 1) + 12 - cs)) + 110; omega) hlocks (fun t h1 h2 h3 h4 => ⟨rfl, fun k q hk => (hP k q hk).kept (h3 q.1 (hP k q hk).lt), h4⟩) hS.2.2 (Nat.le_refl _) (Nat.le_refl _)
    · have hfr9 : m_fr [] I I := m_fr.rf
      have hcr9 : y_CR I (qn, sn, cq, cs) (K + 1) ln := hci.nx (hfr9 1 (by decide)) (hfr9 2 (by decide)) (hci.k7 (hfr9 7 (by decide)) (hfr9 9 (by decide))) ⟨by dsimp only; omega, by dsimp only; omega, by dsimp only; omega, by dsimp only; omega⟩
      have hco9 : y_CO z ar I O (y_L pl) (qn, sn, cq, cs) (K + 1) ln := ⟨_, _, _, hmi, hcr9⟩
      refine y_know (fun hy91 hy92 hy93 hy94 => ?_)
      refine y_xW (XC' := fun E st t => E = "java/lang/IllegalArgumentException" ∧ va_P (dC, dI) y_cl (y_W ad ar I T A O pl) t.heap ∧ va_F Bq st t) (mc' := 0 + 1) (ms' := 0 + 6) (by omega) (by omega) (fun E t hx9 hz9 hk9 => ?_) ?_
      · obtain ⟨rfl, hx1, hx2⟩ := hx9
        have hac9 : y_aE 110 35 (cq + cs) s.heap.size (y_hs s.heap) (cq + cs) t.heap := ⟨by omega, by omega⟩
        exact ⟨(I, T, A, O, pl, (qn, sn, cq, cs)), hco9, ⟨hx1, hD, (Or.inl rfl), hac9⟩, hx2⟩
      exact x_throw (A := Bq) hx hb hst (own := "ChannelMachine") (cls := "java/lang/IllegalArgumentException") (text := "not a number of acts") (ik := 31) (is := 81) (ic := 35) hown k_230 k_13 (by decide) x_tChannelMachine_35 (by decide +kernel) rfl hts hU.1 hZ.1 hAN hS (by rw [hml]; exact hl.1) d_CM_run_12 d_CM_run_15 d_CM_run_16 d_CM_run_18 d_CM_run_21 htb (Nat.le_of_ble_eq_true rfl) (Nat.le_of_ble_eq_true rfl) (by show 0 + 1 ≤ (2000 * (K + 1) + 14 - cq + (400 * (K + 1) + 12 - cs)) / 5 + 8; omega) (by show 0 + 6 ≤ 4 * (2000 * (K + 1) + 14 - cq + (400 * (K + 1) + 12 - cs)) + 110; omega) hlocks (fun t h1 h2 h3 h4 => ⟨rfl, fun k q hk => (hP k q hk).kept (h3 q.1 (hP k q hk).lt), h4⟩) hS.2.2 (Nat.le_refl _) (Nat.le_refl _)
