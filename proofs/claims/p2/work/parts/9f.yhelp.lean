-- ===== 9f.yhelp: the law's helpers, by program =====
theorem k_220 : (Jvm.Cond.codeWith ({ cls := "ChannelMachineLaw", name := "type", desc := "(LChannelMachine;J[J)I" } : Jvm.MethodName) method_3_code (5 : Nat) (Option.some Jvm.ClassFile.FieldType.int) [((0 : Nat), (9 : Nat), (12 : Nat), (13 : Nat)), ((0 : Nat), (9 : Nat), (16 : Nat), (15 : Nat))]) ∈ x_T := x_at 220 (by decide +kernel) (by decide +kernel)
theorem k_221 : (Jvm.Cond.classLink "ChannelMachineLaw" (13 : Nat) "java/lang/IllegalArgumentException") ∈ x_T := x_at 221 (by decide +kernel) (by decide +kernel)
theorem k_222 : (Jvm.Cond.classLink "ChannelMachineLaw" (15 : Nat) "java/lang/IllegalStateException") ∈ x_T := x_at 222 (by decide +kernel) (by decide +kernel)
theorem k_223 : (Jvm.Cond.methodLink "ChannelMachineLaw" (7 : Nat) ({ cls := "ChannelMachine", name := "type", desc := "(J)I" } : Jvm.MethodName)) ∈ x_T := x_at 223 (by decide +kernel) (by decide +kernel)
theorem k_224 : (Jvm.Cond.instanceMethod ({ cls := "ChannelMachine", name := "type", desc := "(J)I" } : Jvm.MethodName)) ∈ x_T := x_at 224 (by decide +kernel) (by decide +kernel)
theorem k_225 : (Jvm.Cond.selects "ChannelMachine" ({ cls := "ChannelMachine", name := "type", desc := "(J)I" } : Jvm.MethodName) ({ cls := "ChannelMachine", name := "type", desc := "(J)I" } : Jvm.MethodName)) ∈ x_T := x_at 225 (by decide +kernel) (by decide +kernel)
theorem k_226 : (Jvm.Cond.code ({ cls := "ChannelMachine", name := "type", desc := "(J)I" } : Jvm.MethodName) prog_1_method_2_code (6 : Nat) (Option.some Jvm.ClassFile.FieldType.int)) ∈ x_T := x_at 226 (by decide +kernel) (by decide +kernel)
theorem k_321 : (Jvm.Cond.codeWith ({ cls := "ChannelMachineLaw", name := "load", desc := "(LChannelMachine;[J)I" } : Jvm.MethodName) method_4_code (3 : Nat) (Option.some Jvm.ClassFile.FieldType.int) [((0 : Nat), (8 : Nat), (11 : Nat), (13 : Nat))]) ∈ x_T := x_at 321 (by decide +kernel) (by decide +kernel)
theorem k_322 : (Jvm.Cond.methodLink "ChannelMachineLaw" (17 : Nat) ({ cls := "ChannelMachine", name := "load", desc := "()I" } : Jvm.MethodName)) ∈ x_T := x_at 322 (by decide +kernel) (by decide +kernel)
theorem k_323 : (Jvm.Cond.instanceMethod ({ cls := "ChannelMachine", name := "load", desc := "()I" } : Jvm.MethodName)) ∈ x_T := x_at 323 (by decide +kernel) (by decide +kernel)
theorem k_324 : (Jvm.Cond.selects "ChannelMachine" ({ cls := "ChannelMachine", name := "load", desc := "()I" } : Jvm.MethodName) ({ cls := "ChannelMachine", name := "load", desc := "()I" } : Jvm.MethodName)) ∈ x_T := x_at 324 (by decide +kernel) (by decide +kernel)
theorem k_325 : (Jvm.Cond.code ({ cls := "ChannelMachine", name := "load", desc := "()I" } : Jvm.MethodName) prog_1_method_4_code (2 : Nat) (Option.some Jvm.ClassFile.FieldType.int)) ∈ x_T := x_at 325 (by decide +kernel) (by decide +kernel)
theorem k_709 : (Jvm.Cond.codeWith ({ cls := "ChannelMachineLaw", name := "run", desc := "(LChannelMachine;I[J)I" } : Jvm.MethodName) method_5_code (4 : Nat) (Option.some Jvm.ClassFile.FieldType.int) [((0 : Nat), (9 : Nat), (12 : Nat), (13 : Nat)), ((0 : Nat), (9 : Nat), (15 : Nat), (15 : Nat)), ((0 : Nat), (9 : Nat), (18 : Nat), (25 : Nat))]) ∈ x_T := x_at 709 (by decide +kernel) (by decide +kernel)
theorem k_710 : (Jvm.Cond.classLink "ChannelMachineLaw" (25 : Nat) "java/lang/ArithmeticException") ∈ x_T := x_at 710 (by decide +kernel) (by decide +kernel)
theorem k_711 : (Jvm.Cond.methodLink "ChannelMachineLaw" (21 : Nat) ({ cls := "ChannelMachine", name := "run", desc := "(I)I" } : Jvm.MethodName)) ∈ x_T := x_at 711 (by decide +kernel) (by decide +kernel)
theorem k_712 : (Jvm.Cond.instanceMethod ({ cls := "ChannelMachine", name := "run", desc := "(I)I" } : Jvm.MethodName)) ∈ x_T := x_at 712 (by decide +kernel) (by decide +kernel)
theorem k_713 : (Jvm.Cond.selects "ChannelMachine" ({ cls := "ChannelMachine", name := "run", desc := "(I)I" } : Jvm.MethodName) ({ cls := "ChannelMachine", name := "run", desc := "(I)I" } : Jvm.MethodName)) ∈ x_T := x_at 713 (by decide +kernel) (by decide +kernel)
theorem k_714 : (Jvm.Cond.code ({ cls := "ChannelMachine", name := "run", desc := "(I)I" } : Jvm.MethodName) prog_1_method_5_code (2 : Nat) (Option.some Jvm.ClassFile.FieldType.int)) ∈ x_T := x_at 714 (by decide +kernel) (by decide +kernel)
theorem k_899 : (Jvm.Cond.codeWith ({ cls := "ChannelMachineLaw", name := "give", desc := "(LChannelMachine;I[J)I" } : Jvm.MethodName) method_6_code (4 : Nat) (Option.some Jvm.ClassFile.FieldType.int) [((0 : Nat), (9 : Nat), (12 : Nat), (15 : Nat))]) ∈ x_T := x_at 899 (by decide +kernel) (by decide +kernel)
theorem k_900 : (Jvm.Cond.methodLink "ChannelMachineLaw" (27 : Nat) ({ cls := "ChannelMachine", name := "give", desc := "(I)I" } : Jvm.MethodName)) ∈ x_T := x_at 900 (by decide +kernel) (by decide +kernel)
theorem k_901 : (Jvm.Cond.instanceMethod ({ cls := "ChannelMachine", name := "give", desc := "(I)I" } : Jvm.MethodName)) ∈ x_T := x_at 901 (by decide +kernel) (by decide +kernel)
theorem k_902 : (Jvm.Cond.selects "ChannelMachine" ({ cls := "ChannelMachine", name := "give", desc := "(I)I" } : Jvm.MethodName) ({ cls := "ChannelMachine", name := "give", desc := "(I)I" } : Jvm.MethodName)) ∈ x_T := x_at 902 (by decide +kernel) (by decide +kernel)
theorem k_903 : (Jvm.Cond.code ({ cls := "ChannelMachine", name := "give", desc := "(I)I" } : Jvm.MethodName) prog_1_method_6_code (2 : Nat) (Option.some Jvm.ClassFile.FieldType.int)) ∈ x_T := x_at 903 (by decide +kernel) (by decide +kernel)
theorem k_912 : (Jvm.Cond.codeWith ({ cls := "ChannelMachineLaw", name := "take", desc := "(LChannelMachine;[J)I" } : Jvm.MethodName) method_7_code (3 : Nat) (Option.some Jvm.ClassFile.FieldType.int) [((0 : Nat), (8 : Nat), (11 : Nat), (33 : Nat))]) ∈ x_T := x_at 912 (by decide +kernel) (by decide +kernel)
theorem k_913 : (Jvm.Cond.classLink "ChannelMachineLaw" (33 : Nat) "java/util/NoSuchElementException") ∈ x_T := x_at 913 (by decide +kernel) (by decide +kernel)
theorem k_914 : (Jvm.Cond.methodLink "ChannelMachineLaw" (30 : Nat) ({ cls := "ChannelMachine", name := "take", desc := "()I" } : Jvm.MethodName)) ∈ x_T := x_at 914 (by decide +kernel) (by decide +kernel)
theorem k_915 : (Jvm.Cond.instanceMethod ({ cls := "ChannelMachine", name := "take", desc := "()I" } : Jvm.MethodName)) ∈ x_T := x_at 915 (by decide +kernel) (by decide +kernel)
theorem k_916 : (Jvm.Cond.selects "ChannelMachine" ({ cls := "ChannelMachine", name := "take", desc := "()I" } : Jvm.MethodName) ({ cls := "ChannelMachine", name := "take", desc := "()I" } : Jvm.MethodName)) ∈ x_T := x_at 916 (by decide +kernel) (by decide +kernel)
theorem k_917 : (Jvm.Cond.code ({ cls := "ChannelMachine", name := "take", desc := "()I" } : Jvm.MethodName) prog_1_method_7_code (1 : Nat) (Option.some Jvm.ClassFile.FieldType.int)) ∈ x_T := x_at 917 (by decide +kernel) (by decide +kernel)
theorem k_940 : (Jvm.Cond.codeWith ({ cls := "ChannelMachineLaw", name := "variable", desc := "(LChannelMachine;I[J)I" } : Jvm.MethodName) method_8_code (4 : Nat) (Option.some Jvm.ClassFile.FieldType.int) [((0 : Nat), (9 : Nat), (12 : Nat), (13 : Nat))]) ∈ x_T := x_at 940 (by decide +kernel) (by decide +kernel)
theorem k_941 : (Jvm.Cond.methodLink "ChannelMachineLaw" (35 : Nat) ({ cls := "ChannelMachine", name := "variable", desc := "(I)I" } : Jvm.MethodName)) ∈ x_T := x_at 941 (by decide +kernel) (by decide +kernel)
theorem k_942 : (Jvm.Cond.instanceMethod ({ cls := "ChannelMachine", name := "variable", desc := "(I)I" } : Jvm.MethodName)) ∈ x_T := x_at 942 (by decide +kernel) (by decide +kernel)
theorem k_943 : (Jvm.Cond.selects "ChannelMachine" ({ cls := "ChannelMachine", name := "variable", desc := "(I)I" } : Jvm.MethodName) ({ cls := "ChannelMachine", name := "variable", desc := "(I)I" } : Jvm.MethodName)) ∈ x_T := x_at 943 (by decide +kernel) (by decide +kernel)
theorem k_944 : (Jvm.Cond.code ({ cls := "ChannelMachine", name := "variable", desc := "(I)I" } : Jvm.MethodName) prog_1_method_8_code (2 : Nat) (Option.some Jvm.ClassFile.FieldType.int)) ∈ x_T := x_at 944 (by decide +kernel) (by decide +kernel)
theorem k_948 : (Jvm.Cond.codeWith ({ cls := "ChannelMachineLaw", name := "set", desc := "(LChannelMachine;II)I" } : Jvm.MethodName) method_9_code (4 : Nat) (Option.some Jvm.ClassFile.FieldType.int) [((0 : Nat), (6 : Nat), (9 : Nat), (13 : Nat))]) ∈ x_T := x_at 948 (by decide +kernel) (by decide +kernel)
theorem k_949 : (Jvm.Cond.methodLink "ChannelMachineLaw" (38 : Nat) ({ cls := "ChannelMachine", name := "set", desc := "(II)V" } : Jvm.MethodName)) ∈ x_T := x_at 949 (by decide +kernel) (by decide +kernel)
theorem k_950 : (Jvm.Cond.instanceMethod ({ cls := "ChannelMachine", name := "set", desc := "(II)V" } : Jvm.MethodName)) ∈ x_T := x_at 950 (by decide +kernel) (by decide +kernel)
theorem k_951 : (Jvm.Cond.selects "ChannelMachine" ({ cls := "ChannelMachine", name := "set", desc := "(II)V" } : Jvm.MethodName) ({ cls := "ChannelMachine", name := "set", desc := "(II)V" } : Jvm.MethodName)) ∈ x_T := x_at 951 (by decide +kernel) (by decide +kernel)
theorem k_952 : (Jvm.Cond.code ({ cls := "ChannelMachine", name := "set", desc := "(II)V" } : Jvm.MethodName) prog_1_method_9_code (3 : Nat) (Option.none : Option Jvm.ClassFile.FieldType)) ∈ x_T := x_at 952 (by decide +kernel) (by decide +kernel)
theorem k_955 : (Jvm.Cond.codeWith ({ cls := "ChannelMachineLaw", name := "channel", desc := "(LChannelMachine;I[J)I" } : Jvm.MethodName) method_10_code (4 : Nat) (Option.some Jvm.ClassFile.FieldType.int) [((0 : Nat), (9 : Nat), (12 : Nat), (13 : Nat))]) ∈ x_T := x_at 955 (by decide +kernel) (by decide +kernel)
theorem k_956 : (Jvm.Cond.methodLink "ChannelMachineLaw" (42 : Nat) ({ cls := "ChannelMachine", name := "channel", desc := "(I)I" } : Jvm.MethodName)) ∈ x_T := x_at 956 (by decide +kernel) (by decide +kernel)
theorem k_957 : (Jvm.Cond.instanceMethod ({ cls := "ChannelMachine", name := "channel", desc := "(I)I" } : Jvm.MethodName)) ∈ x_T := x_at 957 (by decide +kernel) (by decide +kernel)
theorem k_958 : (Jvm.Cond.selects "ChannelMachine" ({ cls := "ChannelMachine", name := "channel", desc := "(I)I" } : Jvm.MethodName) ({ cls := "ChannelMachine", name := "channel", desc := "(I)I" } : Jvm.MethodName)) ∈ x_T := x_at 958 (by decide +kernel) (by decide +kernel)
theorem k_959 : (Jvm.Cond.code ({ cls := "ChannelMachine", name := "channel", desc := "(I)I" } : Jvm.MethodName) prog_1_method_10_code (3 : Nat) (Option.some Jvm.ClassFile.FieldType.int)) ∈ x_T := x_at 959 (by decide +kernel) (by decide +kernel)
theorem kn_232 : (Jvm.Cond.castable "java/lang/IllegalArgumentException" "java/lang/IllegalArgumentException") ∈ x_nest := x_nest_at 232 (by decide +kernel) (by decide +kernel)
theorem kn_301 : (Jvm.Cond.castable "java/lang/IllegalStateException" "java/lang/IllegalStateException") ∈ x_nest := x_nest_at 301 (by decide +kernel) (by decide +kernel)
theorem kn_801 : (Jvm.Cond.castable "java/lang/ArithmeticException" "java/lang/ArithmeticException") ∈ x_nest := x_nest_at 801 (by decide +kernel) (by decide +kernel)
theorem kn_920 : (Jvm.Cond.castable "java/util/NoSuchElementException" "java/util/NoSuchElementException") ∈ x_nest := x_nest_at 920 (by decide +kernel) (by decide +kernel)
theorem d_La_set_0 : decode method_9_code 0 = .ok (.aload_n 0, 1) := by decide +kernel
theorem d_La_set_1 : decode method_9_code 1 = .ok (.iload_n 1, 1) := by decide +kernel
theorem d_La_set_2 : decode method_9_code 2 = .ok (.iload_n 2, 1) := by decide +kernel
theorem d_La_set_3 : decode method_9_code 3 = .ok (.invokevirtual 38, 3) := by decide +kernel
theorem d_La_set_6 : decode method_9_code 6 = .ok (.goto 6, 3) := by decide +kernel
theorem d_La_set_9 : decode method_9_code 9 = .ok (.astore_n 3, 1) := by decide +kernel
theorem d_La_set_10 : decode method_9_code 10 = .ok (.iconst 1, 1) := by decide +kernel
theorem d_La_set_11 : decode method_9_code 11 = .ok (.ireturn, 1) := by decide +kernel
theorem d_La_set_12 : decode method_9_code 12 = .ok (.iconst 0, 1) := by decide +kernel
theorem d_La_set_13 : decode method_9_code 13 = .ok (.ireturn, 1) := by decide +kernel
theorem d_La_variable_0 : decode method_8_code 0 = .ok (.aload_n 2, 1) := by decide +kernel
theorem d_La_variable_1 : decode method_8_code 1 = .ok (.iconst 0, 1) := by decide +kernel
theorem d_La_variable_2 : decode method_8_code 2 = .ok (.aload_n 0, 1) := by decide +kernel
theorem d_La_variable_3 : decode method_8_code 3 = .ok (.iload_n 1, 1) := by decide +kernel
theorem d_La_variable_4 : decode method_8_code 4 = .ok (.invokevirtual 35, 3) := by decide +kernel
theorem d_La_variable_7 : decode method_8_code 7 = .ok (.i2l, 1) := by decide +kernel
theorem d_La_variable_8 : decode method_8_code 8 = .ok (.lastore, 1) := by decide +kernel
theorem d_La_variable_9 : decode method_8_code 9 = .ok (.goto 6, 3) := by decide +kernel
theorem d_La_variable_12 : decode method_8_code 12 = .ok (.astore_n 3, 1) := by decide +kernel
theorem d_La_variable_13 : decode method_8_code 13 = .ok (.iconst 1, 1) := by decide +kernel
theorem d_La_variable_14 : decode method_8_code 14 = .ok (.ireturn, 1) := by decide +kernel
theorem d_La_variable_15 : decode method_8_code 15 = .ok (.iconst 0, 1) := by decide +kernel
theorem d_La_variable_16 : decode method_8_code 16 = .ok (.ireturn, 1) := by decide +kernel
theorem d_La_channel_0 : decode method_10_code 0 = .ok (.aload_n 2, 1) := by decide +kernel
theorem d_La_channel_1 : decode method_10_code 1 = .ok (.iconst 0, 1) := by decide +kernel
theorem d_La_channel_2 : decode method_10_code 2 = .ok (.aload_n 0, 1) := by decide +kernel
theorem d_La_channel_3 : decode method_10_code 3 = .ok (.iload_n 1, 1) := by decide +kernel
theorem d_La_channel_4 : decode method_10_code 4 = .ok (.invokevirtual 42, 3) := by decide +kernel
theorem d_La_channel_7 : decode method_10_code 7 = .ok (.i2l, 1) := by decide +kernel
theorem d_La_channel_8 : decode method_10_code 8 = .ok (.lastore, 1) := by decide +kernel
theorem d_La_channel_9 : decode method_10_code 9 = .ok (.goto 6, 3) := by decide +kernel
theorem d_La_channel_12 : decode method_10_code 12 = .ok (.astore_n 3, 1) := by decide +kernel
theorem d_La_channel_13 : decode method_10_code 13 = .ok (.iconst 1, 1) := by decide +kernel
theorem d_La_channel_14 : decode method_10_code 14 = .ok (.ireturn, 1) := by decide +kernel
theorem d_La_channel_15 : decode method_10_code 15 = .ok (.iconst 0, 1) := by decide +kernel
theorem d_La_channel_16 : decode method_10_code 16 = .ok (.ireturn, 1) := by decide +kernel
theorem d_La_give_0 : decode method_6_code 0 = .ok (.aload_n 2, 1) := by decide +kernel
theorem d_La_give_1 : decode method_6_code 1 = .ok (.iconst 0, 1) := by decide +kernel
theorem d_La_give_2 : decode method_6_code 2 = .ok (.aload_n 0, 1) := by decide +kernel
theorem d_La_give_3 : decode method_6_code 3 = .ok (.iload_n 1, 1) := by decide +kernel
theorem d_La_give_4 : decode method_6_code 4 = .ok (.invokevirtual 27, 3) := by decide +kernel
theorem d_La_give_7 : decode method_6_code 7 = .ok (.i2l, 1) := by decide +kernel
theorem d_La_give_8 : decode method_6_code 8 = .ok (.lastore, 1) := by decide +kernel
theorem d_La_give_9 : decode method_6_code 9 = .ok (.goto 6, 3) := by decide +kernel
theorem d_La_give_12 : decode method_6_code 12 = .ok (.astore_n 3, 1) := by decide +kernel
theorem d_La_give_13 : decode method_6_code 13 = .ok (.iconst 1, 1) := by decide +kernel
theorem d_La_give_14 : decode method_6_code 14 = .ok (.ireturn, 1) := by decide +kernel
theorem d_La_give_15 : decode method_6_code 15 = .ok (.iconst 0, 1) := by decide +kernel
theorem d_La_give_16 : decode method_6_code 16 = .ok (.ireturn, 1) := by decide +kernel
theorem d_La_take_0 : decode method_7_code 0 = .ok (.aload_n 1, 1) := by decide +kernel
theorem d_La_take_1 : decode method_7_code 1 = .ok (.iconst 0, 1) := by decide +kernel
theorem d_La_take_2 : decode method_7_code 2 = .ok (.aload_n 0, 1) := by decide +kernel
theorem d_La_take_3 : decode method_7_code 3 = .ok (.invokevirtual 30, 3) := by decide +kernel
theorem d_La_take_6 : decode method_7_code 6 = .ok (.i2l, 1) := by decide +kernel
theorem d_La_take_7 : decode method_7_code 7 = .ok (.lastore, 1) := by decide +kernel
theorem d_La_take_8 : decode method_7_code 8 = .ok (.goto 6, 3) := by decide +kernel
theorem d_La_take_11 : decode method_7_code 11 = .ok (.astore_n 2, 1) := by decide +kernel
theorem d_La_take_12 : decode method_7_code 12 = .ok (.iconst 1, 1) := by decide +kernel
theorem d_La_take_13 : decode method_7_code 13 = .ok (.ireturn, 1) := by decide +kernel
theorem d_La_take_14 : decode method_7_code 14 = .ok (.iconst 0, 1) := by decide +kernel
theorem d_La_take_15 : decode method_7_code 15 = .ok (.ireturn, 1) := by decide +kernel
theorem d_La_run_0 : decode method_5_code 0 = .ok (.aload_n 2, 1) := by decide +kernel
theorem d_La_run_1 : decode method_5_code 1 = .ok (.iconst 0, 1) := by decide +kernel
theorem d_La_run_2 : decode method_5_code 2 = .ok (.aload_n 0, 1) := by decide +kernel
theorem d_La_run_3 : decode method_5_code 3 = .ok (.iload_n 1, 1) := by decide +kernel
theorem d_La_run_4 : decode method_5_code 4 = .ok (.invokevirtual 21, 3) := by decide +kernel
theorem d_La_run_7 : decode method_5_code 7 = .ok (.i2l, 1) := by decide +kernel
theorem d_La_run_8 : decode method_5_code 8 = .ok (.lastore, 1) := by decide +kernel
theorem d_La_run_9 : decode method_5_code 9 = .ok (.goto 12, 3) := by decide +kernel
theorem d_La_run_12 : decode method_5_code 12 = .ok (.astore_n 3, 1) := by decide +kernel
theorem d_La_run_13 : decode method_5_code 13 = .ok (.iconst 1, 1) := by decide +kernel
theorem d_La_run_14 : decode method_5_code 14 = .ok (.ireturn, 1) := by decide +kernel
theorem d_La_run_15 : decode method_5_code 15 = .ok (.astore_n 3, 1) := by decide +kernel
theorem d_La_run_16 : decode method_5_code 16 = .ok (.iconst 2, 1) := by decide +kernel
theorem d_La_run_17 : decode method_5_code 17 = .ok (.ireturn, 1) := by decide +kernel
theorem d_La_run_18 : decode method_5_code 18 = .ok (.astore_n 3, 1) := by decide +kernel
theorem d_La_run_19 : decode method_5_code 19 = .ok (.iconst 3, 1) := by decide +kernel
theorem d_La_run_20 : decode method_5_code 20 = .ok (.ireturn, 1) := by decide +kernel
theorem d_La_run_21 : decode method_5_code 21 = .ok (.iconst 0, 1) := by decide +kernel
theorem d_La_run_22 : decode method_5_code 22 = .ok (.ireturn, 1) := by decide +kernel
theorem d_La_load_0 : decode method_4_code 0 = .ok (.aload_n 1, 1) := by decide +kernel
theorem d_La_load_1 : decode method_4_code 1 = .ok (.iconst 0, 1) := by decide +kernel
theorem d_La_load_2 : decode method_4_code 2 = .ok (.aload_n 0, 1) := by decide +kernel
theorem d_La_load_3 : decode method_4_code 3 = .ok (.invokevirtual 17, 3) := by decide +kernel
theorem d_La_load_6 : decode method_4_code 6 = .ok (.i2l, 1) := by decide +kernel
theorem d_La_load_7 : decode method_4_code 7 = .ok (.lastore, 1) := by decide +kernel
theorem d_La_load_8 : decode method_4_code 8 = .ok (.goto 6, 3) := by decide +kernel
theorem d_La_load_11 : decode method_4_code 11 = .ok (.astore_n 2, 1) := by decide +kernel
theorem d_La_load_12 : decode method_4_code 12 = .ok (.iconst 1, 1) := by decide +kernel
theorem d_La_load_13 : decode method_4_code 13 = .ok (.ireturn, 1) := by decide +kernel
theorem d_La_load_14 : decode method_4_code 14 = .ok (.iconst 0, 1) := by decide +kernel
theorem d_La_load_15 : decode method_4_code 15 = .ok (.ireturn, 1) := by decide +kernel
theorem d_La_type_0 : decode method_3_code 0 = .ok (.aload_n 3, 1) := by decide +kernel
theorem d_La_type_1 : decode method_3_code 1 = .ok (.iconst 0, 1) := by decide +kernel
theorem d_La_type_2 : decode method_3_code 2 = .ok (.aload_n 0, 1) := by decide +kernel
theorem d_La_type_3 : decode method_3_code 3 = .ok (.lload_n 1, 1) := by decide +kernel
theorem d_La_type_4 : decode method_3_code 4 = .ok (.invokevirtual 7, 3) := by decide +kernel
theorem d_La_type_7 : decode method_3_code 7 = .ok (.i2l, 1) := by decide +kernel
theorem d_La_type_8 : decode method_3_code 8 = .ok (.lastore, 1) := by decide +kernel
theorem d_La_type_9 : decode method_3_code 9 = .ok (.goto 11, 3) := by decide +kernel
theorem d_La_type_12 : decode method_3_code 12 = .ok (.astore 4, 2) := by decide +kernel
theorem d_La_type_14 : decode method_3_code 14 = .ok (.iconst 1, 1) := by decide +kernel
theorem d_La_type_15 : decode method_3_code 15 = .ok (.ireturn, 1) := by decide +kernel
theorem d_La_type_16 : decode method_3_code 16 = .ok (.astore 4, 2) := by decide +kernel
theorem d_La_type_18 : decode method_3_code 18 = .ok (.iconst 2, 1) := by decide +kernel
theorem d_La_type_19 : decode method_3_code 19 = .ok (.ireturn, 1) := by decide +kernel
theorem d_La_type_20 : decode method_3_code 20 = .ok (.iconst 0, 1) := by decide +kernel
theorem d_La_type_21 : decode method_3_code 21 = .ok (.ireturn, 1) := by decide +kernel
section YJN
variable {B : Nat → Prop} {D : va_G} {cl : List vw_C} {V W0 W1 U : va_W} {H H1 : Heap}
theorem y_D_iff {ws : va_W} : va_D B ws ↔ ((ws.map (·.1)).Nodup ∧ ∀ q ∈ ws, B q.1) := by
  constructor
  · rintro ⟨h1, h2⟩
    refine ⟨?_, fun q hq => ?_⟩
    · refine List.pairwise_iff_getElem.mpr (fun i j hi hj hij e => ?_)
      rw [List.length_map] at hi hj
      rw [List.getElem_map, List.getElem_map] at e
      have := h1 i j _ _ (List.getElem?_eq_getElem hi) (List.getElem?_eq_getElem hj) e
      omega
    · obtain ⟨k, hk⟩ := List.mem_iff_getElem?.mp hq
      exact h2 k q hk
  · rintro ⟨h1, h2⟩
    refine ⟨fun i j p q hi hj e => ?_, fun k q hk => h2 q (List.mem_of_getElem? hk)⟩
    have hp := List.pairwise_iff_getElem.mp h1
    obtain ⟨hl1, e1⟩ := List.getElem?_eq_some_iff.mp hi
    obtain ⟨hl2, e2⟩ := List.getElem?_eq_some_iff.mp hj
    have key : ∀ a b (ha : a < ws.length) (hb : b < ws.length), a < b → ws[a].1 ≠ ws[b].1 := fun a b ha hb hab => by
      have := hp a b (by rw [List.length_map]; exact ha) (by rw [List.length_map]; exact hb) hab
      rw [List.getElem_map, List.getElem_map] at this
      exact this
    rcases Nat.lt_trichotomy i j with h | h | h
    · exact absurd (by rw [e1, e2]; exact e) (key i j hl1 hl2 h)
    · exact h
    · exact absurd (by rw [e1, e2]; exact e.symm) (key j i hl2 hl1 h)
theorem y_P_iff {ws : va_W} : va_P D cl ws H ↔ ∀ q ∈ ws, va_at D cl q H := ⟨fun h q hq => by obtain ⟨k, hk⟩ := List.mem_iff_getElem?.mp hq; exact h k q hk, fun h k q hk => h q (List.mem_of_getElem? hk)⟩
theorem y_A_iff {ws : va_W} {sz a : Nat} : va_A ws sz a ↔ ((∃ q ∈ ws, q.1 = a) ∨ sz ≤ a) := by
  unfold va_A
  constructor
  · rintro (⟨k, e, h⟩ | h)
    · exact Or.inl ⟨(a, e), List.mem_of_getElem? h, rfl⟩
    · exact Or.inr h
  · rintro (⟨q, hq, rfl⟩ | h)
    · obtain ⟨k, hk⟩ := List.mem_iff_getElem?.mp hq
      exact Or.inl ⟨k, q.2, hk⟩
    · exact Or.inr h
theorem y_subP (h : va_P D cl (V ++ W0) H) : va_P D cl V H ∧ va_P D cl W0 H := by
  rw [y_P_iff] at h
  exact ⟨y_P_iff.mpr (fun q hq => h q (List.mem_append_left _ hq)), y_P_iff.mpr (fun q hq => h q (List.mem_append_right _ hq))⟩
theorem y_subD (h : va_D B (V ++ W0)) : va_D B V ∧ va_D B W0 := by
  rw [y_D_iff, List.map_append, List.nodup_append] at h
  exact ⟨y_D_iff.mpr ⟨h.1.1, fun q hq => h.2 q (List.mem_append_left _ hq)⟩, y_D_iff.mpr ⟨h.1.2.1, fun q hq => h.2 q (List.mem_append_right _ hq)⟩⟩
/-- what a call on W0 has left of V, which is apart from it -/
theorem y_jn (hP : va_P D cl V H) (hD : va_D B V) (hap : ∀ v ∈ V, ∀ w ∈ W0, v.1 ≠ w.1) (hk : ∀ q : Nat, q < H.size → ¬ va_A W0 H.size q → H1[q]? = H[q]?) (hF : ∀ q, va_A W0 H.size q → B q) (hP1 : va_P D cl W1 H1) (hD1 : va_D (va_A W0 H.size) W1) : va_P D cl V H1 ∧ (∀ v ∈ V, ∀ w ∈ W1, v.1 ≠ w.1) ∧ va_D B W1 := by
  rw [y_P_iff] at hP
  have hna : ∀ v ∈ V, ¬ va_A W0 H.size v.1 := fun v hv h => by
    rw [y_A_iff] at h
    rcases h with ⟨w, hw, e⟩ | h
    · exact hap v hv w hw e.symm
    · have := (hP v hv).lt; omega
  rw [y_D_iff] at hD1
  refine ⟨y_P_iff.mpr (fun v hv => (hP v hv).kept (hk v.1 (hP v hv).lt (hna v hv))), fun v hv w hw e => hna v hv (by rw [e]; exact hD1.2 w hw), y_D_iff.mpr ⟨hD1.1, fun q hq => hF _ (hD1.2 q hq)⟩⟩
theorem y_apart (h : va_D B (V ++ W0)) : ∀ v ∈ V, ∀ w ∈ W0, v.1 ≠ w.1 := by
  rw [y_D_iff, List.map_append, List.nodup_append] at h
  exact fun v hv w hw => h.1.2.2 v.1 (List.mem_map_of_mem hv) w.1 (List.mem_map_of_mem hw)
theorem y_appP (h : va_P D cl V H) (h' : va_P D cl W0 H) : va_P D cl (V ++ W0) H := y_P_iff.mpr (fun q hq => (List.mem_append.mp hq).elim (y_P_iff.mp h q) (y_P_iff.mp h' q))
theorem y_appD (h : va_D B V) (h' : va_D B W0) (hap : ∀ v ∈ V, ∀ w ∈ W0, v.1 ≠ w.1) : va_D B (V ++ W0) := by
  rw [y_D_iff] at *
  rw [List.map_append, List.nodup_append]
  refine ⟨⟨h.1, h'.1, fun a ha b hb e => ?_⟩, fun q hq => (List.mem_append.mp hq).elim (h.2 q) (h'.2 q)⟩
  obtain ⟨v, hv, rfl⟩ := List.mem_map.mp ha
  obtain ⟨w, hw, rfl⟩ := List.mem_map.mp hb
  exact hap v hv w hw e
theorem y_jnR (hP : va_P D cl (V ++ W0) H) (hD : va_D B (V ++ W0)) (hk : ∀ q : Nat, q < H.size → ¬ va_A W0 H.size q → H1[q]? = H[q]?) (hF : ∀ q, va_A W0 H.size q → B q) (hP1 : va_P D cl W1 H1) (hD1 : va_D (va_A W0 H.size) W1) : va_P D cl (V ++ W1) H1 ∧ va_D B (V ++ W1) := by
  obtain ⟨q1, q2, q3⟩ := y_jn (y_subP hP).1 (y_subD hD).1 (y_apart hD) hk hF hP1 hD1
  exact ⟨y_appP q1 hP1, y_appD (y_subD hD).1 q3 q2⟩
theorem y_jnL (hP : va_P D cl (W0 ++ U) H) (hD : va_D B (W0 ++ U)) (hk : ∀ q : Nat, q < H.size → ¬ va_A W0 H.size q → H1[q]? = H[q]?) (hF : ∀ q, va_A W0 H.size q → B q) (hP1 : va_P D cl W1 H1) (hD1 : va_D (va_A W0 H.size) W1) : va_P D cl (W1 ++ U) H1 ∧ va_D B (W1 ++ U) := by
  obtain ⟨q1, q2, q3⟩ := y_jn (y_subP hP).2 (y_subD hD).2 (fun v hv w hw e => y_apart hD w hw v hv e.symm) hk hF hP1 hD1
  exact ⟨y_appP hP1 q1, y_appD q3 (y_subD hD).2 (fun w hw v hv e => q2 v hv w hw e.symm)⟩
end YJN
theorem y_CO.b {z : Nat → Nat} {ar : Nat → ClassId} {I : Nat → Int32} {O : Nat → Option Nat} {f : Nat → Option va_E} {q s cq cs K ln : Nat} (h : y_CO z ar I O f (q, s, cq, cs) K ln) : cq ≤ 2000 * K + 14 ∧ cs ≤ 400 * K + 12 := by
  obtain ⟨_, _, _, _, h⟩ := h
  exact h.2.2.2.2.2
set_option maxHeartbeats 4000000 in
set_option maxRecDepth 100000 in
theorem c_La_set (l : Launch) (hst : l.stackTraces = false) (dC : Nat → ClassId) (dI : Nat → Nat → Nat) (ar : Nat → ClassId) (N0 : Nat) (z : Nat → Nat) (ad : Nat → Nat) (I : Nat → Int32) (T : Int64) (A : Nat → Nat → Int32) (O : Nat → Option Nat) (pl : va_W) (G : Nat → Nat) (C Gs : Nat → List Nat) (qn sn cq cs : Nat) (K ln : Nat) (vv xv : Int32) (sz w0 : Nat) (hmi : y_MI z ar G C Gs I O (y_L pl) (qn, sn, cq, cs)) (hK5 : K ≤ 511) (hci : y_CR I (qn, sn, cq, cs) K ln) : Met l ({ cls := "ChannelMachineLaw", name := "set", desc := "(LChannelMachine;II)I" } : Jvm.MethodName) ((Jvm.Cond.codeWith ({ cls := "ChannelMachineLaw", name := "set", desc := "(LChannelMachine;II)I" } : Jvm.MethodName) method_9_code (4 : Nat) (Option.some Jvm.ClassFile.FieldType.int) [((0 : Nat), (6 : Nat), (9 : Nat), (13 : Nat))]) :: x_T) ({ frames := 7, cells := (2000 * (K + 1) + 14 - cq + (400 * (K + 1) + 12 - cs)) / 5 + 8, slots := 4 * (2000 * (K + 1) + 14 - cq + (400 * (K + 1) + 12 - cs)) + 110, locals := 106 }) (y_Pc (dC, dI) ar N0 z (y_W ad ar I T A O pl) sz w0 [.ref (ad 0), .int vv, .int xv]) (va_Qi (fun (r : Int32) (u : (Nat → Int32) × Int64 × (Nat → Nat → Int32) × (Nat → Option Nat) × va_W × (Nat × Nat × Nat × Nat)) => y_CO z ar u.1 u.2.2.2.1 (y_L u.2.2.2.2.1) u.2.2.2.2.2 (K + 1) ln ∧ (((¬ vv < 0 ∧ vv < 6) ∧ r = 0) ∨ ((vv < 0 ∨ ¬ vv < 6) ∧ r = 1))) (fun u t => va_P (dC, dI) y_cl (y_W ad ar u.1 u.2.1 u.2.2.1 u.2.2.2.1 u.2.2.2.2.1) t.heap ∧ va_D (va_A (y_W ad ar I T A O pl) sz) (y_W ad ar u.1 u.2.1 u.2.2.1 u.2.2.2.1 u.2.2.2.2.1) ∧ y_aE 110 35 (cq + cs) sz w0 (u.2.2.2.2.2.2.2.1 + u.2.2.2.2.2.2.2.2) t.heap) (va_A (y_W ad ar I T A O pl) sz)) ((2000 * (K + 1) + 14 - cq + (400 * (K + 1) + 12 - cs)) / 5 + 8) (4 * (2000 * (K + 1) + 14 - cq + (400 * (K + 1) + 12 - cs)) + 110) (va_A (y_W ad ar I T A O pl) sz) := by
  refine va_MetW (cc := method_9_code) (maxL := 4) (ret := (some .int)) (by decide) rfl ?_
  intro p e s m args below meth c s₁ B hml hv
  obtain ⟨rfl, hsz, hN0, hP, hU, hZ, hD0, hw0⟩ := hv
  have hK := hU.2.1
  have hx := B.exec
  have hb := B.bytes
  have hr := B.returns
  have hts : ∀ w ∈ x_T, w.before ([.ref (ad 0), .int vv, .int xv] : List Value).toArray s = true := fun w h => atoms_spec (ws := (Jvm.Cond.codeWith ({ cls := "ChannelMachineLaw", name := "set", desc := "(LChannelMachine;II)I" } : Jvm.MethodName) method_9_code (4 : Nat) (Option.some Jvm.ClassFile.FieldType.int) [((0 : Nat), (6 : Nat), (9 : Nat), (13 : Nat))]) :: x_T) B.pre w (List.mem_cons_of_mem _ h)
  have hown : s.vm.findClass "ChannelMachineLaw" = some m.cls := findClass_of_methodNamed B.named
  have hlocks := B.notSynchronized
  subst hsz
  subst hw0
  have hD := hD0.self (sz := s.heap.size)
  have hAN := x_AN hD0 hN0
  generalize hAe : va_A (y_W ad ar I T A O pl) s.heap.size = Bq at hD hAN ⊢
  have hA : ∀ q : Nat, s.heap.size ≤ q → Bq q := fun q h => by rw [← hAe]; exact Or.inr h
  have hS : va_S Bq s.heap s.heap [] := va_S.rf
  have hl := lv_entry ([.ref (ad 0), .int vv, .int xv]) (n := 4) (Nat.le_of_ble_eq_true rfl)
  rw [lg_entry_eq]
  generalize (lg_sl ([.ref (ad 0), .int vv, .int xv]) ++ List.replicate (4 - (lg_sl ([.ref (ad 0), .int vv, .int xv])).length) Slot.unset).toArray = ls at hl ⊢
  have hl : lv_has ls 4 [(0, .ref (ad 0)), (1, .int vv), (2, .int xv)] := hl
  have htab := vx_table (x := ({ cls := "ChannelMachineLaw", name := "set", desc := "(LChannelMachine;II)I" } : Jvm.MethodName)) B (hts _ k_948)
  have hbn := hci.2.2.2
  dsimp only at hbn
  refine lv_aload_n hx hb d_La_set_0 rfl (lv_at hl 0 rfl) ?_
  refine lv_iload_n hx hb d_La_set_1 rfl (lv_at hl 1 rfl) ?_
  refine lv_iload_n hx hb d_La_set_2 rfl (lv_at hl 2 rfl) ?_
  refine y_know (fun hya1 hya2 hya3 hya4 => ?_)
  have hFc := y_free hD hS hA
  refine vx_callv (vx_runV (As := [.int vv, .int xv]) (rest := []) ⟨hx, hb, hml, hown, hts⟩ (c_C_set l hst dC dI ar N0 z ad I T A O pl G C Gs qn sn cq cs K ln (vv) (xv) s.heap.size (y_hs s.heap) hmi hK5 hci) (cwV 2 hts (x_goodV k_949 k_950 k_951 k_1 k_952) rfl rfl rfl (by decide +kernel) ⟨Nat.le_of_ble_eq_true rfl, Nat.le_of_ble_eq_true rfl⟩) ⟨y_blind, va_recv hK hP (ci := 5) (q0 := 0) rfl (y_W_ob (by decide) (by decide)), fun U9 hU9 hW9 => y_pre hU9 hW9 hP hD hU hZ hS hAN hN0⟩ rfl rfl hl.1 rfl (lv_room (Nat.le_of_ble_eq_true rfl)) d_La_set_3 ⟨(by show 0 + ((2000 * (K + 1) + 14 - cq + (400 * (K + 1) + 12 - cs)) / 5 + 8) ≤ (2000 * (K + 1) + 14 - cq + (400 * (K + 1) + 12 - cs)) / 5 + 8; omega), (by show 0 + (4 * (2000 * (K + 1) + 14 - cq + (400 * (K + 1) + 12 - cs)) + 110) ≤ 4 * (2000 * (K + 1) + 14 - cq + (400 * (K + 1) + 12 - cs)) + 110; omega)⟩) hS (fun q _ h => hFc q h) hFc (fun q h1 h2 => hFc q h2) (fun E ce q9 u t H1 locs ht hvm hpx hbx hz1 hk1 hS hce hcv hcl => ?_) (fun u t H1 locs ht hvm hw hB hz1 hk1 hS => ?_)
  · obtain ⟨I1, T1, A1, O1, pl1, q1, s1, cq1, cs1⟩ := u
    dsimp only at hpx hbx
    rw [ht] at hbx
    obtain ⟨hP, hD1, hac1⟩ := hbx
    have hD : va_D Bq (y_W ad ar I1 T1 A1 O1 pl1) := hD1.weaken (fun _ q _ h => hFc q.1 h)
    generalize H1 = H at hP hS hac1 hce hk1 hz1 ⊢
    obtain ⟨hE, hac1⟩ := hac1
    have hP : va_P (dC, dI) y_cl (y_W ad ar I1 T1 A1 O1 pl1) H := hP
    have hD : va_D Bq (y_W ad ar I1 T1 A1 O1 pl1) := hD
    obtain ⟨hco, h6⟩ := hpx
    obtain rfl := hE
    refine vx_catch hown [] ⟨0, 6, 9, 13⟩ [] htab (fun z h => by cases h) (by decide) (by decide) (hts _ k_221) (va_Nw.use rfl (hU.1.2.1 _ kn_232)) hce hcv hcl ?_
    have hbc := y_CO.b hco
    unfold y_aE at hac1
    try dsimp only at hac1
    refine y_know (fun hyk1 hyk2 hyk3 hyk4 => ?_)
    have hcc1 : 4 * (cq + cs) ≤ 4 * (cq1 + cs1) + 110 := by omega
    have hcc2 : cq + cs ≤ cq1 + cs1 + 35 := by omega
    refine y_tight (k := (cq1 + cs1 + 35 - (cq + cs)) / 5) (n := 4 * (cq1 + cs1) + 110 - 4 * (cq + cs)) (by omega) (by omega) ?_
    refine lv_astore_n (lv' := [(3, .ref q9), (0, .ref (ad 0)), (1, .int vv), (2, .int xv)]) hx hb d_La_set_9 rfl hl (by decide) rfl (fun ls hl => ?_)
    refine lv_iconst (v := 1) hx hb d_La_set_10 (by decide) ?_
    refine y_know (fun hy91 hy92 hy93 hy94 => ?_)
    have hac9 : y_aE 110 35 (cq + cs) s.heap.size (y_hs s.heap) (cq1 + cs1) H := ⟨by omega, by omega⟩
    refine W.widen (k := (2000 * (K + 1) + 14 - cq + (400 * (K + 1) + 12 - cs)) / 5 + 8) (n := 4 * (2000 * (K + 1) + 14 - cq + (400 * (K + 1) + 12 - cs)) + 110) (by omega) (by omega) ?_
    exact W.iret (v := 1) hx hb hr (fun t ht hW => ⟨⟨1, (I1, T1, A1, O1, pl1, (q1, s1, cq1, cs1)), rfl, ⟨hco, Or.inr ⟨h6, rfl⟩⟩, (by dsimp only; rw [ht]; exact ⟨hP, hD, hac9⟩)⟩, hS.F ht⟩) hS.2.2 d_La_set_11
  · obtain ⟨I2, T2, A2, O2, pl2, q2, s2, cq2, cs2⟩ := u
    dsimp only at hw hB
    rw [ht] at hB
    obtain ⟨hP, hD1, hac2⟩ := hB
    have hD : va_D Bq (y_W ad ar I2 T2 A2 O2 pl2) := hD1.weaken (fun _ q _ h => hFc q.1 h)
    generalize H1 = H at hP hS hac2 hk1 hz1 ⊢
    have hae2 := hac2
    try unfold y_ac at hae2
    try dsimp only at hae2
    have hP : va_P (dC, dI) y_cl (y_W ad ar I2 T2 A2 O2 pl2) H := hP
    have hD : va_D Bq (y_W ad ar I2 T2 A2 O2 pl2) := hD
    obtain ⟨hco, h6⟩ := hw
    have hbc := y_CO.b hco
    unfold y_aE at hac2
    try dsimp only at hac2
    refine y_know (fun hyk1 hyk2 hyk3 hyk4 => ?_)
    have hcc1 : 4 * (cq + cs) ≤ 4 * (cq2 + cs2) + 110 := by omega
    have hcc2 : cq + cs ≤ cq2 + cs2 + 35 := by omega
    refine y_tight (k := (cq2 + cs2 + 35 - (cq + cs)) / 5) (n := 4 * (cq2 + cs2) + 110 - 4 * (cq + cs)) (by omega) (by omega) ?_
    refine lv_goto (tgt := 12) hx hb d_La_set_6 (by decide) ?_
    refine lv_iconst (v := 0) hx hb d_La_set_12 (by decide) ?_
    refine y_know (fun hy91 hy92 hy93 hy94 => ?_)
    have hac9 : y_aE 110 35 (cq + cs) s.heap.size (y_hs s.heap) (cq2 + cs2) H := ⟨by omega, by omega⟩
    refine W.widen (k := (2000 * (K + 1) + 14 - cq + (400 * (K + 1) + 12 - cs)) / 5 + 8) (n := 4 * (2000 * (K + 1) + 14 - cq + (400 * (K + 1) + 12 - cs)) + 110) (by omega) (by omega) ?_
    exact W.iret (v := 0) hx hb hr (fun t ht hW => ⟨⟨0, (I2, T2, A2, O2, pl2, (q2, s2, cq2, cs2)), rfl, ⟨hco, Or.inl ⟨h6, rfl⟩⟩, (by dsimp only; rw [ht]; exact ⟨hP, hD, hac9⟩)⟩, hS.F ht⟩) hS.2.2 d_La_set_13
set_option maxHeartbeats 4000000 in
set_option maxRecDepth 100000 in
theorem c_La_variable (l : Launch) (hst : l.stackTraces = false) (dC : Nat → ClassId) (dI : Nat → Nat → Nat) (ar : Nat → ClassId) (N0 : Nat) (z : Nat → Nat) (ad : Nat → Nat) (I : Nat → Int32) (T : Int64) (A : Nat → Nat → Int32) (O : Nat → Option Nat) (pl : va_W) (G : Nat → Nat) (C Gs : Nat → List Nat) (qn sn cq cs : Nat) (K ln : Nat) (vv : Int32) (ot : Nat) (fo : Nat → Int64) (sz w0 : Nat) (hmi : y_MI z ar G C Gs I O (y_L pl) (qn, sn, cq, cs)) (hK5 : K ≤ 511) (hci : y_CR I (qn, sn, cq, cs) K ln) : Met l ({ cls := "ChannelMachineLaw", name := "variable", desc := "(LChannelMachine;I[J)I" } : Jvm.MethodName) ((Jvm.Cond.codeWith ({ cls := "ChannelMachineLaw", name := "variable", desc := "(LChannelMachine;I[J)I" } : Jvm.MethodName) method_8_code (4 : Nat) (Option.some Jvm.ClassFile.FieldType.int) [((0 : Nat), (9 : Nat), (12 : Nat), (13 : Nat))]) :: x_T) ({ frames := 7, cells := (2000 * (K + 1) + 14 - cq + (400 * (K + 1) + 12 - cs)) / 5 + 8, slots := 4 * (2000 * (K + 1) + 14 - cq + (400 * (K + 1) + 12 - cs)) + 110, locals := 105 }) (y_Pc (dC, dI) ar N0 z ([(ot, .inl (ar 2, 1, .inr (.inl fo)))] ++ y_W ad ar I T A O pl) sz w0 [.ref (ad 0), .int vv, .ref ot]) (va_Qi (fun (r : Int32) (u : ((Nat → Int32) × Int64 × (Nat → Nat → Int32) × (Nat → Option Nat) × va_W × (Nat × Nat × Nat × Nat)) × (Nat → Int64)) => y_CO z ar u.1.1 u.1.2.2.2.1 (y_L u.1.2.2.2.2.1) u.1.2.2.2.2.2 (K + 1) ln) (fun u t => va_P (dC, dI) y_cl ([(ot, .inl (ar 2, 1, .inr (.inl u.2)))] ++ y_W ad ar u.1.1 u.1.2.1 u.1.2.2.1 u.1.2.2.2.1 u.1.2.2.2.2.1) t.heap ∧ va_D (va_A ([(ot, .inl (ar 2, 1, .inr (.inl fo)))] ++ y_W ad ar I T A O pl) sz) ([(ot, .inl (ar 2, 1, .inr (.inl u.2)))] ++ y_W ad ar u.1.1 u.1.2.1 u.1.2.2.1 u.1.2.2.2.1 u.1.2.2.2.2.1) ∧ y_aE 110 35 (cq + cs) sz w0 (u.1.2.2.2.2.2.2.2.1 + u.1.2.2.2.2.2.2.2.2) t.heap) (va_A ([(ot, .inl (ar 2, 1, .inr (.inl fo)))] ++ y_W ad ar I T A O pl) sz)) ((2000 * (K + 1) + 14 - cq + (400 * (K + 1) + 12 - cs)) / 5 + 8) (4 * (2000 * (K + 1) + 14 - cq + (400 * (K + 1) + 12 - cs)) + 110) (va_A ([(ot, .inl (ar 2, 1, .inr (.inl fo)))] ++ y_W ad ar I T A O pl) sz) := by
  refine va_MetW (cc := method_8_code) (maxL := 4) (ret := (some .int)) (by decide) rfl ?_
  intro p e s m args below meth c s₁ B hml hv
  obtain ⟨rfl, hsz, hN0, hP, hU, hZ, hD0, hw0⟩ := hv
  have hK := hU.2.1
  have hx := B.exec
  have hb := B.bytes
  have hr := B.returns
  have hts : ∀ w ∈ x_T, w.before ([.ref (ad 0), .int vv, .ref ot] : List Value).toArray s = true := fun w h => atoms_spec (ws := (Jvm.Cond.codeWith ({ cls := "ChannelMachineLaw", name := "variable", desc := "(LChannelMachine;I[J)I" } : Jvm.MethodName) method_8_code (4 : Nat) (Option.some Jvm.ClassFile.FieldType.int) [((0 : Nat), (9 : Nat), (12 : Nat), (13 : Nat))]) :: x_T) B.pre w (List.mem_cons_of_mem _ h)
  have hown : s.vm.findClass "ChannelMachineLaw" = some m.cls := findClass_of_methodNamed B.named
  have hlocks := B.notSynchronized
  subst hsz
  subst hw0
  have hD := hD0.self (sz := s.heap.size)
  have hAN := x_AN hD0 hN0
  generalize hAe : va_A ([(ot, .inl (ar 2, 1, .inr (.inl fo)))] ++ y_W ad ar I T A O pl) s.heap.size = Bq at hD hAN ⊢
  have hA : ∀ q : Nat, s.heap.size ≤ q → Bq q := fun q h => by rw [← hAe]; exact Or.inr h
  have hS : va_S Bq s.heap s.heap [] := va_S.rf
  have hl := lv_entry ([.ref (ad 0), .int vv, .ref ot]) (n := 4) (Nat.le_of_ble_eq_true rfl)
  rw [lg_entry_eq]
  generalize (lg_sl ([.ref (ad 0), .int vv, .ref ot]) ++ List.replicate (4 - (lg_sl ([.ref (ad 0), .int vv, .ref ot])).length) Slot.unset).toArray = ls at hl ⊢
  have hl : lv_has ls 4 [(0, .ref (ad 0)), (1, .int vv), (2, .ref ot)] := hl
  have htab := vx_table (x := ({ cls := "ChannelMachineLaw", name := "variable", desc := "(LChannelMachine;I[J)I" } : Jvm.MethodName)) B (hts _ k_940)
  have hbn := hci.2.2.2
  dsimp only at hbn
  refine lv_aload_n hx hb d_La_variable_0 rfl (lv_at hl 2 rfl) ?_
  refine lv_iconst (v := 0) hx hb d_La_variable_1 (by decide) ?_
  refine lv_aload_n hx hb d_La_variable_2 rfl (lv_at hl 0 rfl) ?_
  refine lv_iload_n hx hb d_La_variable_3 rfl (lv_at hl 1 rfl) ?_
  have hPW := hP
  have hDW := hD
  have hP : va_P (dC, dI) y_cl (y_W ad ar I T A O pl) s.heap := (y_subP hPW).2
  have hD : va_D Bq (y_W ad ar I T A O pl) := (y_subD hDW).2
  refine y_know (fun hya1 hya2 hya3 hya4 => ?_)
  have hFc := y_free hD hS hA
  refine vx_calli (vx_runV (As := [.int vv]) (rest := [.int 0, .ref ot]) ⟨hx, hb, hml, hown, hts⟩ (c_C_variable l hst dC dI ar N0 z ad I T A O pl G C Gs qn sn cq cs K ln (vv) s.heap.size (y_hs s.heap) hmi hK5 hci) (cwV 1 hts (x_goodV k_941 k_942 k_943 k_1 k_944) rfl rfl rfl (by decide +kernel) ⟨Nat.le_of_ble_eq_true rfl, Nat.le_of_ble_eq_true rfl⟩) ⟨y_blind, va_recv hK hP (ci := 5) (q0 := 0) rfl (y_W_ob (by decide) (by decide)), fun U9 hU9 hW9 => y_pre hU9 hW9 hP hD hU hZ hS hAN hN0⟩ rfl rfl hl.1 rfl (lv_room (Nat.le_of_ble_eq_true rfl)) d_La_variable_4 ⟨(by show 0 + ((2000 * (K + 1) + 14 - cq + (400 * (K + 1) + 12 - cs)) / 5 + 8) ≤ (2000 * (K + 1) + 14 - cq + (400 * (K + 1) + 12 - cs)) / 5 + 8; omega), (by show 0 + (4 * (2000 * (K + 1) + 14 - cq + (400 * (K + 1) + 12 - cs)) + 110) ≤ 4 * (2000 * (K + 1) + 14 - cq + (400 * (K + 1) + 12 - cs)) + 110; omega)⟩) hS (fun q _ h => hFc q h) hFc (fun q h1 h2 => hFc q h2) (fun E ce q9 u t H1 locs ht hvm hpx hbx hz1 hk1 hS hce hcv hcl => ?_) (fun r_1 u t H1 locs ht hvm hw hB hz1 hk1 hS => ?_)
  · obtain ⟨I2, T2, A2, O2, pl2, q2, s2, cq2, cs2⟩ := u
    dsimp only at hpx hbx
    rw [ht] at hbx
    obtain ⟨hP, hD1, hac2⟩ := hbx
    have hD : va_D Bq (y_W ad ar I2 T2 A2 O2 pl2) := hD1.weaken (fun _ q _ h => hFc q.1 h)
    generalize H1 = H at hP hS hac2 hce hk1 hz1 ⊢
    obtain ⟨hE, hac2⟩ := hac2
    obtain ⟨hP, hD⟩ := y_jnR hPW hDW hk1 hFc hP hD1
    have hP : va_P (dC, dI) y_cl ([(ot, .inl (ar 2, 1, .inr (.inl fo)))] ++ y_W ad ar I2 T2 A2 O2 pl2) H := hP
    have hD : va_D Bq ([(ot, .inl (ar 2, 1, .inr (.inl fo)))] ++ y_W ad ar I2 T2 A2 O2 pl2) := hD
    have hco := hpx
    obtain rfl := hE
    refine vx_catch hown [] ⟨0, 9, 12, 13⟩ [] htab (fun z h => by cases h) (by decide) (by decide) (hts _ k_221) (va_Nw.use rfl (hU.1.2.1 _ kn_232)) hce hcv hcl ?_
    have hbc := y_CO.b hco
    unfold y_aE at hac2
    try dsimp only at hac2
    refine y_know (fun hyk1 hyk2 hyk3 hyk4 => ?_)
    have hcc1 : 4 * (cq + cs) ≤ 4 * (cq2 + cs2) + 110 := by omega
    have hcc2 : cq + cs ≤ cq2 + cs2 + 35 := by omega
    refine y_tight (k := (cq2 + cs2 + 35 - (cq + cs)) / 5) (n := 4 * (cq2 + cs2) + 110 - 4 * (cq + cs)) (by omega) (by omega) ?_
    refine lv_astore_n (lv' := [(3, .ref q9), (0, .ref (ad 0)), (1, .int vv), (2, .ref ot)]) hx hb d_La_variable_12 rfl hl (by decide) rfl (fun ls hl => ?_)
    refine lv_iconst (v := 1) hx hb d_La_variable_13 (by decide) ?_
    refine y_know (fun hy91 hy92 hy93 hy94 => ?_)
    have hac9 : y_aE 110 35 (cq + cs) s.heap.size (y_hs s.heap) (cq2 + cs2) H := ⟨by omega, by omega⟩
    refine W.widen (k := (2000 * (K + 1) + 14 - cq + (400 * (K + 1) + 12 - cs)) / 5 + 8) (n := 4 * (2000 * (K + 1) + 14 - cq + (400 * (K + 1) + 12 - cs)) + 110) (by omega) (by omega) ?_
    exact W.iret (v := 1) hx hb hr (fun t ht hW => ⟨⟨1, ((I2, T2, A2, O2, pl2, (q2, s2, cq2, cs2)), fo), rfl, hco, (by dsimp only; rw [ht]; exact ⟨hP, hD, hac9⟩)⟩, hS.F ht⟩) hS.2.2 d_La_variable_14
  · obtain ⟨I3, T3, A3, O3, pl3, q3, s3, cq3, cs3⟩ := u
    dsimp only at hw hB
    rw [ht] at hB
    obtain ⟨hP, hD1, hac3⟩ := hB
    have hD : va_D Bq (y_W ad ar I3 T3 A3 O3 pl3) := hD1.weaken (fun _ q _ h => hFc q.1 h)
    generalize H1 = H at hP hS hac3 hk1 hz1 ⊢
    have hae3 := hac3
    try unfold y_ac at hae3
    try dsimp only at hae3
    obtain ⟨hP, hD⟩ := y_jnR hPW hDW hk1 hFc hP hD1
    have hP : va_P (dC, dI) y_cl ([(ot, .inl (ar 2, 1, .inr (.inl fo)))] ++ y_W ad ar I3 T3 A3 O3 pl3) H := hP
    have hD : va_D Bq ([(ot, .inl (ar 2, 1, .inr (.inl fo)))] ++ y_W ad ar I3 T3 A3 O3 pl3) := hD
    have hco := hw
    have hbc := y_CO.b hco
    unfold y_aE at hac3
    try dsimp only at hac3
    refine y_know (fun hyk1 hyk2 hyk3 hyk4 => ?_)
    have hcc1 : 4 * (cq + cs) ≤ 4 * (cq3 + cs3) + 110 := by omega
    have hcc2 : cq + cs ≤ cq3 + cs3 + 35 := by omega
    refine y_tight (k := (cq3 + cs3 + 35 - (cq + cs)) / 5) (n := 4 * (cq3 + cs3) + 110 - 4 * (cq + cs)) (by omega) (by omega) ?_
    refine lv_i2l (v := (Int32.toInt64 r_1)) hx hb d_La_variable_7 rfl ?_
    refine va_last hx hb hK hP hD hS 0 2 rfl rfl (i := 0) (x := (Int32.toInt64 r_1)) (by unfold vp_in; decide) d_La_variable_8 (fun H locs hP hD hS => ?_)
    obtain ⟨fo4, hP, hD, hf0⟩ : ∃ fo9 : Nat → Int64, va_P (dC, dI) y_cl ([(ot, .inl (ar 2, 1, .inr (.inl fo9)))] ++ y_W ad ar I3 T3 A3 O3 pl3) H ∧ va_D Bq ([(ot, .inl (ar 2, 1, .inr (.inl fo9)))] ++ y_W ad ar I3 T3 A3 O3 pl3) ∧ fo9 0 = (Int32.toInt64 r_1) := ⟨_, hP, hD, rfl⟩
    refine lv_goto (tgt := 15) hx hb d_La_variable_9 (by decide) ?_
    refine lv_iconst (v := 0) hx hb d_La_variable_15 (by decide) ?_
    refine y_know (fun hy91 hy92 hy93 hy94 => ?_)
    have hac9 : y_aE 110 35 (cq + cs) s.heap.size (y_hs s.heap) (cq3 + cs3) H := ⟨by omega, by omega⟩
    refine W.widen (k := (2000 * (K + 1) + 14 - cq + (400 * (K + 1) + 12 - cs)) / 5 + 8) (n := 4 * (2000 * (K + 1) + 14 - cq + (400 * (K + 1) + 12 - cs)) + 110) (by omega) (by omega) ?_
    exact W.iret (v := 0) hx hb hr (fun t ht hW => ⟨⟨0, ((I3, T3, A3, O3, pl3, (q3, s3, cq3, cs3)), fo4), rfl, hco, (by dsimp only; rw [ht]; exact ⟨hP, hD, hac9⟩)⟩, hS.F ht⟩) hS.2.2 d_La_variable_16
set_option maxHeartbeats 4000000 in
set_option maxRecDepth 100000 in
theorem c_La_channel (l : Launch) (hst : l.stackTraces = false) (dC : Nat → ClassId) (dI : Nat → Nat → Nat) (ar : Nat → ClassId) (N0 : Nat) (z : Nat → Nat) (ad : Nat → Nat) (I : Nat → Int32) (T : Int64) (A : Nat → Nat → Int32) (O : Nat → Option Nat) (pl : va_W) (G : Nat → Nat) (C Gs : Nat → List Nat) (qn sn cq cs : Nat) (K ln : Nat) (vv : Int32) (ot : Nat) (fo : Nat → Int64) (sz w0 : Nat) (hmi : y_MI z ar G C Gs I O (y_L pl) (qn, sn, cq, cs)) (hK5 : K ≤ 511) (hci : y_CR I (qn, sn, cq, cs) K ln) : Met l ({ cls := "ChannelMachineLaw", name := "channel", desc := "(LChannelMachine;I[J)I" } : Jvm.MethodName) ((Jvm.Cond.codeWith ({ cls := "ChannelMachineLaw", name := "channel", desc := "(LChannelMachine;I[J)I" } : Jvm.MethodName) method_10_code (4 : Nat) (Option.some Jvm.ClassFile.FieldType.int) [((0 : Nat), (9 : Nat), (12 : Nat), (13 : Nat))]) :: x_T) ({ frames := 7, cells := (2000 * (K + 1) + 14 - cq + (400 * (K + 1) + 12 - cs)) / 5 + 8, slots := 4 * (2000 * (K + 1) + 14 - cq + (400 * (K + 1) + 12 - cs)) + 110, locals := 106 }) (y_Pc (dC, dI) ar N0 z ([(ot, .inl (ar 2, 1, .inr (.inl fo)))] ++ y_W ad ar I T A O pl) sz w0 [.ref (ad 0), .int vv, .ref ot]) (va_Qi (fun (r : Int32) (u : ((Nat → Int32) × Int64 × (Nat → Nat → Int32) × (Nat → Option Nat) × va_W × (Nat × Nat × Nat × Nat)) × (Nat → Int64)) => y_CO z ar u.1.1 u.1.2.2.2.1 (y_L u.1.2.2.2.2.1) u.1.2.2.2.2.2 (K + 1) ln) (fun u t => va_P (dC, dI) y_cl ([(ot, .inl (ar 2, 1, .inr (.inl u.2)))] ++ y_W ad ar u.1.1 u.1.2.1 u.1.2.2.1 u.1.2.2.2.1 u.1.2.2.2.2.1) t.heap ∧ va_D (va_A ([(ot, .inl (ar 2, 1, .inr (.inl fo)))] ++ y_W ad ar I T A O pl) sz) ([(ot, .inl (ar 2, 1, .inr (.inl u.2)))] ++ y_W ad ar u.1.1 u.1.2.1 u.1.2.2.1 u.1.2.2.2.1 u.1.2.2.2.2.1) ∧ y_aE 110 35 (cq + cs) sz w0 (u.1.2.2.2.2.2.2.2.1 + u.1.2.2.2.2.2.2.2.2) t.heap) (va_A ([(ot, .inl (ar 2, 1, .inr (.inl fo)))] ++ y_W ad ar I T A O pl) sz)) ((2000 * (K + 1) + 14 - cq + (400 * (K + 1) + 12 - cs)) / 5 + 8) (4 * (2000 * (K + 1) + 14 - cq + (400 * (K + 1) + 12 - cs)) + 110) (va_A ([(ot, .inl (ar 2, 1, .inr (.inl fo)))] ++ y_W ad ar I T A O pl) sz) := by
  refine va_MetW (cc := method_10_code) (maxL := 4) (ret := (some .int)) (by decide) rfl ?_
  intro p e s m args below meth c s₁ B hml hv
  obtain ⟨rfl, hsz, hN0, hP, hU, hZ, hD0, hw0⟩ := hv
  have hK := hU.2.1
  have hx := B.exec
  have hb := B.bytes
  have hr := B.returns
  have hts : ∀ w ∈ x_T, w.before ([.ref (ad 0), .int vv, .ref ot] : List Value).toArray s = true := fun w h => atoms_spec (ws := (Jvm.Cond.codeWith ({ cls := "ChannelMachineLaw", name := "channel", desc := "(LChannelMachine;I[J)I" } : Jvm.MethodName) method_10_code (4 : Nat) (Option.some Jvm.ClassFile.FieldType.int) [((0 : Nat), (9 : Nat), (12 : Nat), (13 : Nat))]) :: x_T) B.pre w (List.mem_cons_of_mem _ h)
  have hown : s.vm.findClass "ChannelMachineLaw" = some m.cls := findClass_of_methodNamed B.named
  have hlocks := B.notSynchronized
  subst hsz
  subst hw0
  have hD := hD0.self (sz := s.heap.size)
  have hAN := x_AN hD0 hN0
  generalize hAe : va_A ([(ot, .inl (ar 2, 1, .inr (.inl fo)))] ++ y_W ad ar I T A O pl) s.heap.size = Bq at hD hAN ⊢
  have hA : ∀ q : Nat, s.heap.size ≤ q → Bq q := fun q h => by rw [← hAe]; exact Or.inr h
  have hS : va_S Bq s.heap s.heap [] := va_S.rf
  have hl := lv_entry ([.ref (ad 0), .int vv, .ref ot]) (n := 4) (Nat.le_of_ble_eq_true rfl)
  rw [lg_entry_eq]
  generalize (lg_sl ([.ref (ad 0), .int vv, .ref ot]) ++ List.replicate (4 - (lg_sl ([.ref (ad 0), .int vv, .ref ot])).length) Slot.unset).toArray = ls at hl ⊢
  have hl : lv_has ls 4 [(0, .ref (ad 0)), (1, .int vv), (2, .ref ot)] := hl
  have htab := vx_table (x := ({ cls := "ChannelMachineLaw", name := "channel", desc := "(LChannelMachine;I[J)I" } : Jvm.MethodName)) B (hts _ k_955)
  have hbn := hci.2.2.2
  dsimp only at hbn
  refine lv_aload_n hx hb d_La_channel_0 rfl (lv_at hl 2 rfl) ?_
  refine lv_iconst (v := 0) hx hb d_La_channel_1 (by decide) ?_
  refine lv_aload_n hx hb d_La_channel_2 rfl (lv_at hl 0 rfl) ?_
  refine lv_iload_n hx hb d_La_channel_3 rfl (lv_at hl 1 rfl) ?_
  have hPW := hP
  have hDW := hD
  have hP : va_P (dC, dI) y_cl (y_W ad ar I T A O pl) s.heap := (y_subP hPW).2
  have hD : va_D Bq (y_W ad ar I T A O pl) := (y_subD hDW).2
  refine y_know (fun hya1 hya2 hya3 hya4 => ?_)
  have hFc := y_free hD hS hA
  refine vx_calli (vx_runV (As := [.int vv]) (rest := [.int 0, .ref ot]) ⟨hx, hb, hml, hown, hts⟩ (c_C_channel l hst dC dI ar N0 z ad I T A O pl G C Gs qn sn cq cs K ln (vv) s.heap.size (y_hs s.heap) hmi hK5 hci) (cwV 1 hts (x_goodV k_956 k_957 k_958 k_1 k_959) rfl rfl rfl (by decide +kernel) ⟨Nat.le_of_ble_eq_true rfl, Nat.le_of_ble_eq_true rfl⟩) ⟨y_blind, va_recv hK hP (ci := 5) (q0 := 0) rfl (y_W_ob (by decide) (by decide)), fun U9 hU9 hW9 => y_pre hU9 hW9 hP hD hU hZ hS hAN hN0⟩ rfl rfl hl.1 rfl (lv_room (Nat.le_of_ble_eq_true rfl)) d_La_channel_4 ⟨(by show 0 + ((2000 * (K + 1) + 14 - cq + (400 * (K + 1) + 12 - cs)) / 5 + 8) ≤ (2000 * (K + 1) + 14 - cq + (400 * (K + 1) + 12 - cs)) / 5 + 8; omega), (by show 0 + (4 * (2000 * (K + 1) + 14 - cq + (400 * (K + 1) + 12 - cs)) + 110) ≤ 4 * (2000 * (K + 1) + 14 - cq + (400 * (K + 1) + 12 - cs)) + 110; omega)⟩) hS (fun q _ h => hFc q h) hFc (fun q h1 h2 => hFc q h2) (fun E ce q9 u t H1 locs ht hvm hpx hbx hz1 hk1 hS hce hcv hcl => ?_) (fun r_1 u t H1 locs ht hvm hw hB hz1 hk1 hS => ?_)
  · obtain ⟨I2, T2, A2, O2, pl2, q2, s2, cq2, cs2⟩ := u
    dsimp only at hpx hbx
    rw [ht] at hbx
    obtain ⟨hP, hD1, hac2⟩ := hbx
    have hD : va_D Bq (y_W ad ar I2 T2 A2 O2 pl2) := hD1.weaken (fun _ q _ h => hFc q.1 h)
    generalize H1 = H at hP hS hac2 hce hk1 hz1 ⊢
    obtain ⟨hE, hac2⟩ := hac2
    obtain ⟨hP, hD⟩ := y_jnR hPW hDW hk1 hFc hP hD1
    have hP : va_P (dC, dI) y_cl ([(ot, .inl (ar 2, 1, .inr (.inl fo)))] ++ y_W ad ar I2 T2 A2 O2 pl2) H := hP
    have hD : va_D Bq ([(ot, .inl (ar 2, 1, .inr (.inl fo)))] ++ y_W ad ar I2 T2 A2 O2 pl2) := hD
    have hco := hpx
    obtain rfl := hE
    refine vx_catch hown [] ⟨0, 9, 12, 13⟩ [] htab (fun z h => by cases h) (by decide) (by decide) (hts _ k_221) (va_Nw.use rfl (hU.1.2.1 _ kn_232)) hce hcv hcl ?_
    have hbc := y_CO.b hco
    unfold y_aE at hac2
    try dsimp only at hac2
    refine y_know (fun hyk1 hyk2 hyk3 hyk4 => ?_)
    have hcc1 : 4 * (cq + cs) ≤ 4 * (cq2 + cs2) + 110 := by omega
    have hcc2 : cq + cs ≤ cq2 + cs2 + 35 := by omega
    refine y_tight (k := (cq2 + cs2 + 35 - (cq + cs)) / 5) (n := 4 * (cq2 + cs2) + 110 - 4 * (cq + cs)) (by omega) (by omega) ?_
    refine lv_astore_n (lv' := [(3, .ref q9), (0, .ref (ad 0)), (1, .int vv), (2, .ref ot)]) hx hb d_La_channel_12 rfl hl (by decide) rfl (fun ls hl => ?_)
    refine lv_iconst (v := 1) hx hb d_La_channel_13 (by decide) ?_
    refine y_know (fun hy91 hy92 hy93 hy94 => ?_)
    have hac9 : y_aE 110 35 (cq + cs) s.heap.size (y_hs s.heap) (cq2 + cs2) H := ⟨by omega, by omega⟩
    refine W.widen (k := (2000 * (K + 1) + 14 - cq + (400 * (K + 1) + 12 - cs)) / 5 + 8) (n := 4 * (2000 * (K + 1) + 14 - cq + (400 * (K + 1) + 12 - cs)) + 110) (by omega) (by omega) ?_
    exact W.iret (v := 1) hx hb hr (fun t ht hW => ⟨⟨1, ((I2, T2, A2, O2, pl2, (q2, s2, cq2, cs2)), fo), rfl, hco, (by dsimp only; rw [ht]; exact ⟨hP, hD, hac9⟩)⟩, hS.F ht⟩) hS.2.2 d_La_channel_14
  · obtain ⟨I3, T3, A3, O3, pl3, q3, s3, cq3, cs3⟩ := u
    dsimp only at hw hB
    rw [ht] at hB
    obtain ⟨hP, hD1, hac3⟩ := hB
    have hD : va_D Bq (y_W ad ar I3 T3 A3 O3 pl3) := hD1.weaken (fun _ q _ h => hFc q.1 h)
    generalize H1 = H at hP hS hac3 hk1 hz1 ⊢
    have hae3 := hac3
    try unfold y_ac at hae3
    try dsimp only at hae3
    obtain ⟨hP, hD⟩ := y_jnR hPW hDW hk1 hFc hP hD1
    have hP : va_P (dC, dI) y_cl ([(ot, .inl (ar 2, 1, .inr (.inl fo)))] ++ y_W ad ar I3 T3 A3 O3 pl3) H := hP
    have hD : va_D Bq ([(ot, .inl (ar 2, 1, .inr (.inl fo)))] ++ y_W ad ar I3 T3 A3 O3 pl3) := hD
    have hco := hw
    have hbc := y_CO.b hco
    unfold y_aE at hac3
    try dsimp only at hac3
    refine y_know (fun hyk1 hyk2 hyk3 hyk4 => ?_)
    have hcc1 : 4 * (cq + cs) ≤ 4 * (cq3 + cs3) + 110 := by omega
    have hcc2 : cq + cs ≤ cq3 + cs3 + 35 := by omega
    refine y_tight (k := (cq3 + cs3 + 35 - (cq + cs)) / 5) (n := 4 * (cq3 + cs3) + 110 - 4 * (cq + cs)) (by omega) (by omega) ?_
    refine lv_i2l (v := (Int32.toInt64 r_1)) hx hb d_La_channel_7 rfl ?_
    refine va_last hx hb hK hP hD hS 0 2 rfl rfl (i := 0) (x := (Int32.toInt64 r_1)) (by unfold vp_in; decide) d_La_channel_8 (fun H locs hP hD hS => ?_)
    obtain ⟨fo4, hP, hD, hf0⟩ : ∃ fo9 : Nat → Int64, va_P (dC, dI) y_cl ([(ot, .inl (ar 2, 1, .inr (.inl fo9)))] ++ y_W ad ar I3 T3 A3 O3 pl3) H ∧ va_D Bq ([(ot, .inl (ar 2, 1, .inr (.inl fo9)))] ++ y_W ad ar I3 T3 A3 O3 pl3) ∧ fo9 0 = (Int32.toInt64 r_1) := ⟨_, hP, hD, rfl⟩
    refine lv_goto (tgt := 15) hx hb d_La_channel_9 (by decide) ?_
    refine lv_iconst (v := 0) hx hb d_La_channel_15 (by decide) ?_
    refine y_know (fun hy91 hy92 hy93 hy94 => ?_)
    have hac9 : y_aE 110 35 (cq + cs) s.heap.size (y_hs s.heap) (cq3 + cs3) H := ⟨by omega, by omega⟩
    refine W.widen (k := (2000 * (K + 1) + 14 - cq + (400 * (K + 1) + 12 - cs)) / 5 + 8) (n := 4 * (2000 * (K + 1) + 14 - cq + (400 * (K + 1) + 12 - cs)) + 110) (by omega) (by omega) ?_
    exact W.iret (v := 0) hx hb hr (fun t ht hW => ⟨⟨0, ((I3, T3, A3, O3, pl3, (q3, s3, cq3, cs3)), fo4), rfl, hco, (by dsimp only; rw [ht]; exact ⟨hP, hD, hac9⟩)⟩, hS.F ht⟩) hS.2.2 d_La_channel_16
set_option maxHeartbeats 4000000 in
set_option maxRecDepth 100000 in
theorem c_La_give (l : Launch) (hst : l.stackTraces = false) (dC : Nat → ClassId) (dI : Nat → Nat → Nat) (ar : Nat → ClassId) (N0 : Nat) (z : Nat → Nat) (ad : Nat → Nat) (I : Nat → Int32) (T : Int64) (A : Nat → Nat → Int32) (O : Nat → Option Nat) (pl : va_W) (G : Nat → Nat) (C Gs : Nat → List Nat) (qn sn cq cs : Nat) (K ln : Nat) (vv : Int32) (ot : Nat) (fo : Nat → Int64) (sz w0 : Nat) (hmi : y_MI z ar G C Gs I O (y_L pl) (qn, sn, cq, cs)) (hK5 : K ≤ 511) (hci : y_CR I (qn, sn, cq, cs) K ln) : Met l ({ cls := "ChannelMachineLaw", name := "give", desc := "(LChannelMachine;I[J)I" } : Jvm.MethodName) ((Jvm.Cond.codeWith ({ cls := "ChannelMachineLaw", name := "give", desc := "(LChannelMachine;I[J)I" } : Jvm.MethodName) method_6_code (4 : Nat) (Option.some Jvm.ClassFile.FieldType.int) [((0 : Nat), (9 : Nat), (12 : Nat), (15 : Nat))]) :: x_T) ({ frames := 10, cells := (2000 * (K + 1) + 14 - cq + (400 * (K + 1) + 12 - cs)) / 5 + 8, slots := 4 * (2000 * (K + 1) + 14 - cq + (400 * (K + 1) + 12 - cs)) + 110, locals := 258 }) (y_Pc (dC, dI) ar N0 z ([(ot, .inl (ar 2, 1, .inr (.inl fo)))] ++ y_W ad ar I T A O pl) sz w0 [.ref (ad 0), .int vv, .ref ot]) (va_Qi (fun (r : Int32) (u : ((Nat → Int32) × Int64 × (Nat → Nat → Int32) × (Nat → Option Nat) × va_W × (Nat × Nat × Nat × Nat)) × (Nat → Int64)) => y_CO z ar u.1.1 u.1.2.2.2.1 (y_L u.1.2.2.2.2.1) u.1.2.2.2.2.2 (K + 1) ln) (fun u t => va_P (dC, dI) y_cl ([(ot, .inl (ar 2, 1, .inr (.inl u.2)))] ++ y_W ad ar u.1.1 u.1.2.1 u.1.2.2.1 u.1.2.2.2.1 u.1.2.2.2.2.1) t.heap ∧ va_D (va_A ([(ot, .inl (ar 2, 1, .inr (.inl fo)))] ++ y_W ad ar I T A O pl) sz) ([(ot, .inl (ar 2, 1, .inr (.inl u.2)))] ++ y_W ad ar u.1.1 u.1.2.1 u.1.2.2.1 u.1.2.2.2.1 u.1.2.2.2.2.1) ∧ y_aE 110 35 (cq + cs) sz w0 (u.1.2.2.2.2.2.2.2.1 + u.1.2.2.2.2.2.2.2.2) t.heap) (va_A ([(ot, .inl (ar 2, 1, .inr (.inl fo)))] ++ y_W ad ar I T A O pl) sz)) ((2000 * (K + 1) + 14 - cq + (400 * (K + 1) + 12 - cs)) / 5 + 8) (4 * (2000 * (K + 1) + 14 - cq + (400 * (K + 1) + 12 - cs)) + 110) (va_A ([(ot, .inl (ar 2, 1, .inr (.inl fo)))] ++ y_W ad ar I T A O pl) sz) := by
  refine va_MetW (cc := method_6_code) (maxL := 4) (ret := (some .int)) (by decide) rfl ?_
  intro p e s m args below meth c s₁ B hml hv
  obtain ⟨rfl, hsz, hN0, hP, hU, hZ, hD0, hw0⟩ := hv
  have hK := hU.2.1
  have hx := B.exec
  have hb := B.bytes
  have hr := B.returns
  have hts : ∀ w ∈ x_T, w.before ([.ref (ad 0), .int vv, .ref ot] : List Value).toArray s = true := fun w h => atoms_spec (ws := (Jvm.Cond.codeWith ({ cls := "ChannelMachineLaw", name := "give", desc := "(LChannelMachine;I[J)I" } : Jvm.MethodName) method_6_code (4 : Nat) (Option.some Jvm.ClassFile.FieldType.int) [((0 : Nat), (9 : Nat), (12 : Nat), (15 : Nat))]) :: x_T) B.pre w (List.mem_cons_of_mem _ h)
  have hown : s.vm.findClass "ChannelMachineLaw" = some m.cls := findClass_of_methodNamed B.named
  have hlocks := B.notSynchronized
  subst hsz
  subst hw0
  have hD := hD0.self (sz := s.heap.size)
  have hAN := x_AN hD0 hN0
  generalize hAe : va_A ([(ot, .inl (ar 2, 1, .inr (.inl fo)))] ++ y_W ad ar I T A O pl) s.heap.size = Bq at hD hAN ⊢
  have hA : ∀ q : Nat, s.heap.size ≤ q → Bq q := fun q h => by rw [← hAe]; exact Or.inr h
  have hS : va_S Bq s.heap s.heap [] := va_S.rf
  have hl := lv_entry ([.ref (ad 0), .int vv, .ref ot]) (n := 4) (Nat.le_of_ble_eq_true rfl)
  rw [lg_entry_eq]
  generalize (lg_sl ([.ref (ad 0), .int vv, .ref ot]) ++ List.replicate (4 - (lg_sl ([.ref (ad 0), .int vv, .ref ot])).length) Slot.unset).toArray = ls at hl ⊢
  have hl : lv_has ls 4 [(0, .ref (ad 0)), (1, .int vv), (2, .ref ot)] := hl
  have htab := vx_table (x := ({ cls := "ChannelMachineLaw", name := "give", desc := "(LChannelMachine;I[J)I" } : Jvm.MethodName)) B (hts _ k_899)
  have hbn := hci.2.2.2
  dsimp only at hbn
  refine lv_aload_n hx hb d_La_give_0 rfl (lv_at hl 2 rfl) ?_
  refine lv_iconst (v := 0) hx hb d_La_give_1 (by decide) ?_
  refine lv_aload_n hx hb d_La_give_2 rfl (lv_at hl 0 rfl) ?_
  refine lv_iload_n hx hb d_La_give_3 rfl (lv_at hl 1 rfl) ?_
  have hPW := hP
  have hDW := hD
  have hP : va_P (dC, dI) y_cl (y_W ad ar I T A O pl) s.heap := (y_subP hPW).2
  have hD : va_D Bq (y_W ad ar I T A O pl) := (y_subD hDW).2
  refine y_know (fun hya1 hya2 hya3 hya4 => ?_)
  have hFc := y_free hD hS hA
  refine vx_calli (vx_runV (As := [.int vv]) (rest := [.int 0, .ref ot]) ⟨hx, hb, hml, hown, hts⟩ (c_C_give l hst dC dI ar N0 z ad I T A O pl G C Gs qn sn cq cs K ln (vv) s.heap.size (y_hs s.heap) hmi hK5 hci) (cwV 1 hts (x_goodV k_900 k_901 k_902 k_1 k_903) rfl rfl rfl (by decide +kernel) ⟨Nat.le_of_ble_eq_true rfl, Nat.le_of_ble_eq_true rfl⟩) ⟨y_blind, va_recv hK hP (ci := 5) (q0 := 0) rfl (y_W_ob (by decide) (by decide)), fun U9 hU9 hW9 => y_pre hU9 hW9 hP hD hU hZ hS hAN hN0⟩ rfl rfl hl.1 rfl (lv_room (Nat.le_of_ble_eq_true rfl)) d_La_give_4 ⟨(by show 0 + ((2000 * (K + 1) + 14 - cq + (400 * (K + 1) + 12 - cs)) / 5 + 8) ≤ (2000 * (K + 1) + 14 - cq + (400 * (K + 1) + 12 - cs)) / 5 + 8; omega), (by show 0 + (4 * (2000 * (K + 1) + 14 - cq + (400 * (K + 1) + 12 - cs)) + 110) ≤ 4 * (2000 * (K + 1) + 14 - cq + (400 * (K + 1) + 12 - cs)) + 110; omega)⟩) hS (fun q _ h => hFc q h) hFc (fun q h1 h2 => hFc q h2) (fun E ce q9 u t H1 locs ht hvm hpx hbx hz1 hk1 hS hce hcv hcl => ?_) (fun r_1 u t H1 locs ht hvm hw hB hz1 hk1 hS => ?_)
  · obtain ⟨I2, T2, A2, O2, pl2, q2, s2, cq2, cs2⟩ := u
    dsimp only at hpx hbx
    rw [ht] at hbx
    obtain ⟨hP, hD1, hac2⟩ := hbx
    have hD : va_D Bq (y_W ad ar I2 T2 A2 O2 pl2) := hD1.weaken (fun _ q _ h => hFc q.1 h)
    generalize H1 = H at hP hS hac2 hce hk1 hz1 ⊢
    obtain ⟨hE, hac2⟩ := hac2
    obtain ⟨hP, hD⟩ := y_jnR hPW hDW hk1 hFc hP hD1
    have hP : va_P (dC, dI) y_cl ([(ot, .inl (ar 2, 1, .inr (.inl fo)))] ++ y_W ad ar I2 T2 A2 O2 pl2) H := hP
    have hD : va_D Bq ([(ot, .inl (ar 2, 1, .inr (.inl fo)))] ++ y_W ad ar I2 T2 A2 O2 pl2) := hD
    have hco := hpx
    obtain rfl := hE
    refine vx_catch hown [] ⟨0, 9, 12, 15⟩ [] htab (fun z h => by cases h) (by decide) (by decide) (hts _ k_222) (va_Nw.use rfl (hU.1.2.1 _ kn_301)) hce hcv hcl ?_
    have hbc := y_CO.b hco
    unfold y_aE at hac2
    try dsimp only at hac2
    refine y_know (fun hyk1 hyk2 hyk3 hyk4 => ?_)
    have hcc1 : 4 * (cq + cs) ≤ 4 * (cq2 + cs2) + 110 := by omega
    have hcc2 : cq + cs ≤ cq2 + cs2 + 35 := by omega
    refine y_tight (k := (cq2 + cs2 + 35 - (cq + cs)) / 5) (n := 4 * (cq2 + cs2) + 110 - 4 * (cq + cs)) (by omega) (by omega) ?_
    refine lv_astore_n (lv' := [(3, .ref q9), (0, .ref (ad 0)), (1, .int vv), (2, .ref ot)]) hx hb d_La_give_12 rfl hl (by decide) rfl (fun ls hl => ?_)
    refine lv_iconst (v := 1) hx hb d_La_give_13 (by decide) ?_
    refine y_know (fun hy91 hy92 hy93 hy94 => ?_)
    have hac9 : y_aE 110 35 (cq + cs) s.heap.size (y_hs s.heap) (cq2 + cs2) H := ⟨by omega, by omega⟩
    refine W.widen (k := (2000 * (K + 1) + 14 - cq + (400 * (K + 1) + 12 - cs)) / 5 + 8) (n := 4 * (2000 * (K + 1) + 14 - cq + (400 * (K + 1) + 12 - cs)) + 110) (by omega) (by omega) ?_
    exact W.iret (v := 1) hx hb hr (fun t ht hW => ⟨⟨1, ((I2, T2, A2, O2, pl2, (q2, s2, cq2, cs2)), fo), rfl, hco, (by dsimp only; rw [ht]; exact ⟨hP, hD, hac9⟩)⟩, hS.F ht⟩) hS.2.2 d_La_give_14
  · obtain ⟨I3, T3, A3, O3, pl3, q3, s3, cq3, cs3⟩ := u
    dsimp only at hw hB
    rw [ht] at hB
    obtain ⟨hP, hD1, hac3⟩ := hB
    have hD : va_D Bq (y_W ad ar I3 T3 A3 O3 pl3) := hD1.weaken (fun _ q _ h => hFc q.1 h)
    generalize H1 = H at hP hS hac3 hk1 hz1 ⊢
    have hae3 := hac3
    try unfold y_ac at hae3
    try dsimp only at hae3
    obtain ⟨hP, hD⟩ := y_jnR hPW hDW hk1 hFc hP hD1
    have hP : va_P (dC, dI) y_cl ([(ot, .inl (ar 2, 1, .inr (.inl fo)))] ++ y_W ad ar I3 T3 A3 O3 pl3) H := hP
    have hD : va_D Bq ([(ot, .inl (ar 2, 1, .inr (.inl fo)))] ++ y_W ad ar I3 T3 A3 O3 pl3) := hD
    have hco := hw
    have hbc := y_CO.b hco
    unfold y_aE at hac3
    try dsimp only at hac3
    refine y_know (fun hyk1 hyk2 hyk3 hyk4 => ?_)
    have hcc1 : 4 * (cq + cs) ≤ 4 * (cq3 + cs3) + 110 := by omega
    have hcc2 : cq + cs ≤ cq3 + cs3 + 35 := by omega
    refine y_tight (k := (cq3 + cs3 + 35 - (cq + cs)) / 5) (n := 4 * (cq3 + cs3) + 110 - 4 * (cq + cs)) (by omega) (by omega) ?_
    refine lv_i2l (v := (Int32.toInt64 r_1)) hx hb d_La_give_7 rfl ?_
    refine va_last hx hb hK hP hD hS 0 2 rfl rfl (i := 0) (x := (Int32.toInt64 r_1)) (by unfold vp_in; decide) d_La_give_8 (fun H locs hP hD hS => ?_)
    obtain ⟨fo4, hP, hD, hf0⟩ : ∃ fo9 : Nat → Int64, va_P (dC, dI) y_cl ([(ot, .inl (ar 2, 1, .inr (.inl fo9)))] ++ y_W ad ar I3 T3 A3 O3 pl3) H ∧ va_D Bq ([(ot, .inl (ar 2, 1, .inr (.inl fo9)))] ++ y_W ad ar I3 T3 A3 O3 pl3) ∧ fo9 0 = (Int32.toInt64 r_1) := ⟨_, hP, hD, rfl⟩
    refine lv_goto (tgt := 15) hx hb d_La_give_9 (by decide) ?_
    refine lv_iconst (v := 0) hx hb d_La_give_15 (by decide) ?_
    refine y_know (fun hy91 hy92 hy93 hy94 => ?_)
    have hac9 : y_aE 110 35 (cq + cs) s.heap.size (y_hs s.heap) (cq3 + cs3) H := ⟨by omega, by omega⟩
    refine W.widen (k := (2000 * (K + 1) + 14 - cq + (400 * (K + 1) + 12 - cs)) / 5 + 8) (n := 4 * (2000 * (K + 1) + 14 - cq + (400 * (K + 1) + 12 - cs)) + 110) (by omega) (by omega) ?_
    exact W.iret (v := 0) hx hb hr (fun t ht hW => ⟨⟨0, ((I3, T3, A3, O3, pl3, (q3, s3, cq3, cs3)), fo4), rfl, hco, (by dsimp only; rw [ht]; exact ⟨hP, hD, hac9⟩)⟩, hS.F ht⟩) hS.2.2 d_La_give_16
set_option maxHeartbeats 4000000 in
set_option maxRecDepth 100000 in
theorem c_La_take (l : Launch) (hst : l.stackTraces = false) (dC : Nat → ClassId) (dI : Nat → Nat → Nat) (ar : Nat → ClassId) (N0 : Nat) (z : Nat → Nat) (ad : Nat → Nat) (I : Nat → Int32) (T : Int64) (A : Nat → Nat → Int32) (O : Nat → Option Nat) (pl : va_W) (G : Nat → Nat) (C Gs : Nat → List Nat) (qn sn cq cs : Nat) (K ln : Nat) (ot : Nat) (fo : Nat → Int64) (sz w0 : Nat) (hmi : y_MI z ar G C Gs I O (y_L pl) (qn, sn, cq, cs)) (hK5 : K ≤ 511) (hci : y_CR I (qn, sn, cq, cs) K ln) : Met l ({ cls := "ChannelMachineLaw", name := "take", desc := "(LChannelMachine;[J)I" } : Jvm.MethodName) ((Jvm.Cond.codeWith ({ cls := "ChannelMachineLaw", name := "take", desc := "(LChannelMachine;[J)I" } : Jvm.MethodName) method_7_code (3 : Nat) (Option.some Jvm.ClassFile.FieldType.int) [((0 : Nat), (8 : Nat), (11 : Nat), (33 : Nat))]) :: x_T) ({ frames := 10, cells := (2000 * (K + 1) + 14 - cq + (400 * (K + 1) + 12 - cs)) / 5 + 8, slots := 4 * (2000 * (K + 1) + 14 - cq + (400 * (K + 1) + 12 - cs)) + 110, locals := 254 }) (y_Pc (dC, dI) ar N0 z ([(ot, .inl (ar 2, 1, .inr (.inl fo)))] ++ y_W ad ar I T A O pl) sz w0 [.ref (ad 0), .ref ot]) (va_Qi (fun (r : Int32) (u : ((Nat → Int32) × Int64 × (Nat → Nat → Int32) × (Nat → Option Nat) × va_W × (Nat × Nat × Nat × Nat)) × (Nat → Int64)) => y_CO z ar u.1.1 u.1.2.2.2.1 (y_L u.1.2.2.2.2.1) u.1.2.2.2.2.2 (K + 1) ln) (fun u t => va_P (dC, dI) y_cl ([(ot, .inl (ar 2, 1, .inr (.inl u.2)))] ++ y_W ad ar u.1.1 u.1.2.1 u.1.2.2.1 u.1.2.2.2.1 u.1.2.2.2.2.1) t.heap ∧ va_D (va_A ([(ot, .inl (ar 2, 1, .inr (.inl fo)))] ++ y_W ad ar I T A O pl) sz) ([(ot, .inl (ar 2, 1, .inr (.inl u.2)))] ++ y_W ad ar u.1.1 u.1.2.1 u.1.2.2.1 u.1.2.2.2.1 u.1.2.2.2.2.1) ∧ y_aE 110 35 (cq + cs) sz w0 (u.1.2.2.2.2.2.2.2.1 + u.1.2.2.2.2.2.2.2.2) t.heap) (va_A ([(ot, .inl (ar 2, 1, .inr (.inl fo)))] ++ y_W ad ar I T A O pl) sz)) ((2000 * (K + 1) + 14 - cq + (400 * (K + 1) + 12 - cs)) / 5 + 8) (4 * (2000 * (K + 1) + 14 - cq + (400 * (K + 1) + 12 - cs)) + 110) (va_A ([(ot, .inl (ar 2, 1, .inr (.inl fo)))] ++ y_W ad ar I T A O pl) sz) := by
  refine va_MetW (cc := method_7_code) (maxL := 3) (ret := (some .int)) (by decide) rfl ?_
  intro p e s m args below meth c s₁ B hml hv
  obtain ⟨rfl, hsz, hN0, hP, hU, hZ, hD0, hw0⟩ := hv
  have hK := hU.2.1
  have hx := B.exec
  have hb := B.bytes
  have hr := B.returns
  have hts : ∀ w ∈ x_T, w.before ([.ref (ad 0), .ref ot] : List Value).toArray s = true := fun w h => atoms_spec (ws := (Jvm.Cond.codeWith ({ cls := "ChannelMachineLaw", name := "take", desc := "(LChannelMachine;[J)I" } : Jvm.MethodName) method_7_code (3 : Nat) (Option.some Jvm.ClassFile.FieldType.int) [((0 : Nat), (8 : Nat), (11 : Nat), (33 : Nat))]) :: x_T) B.pre w (List.mem_cons_of_mem _ h)
  have hown : s.vm.findClass "ChannelMachineLaw" = some m.cls := findClass_of_methodNamed B.named
  have hlocks := B.notSynchronized
  subst hsz
  subst hw0
  have hD := hD0.self (sz := s.heap.size)
  have hAN := x_AN hD0 hN0
  generalize hAe : va_A ([(ot, .inl (ar 2, 1, .inr (.inl fo)))] ++ y_W ad ar I T A O pl) s.heap.size = Bq at hD hAN ⊢
  have hA : ∀ q : Nat, s.heap.size ≤ q → Bq q := fun q h => by rw [← hAe]; exact Or.inr h
  have hS : va_S Bq s.heap s.heap [] := va_S.rf
  have hl := lv_entry ([.ref (ad 0), .ref ot]) (n := 3) (Nat.le_of_ble_eq_true rfl)
  rw [lg_entry_eq]
  generalize (lg_sl ([.ref (ad 0), .ref ot]) ++ List.replicate (3 - (lg_sl ([.ref (ad 0), .ref ot])).length) Slot.unset).toArray = ls at hl ⊢
  have hl : lv_has ls 3 [(0, .ref (ad 0)), (1, .ref ot)] := hl
  have htab := vx_table (x := ({ cls := "ChannelMachineLaw", name := "take", desc := "(LChannelMachine;[J)I" } : Jvm.MethodName)) B (hts _ k_912)
  have hbn := hci.2.2.2
  dsimp only at hbn
  refine lv_aload_n hx hb d_La_take_0 rfl (lv_at hl 1 rfl) ?_
  refine lv_iconst (v := 0) hx hb d_La_take_1 (by decide) ?_
  refine lv_aload_n hx hb d_La_take_2 rfl (lv_at hl 0 rfl) ?_
  have hPW := hP
  have hDW := hD
  have hP : va_P (dC, dI) y_cl (y_W ad ar I T A O pl) s.heap := (y_subP hPW).2
  have hD : va_D Bq (y_W ad ar I T A O pl) := (y_subD hDW).2
  refine y_know (fun hya1 hya2 hya3 hya4 => ?_)
  have hFc := y_free hD hS hA
  refine vx_calli (vx_runV (As := []) (rest := [.int 0, .ref ot]) ⟨hx, hb, hml, hown, hts⟩ (c_C_take l hst dC dI ar N0 z ad I T A O pl G C Gs qn sn cq cs K ln  s.heap.size (y_hs s.heap) hmi hK5 hci) (cwV 0 hts (x_goodV k_914 k_915 k_916 k_1 k_917) rfl rfl rfl (by decide +kernel) ⟨Nat.le_of_ble_eq_true rfl, Nat.le_of_ble_eq_true rfl⟩) ⟨y_blind, va_recv hK hP (ci := 5) (q0 := 0) rfl (y_W_ob (by decide) (by decide)), fun U9 hU9 hW9 => y_pre hU9 hW9 hP hD hU hZ hS hAN hN0⟩ rfl rfl hl.1 rfl (lv_room (Nat.le_of_ble_eq_true rfl)) d_La_take_3 ⟨(by show 0 + ((2000 * (K + 1) + 14 - cq + (400 * (K + 1) + 12 - cs)) / 5 + 8) ≤ (2000 * (K + 1) + 14 - cq + (400 * (K + 1) + 12 - cs)) / 5 + 8; omega), (by show 0 + (4 * (2000 * (K + 1) + 14 - cq + (400 * (K + 1) + 12 - cs)) + 110) ≤ 4 * (2000 * (K + 1) + 14 - cq + (400 * (K + 1) + 12 - cs)) + 110; omega)⟩) hS (fun q _ h => hFc q h) hFc (fun q h1 h2 => hFc q h2) (fun E ce q9 u t H1 locs ht hvm hpx hbx hz1 hk1 hS hce hcv hcl => ?_) (fun r_1 u t H1 locs ht hvm hw hB hz1 hk1 hS => ?_)
  · obtain ⟨I2, T2, A2, O2, pl2, q2, s2, cq2, cs2⟩ := u
    dsimp only at hpx hbx
    rw [ht] at hbx
    obtain ⟨hP, hD1, hac2⟩ := hbx
    have hD : va_D Bq (y_W ad ar I2 T2 A2 O2 pl2) := hD1.weaken (fun _ q _ h => hFc q.1 h)
    generalize H1 = H at hP hS hac2 hce hk1 hz1 ⊢
    obtain ⟨hE, hac2⟩ := hac2
    obtain ⟨hP, hD⟩ := y_jnR hPW hDW hk1 hFc hP hD1
    have hP : va_P (dC, dI) y_cl ([(ot, .inl (ar 2, 1, .inr (.inl fo)))] ++ y_W ad ar I2 T2 A2 O2 pl2) H := hP
    have hD : va_D Bq ([(ot, .inl (ar 2, 1, .inr (.inl fo)))] ++ y_W ad ar I2 T2 A2 O2 pl2) := hD
    have hco := hpx
    obtain rfl := hE
    refine vx_catch hown [] ⟨0, 8, 11, 33⟩ [] htab (fun z h => by cases h) (by decide) (by decide) (hts _ k_913) (va_Nw.use rfl (hU.1.2.1 _ kn_920)) hce hcv hcl ?_
    have hbc := y_CO.b hco
    unfold y_aE at hac2
    try dsimp only at hac2
    refine y_know (fun hyk1 hyk2 hyk3 hyk4 => ?_)
    have hcc1 : 4 * (cq + cs) ≤ 4 * (cq2 + cs2) + 110 := by omega
    have hcc2 : cq + cs ≤ cq2 + cs2 + 35 := by omega
    refine y_tight (k := (cq2 + cs2 + 35 - (cq + cs)) / 5) (n := 4 * (cq2 + cs2) + 110 - 4 * (cq + cs)) (by omega) (by omega) ?_
    refine lv_astore_n (lv' := [(2, .ref q9), (0, .ref (ad 0)), (1, .ref ot)]) hx hb d_La_take_11 rfl hl (by decide) rfl (fun ls hl => ?_)
    refine lv_iconst (v := 1) hx hb d_La_take_12 (by decide) ?_
    refine y_know (fun hy91 hy92 hy93 hy94 => ?_)
    have hac9 : y_aE 110 35 (cq + cs) s.heap.size (y_hs s.heap) (cq2 + cs2) H := ⟨by omega, by omega⟩
    refine W.widen (k := (2000 * (K + 1) + 14 - cq + (400 * (K + 1) + 12 - cs)) / 5 + 8) (n := 4 * (2000 * (K + 1) + 14 - cq + (400 * (K + 1) + 12 - cs)) + 110) (by omega) (by omega) ?_
    exact W.iret (v := 1) hx hb hr (fun t ht hW => ⟨⟨1, ((I2, T2, A2, O2, pl2, (q2, s2, cq2, cs2)), fo), rfl, hco, (by dsimp only; rw [ht]; exact ⟨hP, hD, hac9⟩)⟩, hS.F ht⟩) hS.2.2 d_La_take_13
  · obtain ⟨I3, T3, A3, O3, pl3, q3, s3, cq3, cs3⟩ := u
    dsimp only at hw hB
    rw [ht] at hB
    obtain ⟨hP, hD1, hac3⟩ := hB
    have hD : va_D Bq (y_W ad ar I3 T3 A3 O3 pl3) := hD1.weaken (fun _ q _ h => hFc q.1 h)
    generalize H1 = H at hP hS hac3 hk1 hz1 ⊢
    have hae3 := hac3
    try unfold y_ac at hae3
    try dsimp only at hae3
    obtain ⟨hP, hD⟩ := y_jnR hPW hDW hk1 hFc hP hD1
    have hP : va_P (dC, dI) y_cl ([(ot, .inl (ar 2, 1, .inr (.inl fo)))] ++ y_W ad ar I3 T3 A3 O3 pl3) H := hP
    have hD : va_D Bq ([(ot, .inl (ar 2, 1, .inr (.inl fo)))] ++ y_W ad ar I3 T3 A3 O3 pl3) := hD
    have hco := hw
    have hbc := y_CO.b hco
    unfold y_aE at hac3
    try dsimp only at hac3
    refine y_know (fun hyk1 hyk2 hyk3 hyk4 => ?_)
    have hcc1 : 4 * (cq + cs) ≤ 4 * (cq3 + cs3) + 110 := by omega
    have hcc2 : cq + cs ≤ cq3 + cs3 + 35 := by omega
    refine y_tight (k := (cq3 + cs3 + 35 - (cq + cs)) / 5) (n := 4 * (cq3 + cs3) + 110 - 4 * (cq + cs)) (by omega) (by omega) ?_
    refine lv_i2l (v := (Int32.toInt64 r_1)) hx hb d_La_take_6 rfl ?_
    refine va_last hx hb hK hP hD hS 0 2 rfl rfl (i := 0) (x := (Int32.toInt64 r_1)) (by unfold vp_in; decide) d_La_take_7 (fun H locs hP hD hS => ?_)
    obtain ⟨fo4, hP, hD, hf0⟩ : ∃ fo9 : Nat → Int64, va_P (dC, dI) y_cl ([(ot, .inl (ar 2, 1, .inr (.inl fo9)))] ++ y_W ad ar I3 T3 A3 O3 pl3) H ∧ va_D Bq ([(ot, .inl (ar 2, 1, .inr (.inl fo9)))] ++ y_W ad ar I3 T3 A3 O3 pl3) ∧ fo9 0 = (Int32.toInt64 r_1) := ⟨_, hP, hD, rfl⟩
    refine lv_goto (tgt := 14) hx hb d_La_take_8 (by decide) ?_
    refine lv_iconst (v := 0) hx hb d_La_take_14 (by decide) ?_
    refine y_know (fun hy91 hy92 hy93 hy94 => ?_)
    have hac9 : y_aE 110 35 (cq + cs) s.heap.size (y_hs s.heap) (cq3 + cs3) H := ⟨by omega, by omega⟩
    refine W.widen (k := (2000 * (K + 1) + 14 - cq + (400 * (K + 1) + 12 - cs)) / 5 + 8) (n := 4 * (2000 * (K + 1) + 14 - cq + (400 * (K + 1) + 12 - cs)) + 110) (by omega) (by omega) ?_
    exact W.iret (v := 0) hx hb hr (fun t ht hW => ⟨⟨0, ((I3, T3, A3, O3, pl3, (q3, s3, cq3, cs3)), fo4), rfl, hco, (by dsimp only; rw [ht]; exact ⟨hP, hD, hac9⟩)⟩, hS.F ht⟩) hS.2.2 d_La_take_15
set_option maxHeartbeats 4000000 in
set_option maxRecDepth 100000 in
theorem c_La_run (l : Launch) (hst : l.stackTraces = false) (dC : Nat → ClassId) (dI : Nat → Nat → Nat) (ar : Nat → ClassId) (N0 : Nat) (z : Nat → Nat) (ad : Nat → Nat) (I : Nat → Int32) (T : Int64) (A : Nat → Nat → Int32) (O : Nat → Option Nat) (pl : va_W) (G : Nat → Nat) (C Gs : Nat → List Nat) (qn sn cq cs : Nat) (K ln : Nat) (vv : Int32) (ot : Nat) (fo : Nat → Int64) (sz w0 : Nat) (hmi : y_MI z ar G C Gs I O (y_L pl) (qn, sn, cq, cs)) (hK5 : K ≤ 511) (hci : y_CR I (qn, sn, cq, cs) K ln) : Met l ({ cls := "ChannelMachineLaw", name := "run", desc := "(LChannelMachine;I[J)I" } : Jvm.MethodName) ((Jvm.Cond.codeWith ({ cls := "ChannelMachineLaw", name := "run", desc := "(LChannelMachine;I[J)I" } : Jvm.MethodName) method_5_code (4 : Nat) (Option.some Jvm.ClassFile.FieldType.int) [((0 : Nat), (9 : Nat), (12 : Nat), (13 : Nat)), ((0 : Nat), (9 : Nat), (15 : Nat), (15 : Nat)), ((0 : Nat), (9 : Nat), (18 : Nat), (25 : Nat))]) :: x_T) ({ frames := 14, cells := (2000 * (K + 1) + 14 - cq + (400 * (K + 1) + 12 - cs)) / 5 + 8, slots := 4 * (2000 * (K + 1) + 14 - cq + (400 * (K + 1) + 12 - cs)) + 110, locals := 345 }) (y_Pc (dC, dI) ar N0 z ([(ot, .inl (ar 2, 1, .inr (.inl fo)))] ++ y_W ad ar I T A O pl) sz w0 [.ref (ad 0), .int vv, .ref ot]) (va_Qi (fun (r : Int32) (u : ((Nat → Int32) × Int64 × (Nat → Nat → Int32) × (Nat → Option Nat) × va_W × (Nat × Nat × Nat × Nat)) × (Nat → Int64)) => y_CO z ar u.1.1 u.1.2.2.2.1 (y_L u.1.2.2.2.2.1) u.1.2.2.2.2.2 (K + 1) ln) (fun u t => va_P (dC, dI) y_cl ([(ot, .inl (ar 2, 1, .inr (.inl u.2)))] ++ y_W ad ar u.1.1 u.1.2.1 u.1.2.2.1 u.1.2.2.2.1 u.1.2.2.2.2.1) t.heap ∧ va_D (va_A ([(ot, .inl (ar 2, 1, .inr (.inl fo)))] ++ y_W ad ar I T A O pl) sz) ([(ot, .inl (ar 2, 1, .inr (.inl u.2)))] ++ y_W ad ar u.1.1 u.1.2.1 u.1.2.2.1 u.1.2.2.2.1 u.1.2.2.2.2.1) ∧ y_aE 110 35 (cq + cs) sz w0 (u.1.2.2.2.2.2.2.2.1 + u.1.2.2.2.2.2.2.2.2) t.heap) (va_A ([(ot, .inl (ar 2, 1, .inr (.inl fo)))] ++ y_W ad ar I T A O pl) sz)) ((2000 * (K + 1) + 14 - cq + (400 * (K + 1) + 12 - cs)) / 5 + 8) (4 * (2000 * (K + 1) + 14 - cq + (400 * (K + 1) + 12 - cs)) + 110) (va_A ([(ot, .inl (ar 2, 1, .inr (.inl fo)))] ++ y_W ad ar I T A O pl) sz) := by
  refine va_MetW (cc := method_5_code) (maxL := 4) (ret := (some .int)) (by decide) rfl ?_
  intro p e s m args below meth c s₁ B hml hv
  obtain ⟨rfl, hsz, hN0, hP, hU, hZ, hD0, hw0⟩ := hv
  have hK := hU.2.1
  have hx := B.exec
  have hb := B.bytes
  have hr := B.returns
  have hts : ∀ w ∈ x_T, w.before ([.ref (ad 0), .int vv, .ref ot] : List Value).toArray s = true := fun w h => atoms_spec (ws := (Jvm.Cond.codeWith ({ cls := "ChannelMachineLaw", name := "run", desc := "(LChannelMachine;I[J)I" } : Jvm.MethodName) method_5_code (4 : Nat) (Option.some Jvm.ClassFile.FieldType.int) [((0 : Nat), (9 : Nat), (12 : Nat), (13 : Nat)), ((0 : Nat), (9 : Nat), (15 : Nat), (15 : Nat)), ((0 : Nat), (9 : Nat), (18 : Nat), (25 : Nat))]) :: x_T) B.pre w (List.mem_cons_of_mem _ h)
  have hown : s.vm.findClass "ChannelMachineLaw" = some m.cls := findClass_of_methodNamed B.named
  have hlocks := B.notSynchronized
  subst hsz
  subst hw0
  have hD := hD0.self (sz := s.heap.size)
  have hAN := x_AN hD0 hN0
  generalize hAe : va_A ([(ot, .inl (ar 2, 1, .inr (.inl fo)))] ++ y_W ad ar I T A O pl) s.heap.size = Bq at hD hAN ⊢
  have hA : ∀ q : Nat, s.heap.size ≤ q → Bq q := fun q h => by rw [← hAe]; exact Or.inr h
  have hS : va_S Bq s.heap s.heap [] := va_S.rf
  have hl := lv_entry ([.ref (ad 0), .int vv, .ref ot]) (n := 4) (Nat.le_of_ble_eq_true rfl)
  rw [lg_entry_eq]
  generalize (lg_sl ([.ref (ad 0), .int vv, .ref ot]) ++ List.replicate (4 - (lg_sl ([.ref (ad 0), .int vv, .ref ot])).length) Slot.unset).toArray = ls at hl ⊢
  have hl : lv_has ls 4 [(0, .ref (ad 0)), (1, .int vv), (2, .ref ot)] := hl
  have htab := vx_table (x := ({ cls := "ChannelMachineLaw", name := "run", desc := "(LChannelMachine;I[J)I" } : Jvm.MethodName)) B (hts _ k_709)
  have hbn := hci.2.2.2
  dsimp only at hbn
  refine lv_aload_n hx hb d_La_run_0 rfl (lv_at hl 2 rfl) ?_
  refine lv_iconst (v := 0) hx hb d_La_run_1 (by decide) ?_
  refine lv_aload_n hx hb d_La_run_2 rfl (lv_at hl 0 rfl) ?_
  refine lv_iload_n hx hb d_La_run_3 rfl (lv_at hl 1 rfl) ?_
  have hPW := hP
  have hDW := hD
  have hP : va_P (dC, dI) y_cl (y_W ad ar I T A O pl) s.heap := (y_subP hPW).2
  have hD : va_D Bq (y_W ad ar I T A O pl) := (y_subD hDW).2
  refine y_know (fun hya1 hya2 hya3 hya4 => ?_)
  have hFc := y_free hD hS hA
  refine vx_calli (vx_runV (As := [.int vv]) (rest := [.int 0, .ref ot]) ⟨hx, hb, hml, hown, hts⟩ (c_C_run l hst dC dI ar N0 z ad I T A O pl G C Gs qn sn cq cs K ln (vv) s.heap.size (y_hs s.heap) hmi hK5 hci) (cwV 1 hts (x_goodV k_711 k_712 k_713 k_1 k_714) rfl rfl rfl (by decide +kernel) ⟨Nat.le_of_ble_eq_true rfl, Nat.le_of_ble_eq_true rfl⟩) ⟨y_blind, va_recv hK hP (ci := 5) (q0 := 0) rfl (y_W_ob (by decide) (by decide)), fun U9 hU9 hW9 => y_pre hU9 hW9 hP hD hU hZ hS hAN hN0⟩ rfl rfl hl.1 rfl (lv_room (Nat.le_of_ble_eq_true rfl)) d_La_run_4 ⟨(by show 0 + ((2000 * (K + 1) + 14 - cq + (400 * (K + 1) + 12 - cs)) / 5 + 8) ≤ (2000 * (K + 1) + 14 - cq + (400 * (K + 1) + 12 - cs)) / 5 + 8; omega), (by show 0 + (4 * (2000 * (K + 1) + 14 - cq + (400 * (K + 1) + 12 - cs)) + 110) ≤ 4 * (2000 * (K + 1) + 14 - cq + (400 * (K + 1) + 12 - cs)) + 110; omega)⟩) hS (fun q _ h => hFc q h) hFc (fun q h1 h2 => hFc q h2) (fun E ce q9 u t H1 locs ht hvm hpx hbx hz1 hk1 hS hce hcv hcl => ?_) (fun r_1 u t H1 locs ht hvm hw hB hz1 hk1 hS => ?_)
  · obtain ⟨I2, T2, A2, O2, pl2, q2, s2, cq2, cs2⟩ := u
    dsimp only at hpx hbx
    rw [ht] at hbx
    obtain ⟨hP, hD1, hac2⟩ := hbx
    have hD : va_D Bq (y_W ad ar I2 T2 A2 O2 pl2) := hD1.weaken (fun _ q _ h => hFc q.1 h)
    generalize H1 = H at hP hS hac2 hce hk1 hz1 ⊢
    obtain ⟨hE, hac2⟩ := hac2
    obtain ⟨hP, hD⟩ := y_jnR hPW hDW hk1 hFc hP hD1
    have hP : va_P (dC, dI) y_cl ([(ot, .inl (ar 2, 1, .inr (.inl fo)))] ++ y_W ad ar I2 T2 A2 O2 pl2) H := hP
    have hD : va_D Bq ([(ot, .inl (ar 2, 1, .inr (.inl fo)))] ++ y_W ad ar I2 T2 A2 O2 pl2) := hD
    have hco := hpx
    rcases hE with rfl | rfl | rfl
    · refine vx_catch hown [] ⟨0, 9, 12, 13⟩ [⟨0, 9, 15, 15⟩, ⟨0, 9, 18, 25⟩] htab (fun z h => by cases h) (by decide) (by decide) (hts _ k_221) (va_Nw.use rfl (hU.1.2.1 _ kn_232)) hce hcv hcl ?_
      have hbc := y_CO.b hco
      unfold y_aE at hac2
      try dsimp only at hac2
      refine y_know (fun hyk1 hyk2 hyk3 hyk4 => ?_)
      have hcc1 : 4 * (cq + cs) ≤ 4 * (cq2 + cs2) + 110 := by omega
      have hcc2 : cq + cs ≤ cq2 + cs2 + 35 := by omega
      refine y_tight (k := (cq2 + cs2 + 35 - (cq + cs)) / 5) (n := 4 * (cq2 + cs2) + 110 - 4 * (cq + cs)) (by omega) (by omega) ?_
      refine lv_astore_n (lv' := [(3, .ref q9), (0, .ref (ad 0)), (1, .int vv), (2, .ref ot)]) hx hb d_La_run_12 rfl hl (by decide) rfl (fun ls hl => ?_)
      refine lv_iconst (v := 1) hx hb d_La_run_13 (by decide) ?_
      refine y_know (fun hy91 hy92 hy93 hy94 => ?_)
      have hac9 : y_aE 110 35 (cq + cs) s.heap.size (y_hs s.heap) (cq2 + cs2) H := ⟨by omega, by omega⟩
      refine W.widen (k := (2000 * (K + 1) + 14 - cq + (400 * (K + 1) + 12 - cs)) / 5 + 8) (n := 4 * (2000 * (K + 1) + 14 - cq + (400 * (K + 1) + 12 - cs)) + 110) (by omega) (by omega) ?_
      exact W.iret (v := 1) hx hb hr (fun t ht hW => ⟨⟨1, ((I2, T2, A2, O2, pl2, (q2, s2, cq2, cs2)), fo), rfl, hco, (by dsimp only; rw [ht]; exact ⟨hP, hD, hac9⟩)⟩, hS.F ht⟩) hS.2.2 d_La_run_14
    · refine vx_catch hown [⟨0, 9, 12, 13⟩] ⟨0, 9, 15, 15⟩ [⟨0, 9, 18, 25⟩] htab (fun z h => by rcases List.mem_singleton.mp h with rfl; exact Or.inr ⟨by decide, "java/lang/IllegalArgumentException", hts _ k_221, hU.1.2.2.2.2.2⟩) (by decide) (by decide) (hts _ k_222) (va_Nw.use rfl (hU.1.2.1 _ kn_301)) hce hcv hcl ?_
      have hbc := y_CO.b hco
      unfold y_aE at hac2
      try dsimp only at hac2
      refine y_know (fun hyk1 hyk2 hyk3 hyk4 => ?_)
      have hcc1 : 4 * (cq + cs) ≤ 4 * (cq2 + cs2) + 110 := by omega
      have hcc2 : cq + cs ≤ cq2 + cs2 + 35 := by omega
      refine y_tight (k := (cq2 + cs2 + 35 - (cq + cs)) / 5) (n := 4 * (cq2 + cs2) + 110 - 4 * (cq + cs)) (by omega) (by omega) ?_
      refine lv_astore_n (lv' := [(3, .ref q9), (0, .ref (ad 0)), (1, .int vv), (2, .ref ot)]) hx hb d_La_run_15 rfl hl (by decide) rfl (fun ls hl => ?_)
      refine lv_iconst (v := 2) hx hb d_La_run_16 (by decide) ?_
      refine y_know (fun hy91 hy92 hy93 hy94 => ?_)
      have hac9 : y_aE 110 35 (cq + cs) s.heap.size (y_hs s.heap) (cq2 + cs2) H := ⟨by omega, by omega⟩
      refine W.widen (k := (2000 * (K + 1) + 14 - cq + (400 * (K + 1) + 12 - cs)) / 5 + 8) (n := 4 * (2000 * (K + 1) + 14 - cq + (400 * (K + 1) + 12 - cs)) + 110) (by omega) (by omega) ?_
      exact W.iret (v := 2) hx hb hr (fun t ht hW => ⟨⟨2, ((I2, T2, A2, O2, pl2, (q2, s2, cq2, cs2)), fo), rfl, hco, (by dsimp only; rw [ht]; exact ⟨hP, hD, hac9⟩)⟩, hS.F ht⟩) hS.2.2 d_La_run_17
    · refine vx_catch hown [⟨0, 9, 12, 13⟩, ⟨0, 9, 15, 15⟩] ⟨0, 9, 18, 25⟩ [] htab (fun z h => by rcases List.mem_cons.mp h with rfl | h; exact Or.inr ⟨by decide, "java/lang/IllegalArgumentException", hts _ k_221, hU.2.2.2.2.2.2.2.2.1⟩; rcases List.mem_singleton.mp h with rfl; exact Or.inr ⟨by decide, "java/lang/IllegalStateException", hts _ k_222, hU.2.2.2.2.2.2.2.2.2⟩) (by decide) (by decide) (hts _ k_710) (va_Nw.use rfl (hU.1.2.1 _ kn_801)) hce hcv hcl ?_
      have hbc := y_CO.b hco
      unfold y_aE at hac2
      try dsimp only at hac2
      refine y_know (fun hyk1 hyk2 hyk3 hyk4 => ?_)
      have hcc1 : 4 * (cq + cs) ≤ 4 * (cq2 + cs2) + 110 := by omega
      have hcc2 : cq + cs ≤ cq2 + cs2 + 35 := by omega
      refine y_tight (k := (cq2 + cs2 + 35 - (cq + cs)) / 5) (n := 4 * (cq2 + cs2) + 110 - 4 * (cq + cs)) (by omega) (by omega) ?_
      refine lv_astore_n (lv' := [(3, .ref q9), (0, .ref (ad 0)), (1, .int vv), (2, .ref ot)]) hx hb d_La_run_18 rfl hl (by decide) rfl (fun ls hl => ?_)
      refine lv_iconst (v := 3) hx hb d_La_run_19 (by decide) ?_
      refine y_know (fun hy91 hy92 hy93 hy94 => ?_)
      have hac9 : y_aE 110 35 (cq + cs) s.heap.size (y_hs s.heap) (cq2 + cs2) H := ⟨by omega, by omega⟩
      refine W.widen (k := (2000 * (K + 1) + 14 - cq + (400 * (K + 1) + 12 - cs)) / 5 + 8) (n := 4 * (2000 * (K + 1) + 14 - cq + (400 * (K + 1) + 12 - cs)) + 110) (by omega) (by omega) ?_
      exact W.iret (v := 3) hx hb hr (fun t ht hW => ⟨⟨3, ((I2, T2, A2, O2, pl2, (q2, s2, cq2, cs2)), fo), rfl, hco, (by dsimp only; rw [ht]; exact ⟨hP, hD, hac9⟩)⟩, hS.F ht⟩) hS.2.2 d_La_run_20
  · obtain ⟨I3, T3, A3, O3, pl3, q3, s3, cq3, cs3⟩ := u
    dsimp only at hw hB
    rw [ht] at hB
    obtain ⟨hP, hD1, hac3⟩ := hB
    have hD : va_D Bq (y_W ad ar I3 T3 A3 O3 pl3) := hD1.weaken (fun _ q _ h => hFc q.1 h)
    generalize H1 = H at hP hS hac3 hk1 hz1 ⊢
    have hae3 := hac3
    try unfold y_ac at hae3
    try dsimp only at hae3
    obtain ⟨hP, hD⟩ := y_jnR hPW hDW hk1 hFc hP hD1
    have hP : va_P (dC, dI) y_cl ([(ot, .inl (ar 2, 1, .inr (.inl fo)))] ++ y_W ad ar I3 T3 A3 O3 pl3) H := hP
    have hD : va_D Bq ([(ot, .inl (ar 2, 1, .inr (.inl fo)))] ++ y_W ad ar I3 T3 A3 O3 pl3) := hD
    have hco := hw
    have hbc := y_CO.b hco
    unfold y_aE at hac3
    try dsimp only at hac3
    refine y_know (fun hyk1 hyk2 hyk3 hyk4 => ?_)
    have hcc1 : 4 * (cq + cs) ≤ 4 * (cq3 + cs3) + 110 := by omega
    have hcc2 : cq + cs ≤ cq3 + cs3 + 35 := by omega
    refine y_tight (k := (cq3 + cs3 + 35 - (cq + cs)) / 5) (n := 4 * (cq3 + cs3) + 110 - 4 * (cq + cs)) (by omega) (by omega) ?_
    refine lv_i2l (v := (Int32.toInt64 r_1)) hx hb d_La_run_7 rfl ?_
    refine va_last hx hb hK hP hD hS 0 2 rfl rfl (i := 0) (x := (Int32.toInt64 r_1)) (by unfold vp_in; decide) d_La_run_8 (fun H locs hP hD hS => ?_)
    obtain ⟨fo4, hP, hD, hf0⟩ : ∃ fo9 : Nat → Int64, va_P (dC, dI) y_cl ([(ot, .inl (ar 2, 1, .inr (.inl fo9)))] ++ y_W ad ar I3 T3 A3 O3 pl3) H ∧ va_D Bq ([(ot, .inl (ar 2, 1, .inr (.inl fo9)))] ++ y_W ad ar I3 T3 A3 O3 pl3) ∧ fo9 0 = (Int32.toInt64 r_1) := ⟨_, hP, hD, rfl⟩
    refine lv_goto (tgt := 21) hx hb d_La_run_9 (by decide) ?_
    refine lv_iconst (v := 0) hx hb d_La_run_21 (by decide) ?_
    refine y_know (fun hy91 hy92 hy93 hy94 => ?_)
    have hac9 : y_aE 110 35 (cq + cs) s.heap.size (y_hs s.heap) (cq3 + cs3) H := ⟨by omega, by omega⟩
    refine W.widen (k := (2000 * (K + 1) + 14 - cq + (400 * (K + 1) + 12 - cs)) / 5 + 8) (n := 4 * (2000 * (K + 1) + 14 - cq + (400 * (K + 1) + 12 - cs)) + 110) (by omega) (by omega) ?_
    exact W.iret (v := 0) hx hb hr (fun t ht hW => ⟨⟨0, ((I3, T3, A3, O3, pl3, (q3, s3, cq3, cs3)), fo4), rfl, hco, (by dsimp only; rw [ht]; exact ⟨hP, hD, hac9⟩)⟩, hS.F ht⟩) hS.2.2 d_La_run_22
set_option maxHeartbeats 4000000 in
set_option maxRecDepth 100000 in
theorem c_La_load (l : Launch) (hst : l.stackTraces = false) (dC : Nat → ClassId) (dI : Nat → Nat → Nat) (ar : Nat → ClassId) (N0 : Nat) (z : Nat → Nat) (ad : Nat → Nat) (I : Nat → Int32) (T : Int64) (A : Nat → Nat → Int32) (O : Nat → Option Nat) (pl : va_W) (G : Nat → Nat) (C Gs : Nat → List Nat) (qn sn cq cs : Nat) (K ln : Nat) (ot : Nat) (fo : Nat → Int64) (sz w0 : Nat) (hmi : y_MI z ar G C Gs I O (y_L pl) (qn, sn, cq, cs)) (hK5 : K ≤ 511) (hci : y_CR I (qn, sn, cq, cs) K ln) : Met l ({ cls := "ChannelMachineLaw", name := "load", desc := "(LChannelMachine;[J)I" } : Jvm.MethodName) ((Jvm.Cond.codeWith ({ cls := "ChannelMachineLaw", name := "load", desc := "(LChannelMachine;[J)I" } : Jvm.MethodName) method_4_code (3 : Nat) (Option.some Jvm.ClassFile.FieldType.int) [((0 : Nat), (8 : Nat), (11 : Nat), (13 : Nat))]) :: x_T) ({ frames := 58, cells := (2000 * K + 14 - cq + (400 * K + 12 - cs)) / 5 + 240, slots := 4 * (2000 * K + 14 - cq + (400 * K + 12 - cs)) + 7500, locals := 2245 }) (y_Pc (dC, dI) ar N0 z ([(ot, .inl (ar 2, 1, .inr (.inl fo)))] ++ y_W ad ar I T A O pl) sz w0 [.ref (ad 0), .ref ot]) (va_Qi (fun (r : Int32) (u : ((Nat → Int32) × Int64 × (Nat → Nat → Int32) × (Nat → Option Nat) × va_W × (Nat × Nat × Nat × Nat)) × (Nat → Int64)) => y_CO z ar u.1.1 u.1.2.2.2.1 (y_L u.1.2.2.2.2.1) u.1.2.2.2.2.2 K 0) (fun u t => va_P (dC, dI) y_cl ([(ot, .inl (ar 2, 1, .inr (.inl u.2)))] ++ y_W ad ar u.1.1 u.1.2.1 u.1.2.2.1 u.1.2.2.2.1 u.1.2.2.2.2.1) t.heap ∧ va_D (va_A ([(ot, .inl (ar 2, 1, .inr (.inl fo)))] ++ y_W ad ar I T A O pl) sz) ([(ot, .inl (ar 2, 1, .inr (.inl u.2)))] ++ y_W ad ar u.1.1 u.1.2.1 u.1.2.2.1 u.1.2.2.2.1 u.1.2.2.2.2.1) ∧ y_aE 7400 1200 (cq + cs) sz w0 (u.1.2.2.2.2.2.2.2.1 + u.1.2.2.2.2.2.2.2.2) t.heap) (va_A ([(ot, .inl (ar 2, 1, .inr (.inl fo)))] ++ y_W ad ar I T A O pl) sz)) ((2000 * K + 14 - cq + (400 * K + 12 - cs)) / 5 + 240) (4 * (2000 * K + 14 - cq + (400 * K + 12 - cs)) + 7500) (va_A ([(ot, .inl (ar 2, 1, .inr (.inl fo)))] ++ y_W ad ar I T A O pl) sz) := by
  refine va_MetW (cc := method_4_code) (maxL := 3) (ret := (some .int)) (by decide) rfl ?_
  intro p e s m args below meth c s₁ B hml hv
  obtain ⟨rfl, hsz, hN0, hP, hU, hZ, hD0, hw0⟩ := hv
  have hK := hU.2.1
  have hx := B.exec
  have hb := B.bytes
  have hr := B.returns
  have hts : ∀ w ∈ x_T, w.before ([.ref (ad 0), .ref ot] : List Value).toArray s = true := fun w h => atoms_spec (ws := (Jvm.Cond.codeWith ({ cls := "ChannelMachineLaw", name := "load", desc := "(LChannelMachine;[J)I" } : Jvm.MethodName) method_4_code (3 : Nat) (Option.some Jvm.ClassFile.FieldType.int) [((0 : Nat), (8 : Nat), (11 : Nat), (13 : Nat))]) :: x_T) B.pre w (List.mem_cons_of_mem _ h)
  have hown : s.vm.findClass "ChannelMachineLaw" = some m.cls := findClass_of_methodNamed B.named
  have hlocks := B.notSynchronized
  subst hsz
  subst hw0
  have hD := hD0.self (sz := s.heap.size)
  have hAN := x_AN hD0 hN0
  generalize hAe : va_A ([(ot, .inl (ar 2, 1, .inr (.inl fo)))] ++ y_W ad ar I T A O pl) s.heap.size = Bq at hD hAN ⊢
  have hA : ∀ q : Nat, s.heap.size ≤ q → Bq q := fun q h => by rw [← hAe]; exact Or.inr h
  have hS : va_S Bq s.heap s.heap [] := va_S.rf
  have hl := lv_entry ([.ref (ad 0), .ref ot]) (n := 3) (Nat.le_of_ble_eq_true rfl)
  rw [lg_entry_eq]
  generalize (lg_sl ([.ref (ad 0), .ref ot]) ++ List.replicate (3 - (lg_sl ([.ref (ad 0), .ref ot])).length) Slot.unset).toArray = ls at hl ⊢
  have hl : lv_has ls 3 [(0, .ref (ad 0)), (1, .ref ot)] := hl
  have htab := vx_table (x := ({ cls := "ChannelMachineLaw", name := "load", desc := "(LChannelMachine;[J)I" } : Jvm.MethodName)) B (hts _ k_321)
  have hbn := hci.2.2.2
  dsimp only at hbn
  refine lv_aload_n hx hb d_La_load_0 rfl (lv_at hl 1 rfl) ?_
  refine lv_iconst (v := 0) hx hb d_La_load_1 (by decide) ?_
  refine lv_aload_n hx hb d_La_load_2 rfl (lv_at hl 0 rfl) ?_
  have hPW := hP
  have hDW := hD
  have hP : va_P (dC, dI) y_cl (y_W ad ar I T A O pl) s.heap := (y_subP hPW).2
  have hD : va_D Bq (y_W ad ar I T A O pl) := (y_subD hDW).2
  refine y_know (fun hya1 hya2 hya3 hya4 => ?_)
  have hFc := y_free hD hS hA
  refine vx_calli (vx_runV (As := []) (rest := [.int 0, .ref ot]) ⟨hx, hb, hml, hown, hts⟩ (c_C_load l hst dC dI ar N0 z ad I T A O pl G C Gs qn sn cq cs K ln  s.heap.size (y_hs s.heap) hmi hK5 hci) (cwV 0 hts (x_goodV k_322 k_323 k_324 k_1 k_325) rfl rfl rfl (by decide +kernel) ⟨Nat.le_of_ble_eq_true rfl, Nat.le_of_ble_eq_true rfl⟩) ⟨y_blind, va_recv hK hP (ci := 5) (q0 := 0) rfl (y_W_ob (by decide) (by decide)), fun U9 hU9 hW9 => y_pre hU9 hW9 hP hD hU hZ hS hAN hN0⟩ rfl rfl hl.1 rfl (lv_room (Nat.le_of_ble_eq_true rfl)) d_La_load_3 ⟨(by show 0 + ((2000 * K + 14 - cq + (400 * K + 12 - cs)) / 5 + 240) ≤ (2000 * K + 14 - cq + (400 * K + 12 - cs)) / 5 + 240; omega), (by show 0 + (4 * (2000 * K + 14 - cq + (400 * K + 12 - cs)) + 7500) ≤ 4 * (2000 * K + 14 - cq + (400 * K + 12 - cs)) + 7500; omega)⟩) hS (fun q _ h => hFc q h) hFc (fun q h1 h2 => hFc q h2) (fun E ce q9 u t H1 locs ht hvm hpx hbx hz1 hk1 hS hce hcv hcl => ?_) (fun r_1 u t H1 locs ht hvm hw hB hz1 hk1 hS => ?_)
  · obtain ⟨I2, T2, A2, O2, pl2, q2, s2, cq2, cs2⟩ := u
    dsimp only at hpx hbx
    rw [ht] at hbx
    obtain ⟨hP, hD1, hac2⟩ := hbx
    have hD : va_D Bq (y_W ad ar I2 T2 A2 O2 pl2) := hD1.weaken (fun _ q _ h => hFc q.1 h)
    generalize H1 = H at hP hS hac2 hce hk1 hz1 ⊢
    obtain ⟨hE, hac2⟩ := hac2
    obtain ⟨hP, hD⟩ := y_jnR hPW hDW hk1 hFc hP hD1
    have hP : va_P (dC, dI) y_cl ([(ot, .inl (ar 2, 1, .inr (.inl fo)))] ++ y_W ad ar I2 T2 A2 O2 pl2) H := hP
    have hD : va_D Bq ([(ot, .inl (ar 2, 1, .inr (.inl fo)))] ++ y_W ad ar I2 T2 A2 O2 pl2) := hD
    have hco := hpx
    obtain rfl := hE
    refine vx_catch hown [] ⟨0, 8, 11, 13⟩ [] htab (fun z h => by cases h) (by decide) (by decide) (hts _ k_221) (va_Nw.use rfl (hU.1.2.1 _ kn_232)) hce hcv hcl ?_
    have hbc := y_CO.b hco
    unfold y_aE at hac2
    try dsimp only at hac2
    refine y_know (fun hyk1 hyk2 hyk3 hyk4 => ?_)
    have hcc1 : 4 * (cq + cs) ≤ 4 * (cq2 + cs2) + 7400 := by omega
    have hcc2 : cq + cs ≤ cq2 + cs2 + 1200 := by omega
    refine y_tight (k := (cq2 + cs2 + 1200 - (cq + cs)) / 5) (n := 4 * (cq2 + cs2) + 7400 - 4 * (cq + cs)) (by omega) (by omega) ?_
    refine lv_astore_n (lv' := [(2, .ref q9), (0, .ref (ad 0)), (1, .ref ot)]) hx hb d_La_load_11 rfl hl (by decide) rfl (fun ls hl => ?_)
    refine lv_iconst (v := 1) hx hb d_La_load_12 (by decide) ?_
    refine y_know (fun hy91 hy92 hy93 hy94 => ?_)
    have hac9 : y_aE 7400 1200 (cq + cs) s.heap.size (y_hs s.heap) (cq2 + cs2) H := ⟨by omega, by omega⟩
    refine W.widen (k := (2000 * K + 14 - cq + (400 * K + 12 - cs)) / 5 + 240) (n := 4 * (2000 * K + 14 - cq + (400 * K + 12 - cs)) + 7500) (by omega) (by omega) ?_
    exact W.iret (v := 1) hx hb hr (fun t ht hW => ⟨⟨1, ((I2, T2, A2, O2, pl2, (q2, s2, cq2, cs2)), fo), rfl, hco, (by dsimp only; rw [ht]; exact ⟨hP, hD, hac9⟩)⟩, hS.F ht⟩) hS.2.2 d_La_load_13
  · obtain ⟨I3, T3, A3, O3, pl3, q3, s3, cq3, cs3⟩ := u
    dsimp only at hw hB
    rw [ht] at hB
    obtain ⟨hP, hD1, hac3⟩ := hB
    have hD : va_D Bq (y_W ad ar I3 T3 A3 O3 pl3) := hD1.weaken (fun _ q _ h => hFc q.1 h)
    generalize H1 = H at hP hS hac3 hk1 hz1 ⊢
    have hae3 := hac3
    try unfold y_ac at hae3
    try dsimp only at hae3
    obtain ⟨hP, hD⟩ := y_jnR hPW hDW hk1 hFc hP hD1
    have hP : va_P (dC, dI) y_cl ([(ot, .inl (ar 2, 1, .inr (.inl fo)))] ++ y_W ad ar I3 T3 A3 O3 pl3) H := hP
    have hD : va_D Bq ([(ot, .inl (ar 2, 1, .inr (.inl fo)))] ++ y_W ad ar I3 T3 A3 O3 pl3) := hD
    have hco := hw
    have hbc := y_CO.b hco
    unfold y_aE at hac3
    try dsimp only at hac3
    refine y_know (fun hyk1 hyk2 hyk3 hyk4 => ?_)
    have hcc1 : 4 * (cq + cs) ≤ 4 * (cq3 + cs3) + 7400 := by omega
    have hcc2 : cq + cs ≤ cq3 + cs3 + 1200 := by omega
    refine y_tight (k := (cq3 + cs3 + 1200 - (cq + cs)) / 5) (n := 4 * (cq3 + cs3) + 7400 - 4 * (cq + cs)) (by omega) (by omega) ?_
    refine lv_i2l (v := (Int32.toInt64 r_1)) hx hb d_La_load_6 rfl ?_
    refine va_last hx hb hK hP hD hS 0 2 rfl rfl (i := 0) (x := (Int32.toInt64 r_1)) (by unfold vp_in; decide) d_La_load_7 (fun H locs hP hD hS => ?_)
    obtain ⟨fo4, hP, hD, hf0⟩ : ∃ fo9 : Nat → Int64, va_P (dC, dI) y_cl ([(ot, .inl (ar 2, 1, .inr (.inl fo9)))] ++ y_W ad ar I3 T3 A3 O3 pl3) H ∧ va_D Bq ([(ot, .inl (ar 2, 1, .inr (.inl fo9)))] ++ y_W ad ar I3 T3 A3 O3 pl3) ∧ fo9 0 = (Int32.toInt64 r_1) := ⟨_, hP, hD, rfl⟩
    refine lv_goto (tgt := 14) hx hb d_La_load_8 (by decide) ?_
    refine lv_iconst (v := 0) hx hb d_La_load_14 (by decide) ?_
    refine y_know (fun hy91 hy92 hy93 hy94 => ?_)
    have hac9 : y_aE 7400 1200 (cq + cs) s.heap.size (y_hs s.heap) (cq3 + cs3) H := ⟨by omega, by omega⟩
    refine W.widen (k := (2000 * K + 14 - cq + (400 * K + 12 - cs)) / 5 + 240) (n := 4 * (2000 * K + 14 - cq + (400 * K + 12 - cs)) + 7500) (by omega) (by omega) ?_
    exact W.iret (v := 0) hx hb hr (fun t ht hW => ⟨⟨0, ((I3, T3, A3, O3, pl3, (q3, s3, cq3, cs3)), fo4), rfl, hco, (by dsimp only; rw [ht]; exact ⟨hP, hD, hac9⟩)⟩, hS.F ht⟩) hS.2.2 d_La_load_15
set_option maxHeartbeats 4000000 in
set_option maxRecDepth 100000 in
theorem c_La_type (l : Launch) (hst : l.stackTraces = false) (dC : Nat → ClassId) (dI : Nat → Nat → Nat) (ar : Nat → ClassId) (N0 : Nat) (z : Nat → Nat) (ad : Nat → Nat) (I : Nat → Int32) (T : Int64) (A : Nat → Nat → Int32) (O : Nat → Option Nat) (pl : va_W) (G : Nat → Nat) (C Gs : Nat → List Nat) (qn sn cq cs : Nat) (K ln : Nat) (eg : Int64) (ot : Nat) (fo : Nat → Int64) (sz w0 : Nat) (hmi : y_MI z ar G C Gs I O (y_L pl) (qn, sn, cq, cs)) (hK5 : K ≤ 511) (hci : y_CR I (qn, sn, cq, cs) K ln) : Met l ({ cls := "ChannelMachineLaw", name := "type", desc := "(LChannelMachine;J[J)I" } : Jvm.MethodName) ((Jvm.Cond.codeWith ({ cls := "ChannelMachineLaw", name := "type", desc := "(LChannelMachine;J[J)I" } : Jvm.MethodName) method_3_code (5 : Nat) (Option.some Jvm.ClassFile.FieldType.int) [((0 : Nat), (9 : Nat), (12 : Nat), (13 : Nat)), ((0 : Nat), (9 : Nat), (16 : Nat), (15 : Nat))]) :: x_T) ({ frames := 7, cells := (2000 * (K + 1) + 14 - cq + (400 * (K + 1) + 12 - cs)) / 5 + 8, slots := 4 * (2000 * (K + 1) + 14 - cq + (400 * (K + 1) + 12 - cs)) + 110, locals := 109 }) (y_Pc (dC, dI) ar N0 z ([(ot, .inl (ar 2, 1, .inr (.inl fo)))] ++ y_W ad ar I T A O pl) sz w0 [.ref (ad 0), .long eg, .ref ot]) (va_Qi (fun (r : Int32) (u : ((Nat → Int32) × Int64 × (Nat → Nat → Int32) × (Nat → Option Nat) × va_W × (Nat × Nat × Nat × Nat)) × (Nat → Int64)) => (x_okk eg 8 ∧ ln + x_cN eg 8 ≤ 72 ∧ r = 0 ∧ u.2 0 = Int32.toInt64 (Int32.ofNat (ln + x_cN eg 8)) ∧ y_CO z ar u.1.1 u.1.2.2.2.1 (y_L u.1.2.2.2.2.1) u.1.2.2.2.2.2 (K + 1) (ln + x_cN eg 8)) ∨ (¬ x_okk eg 8 ∧ r = 1 ∧ y_CO z ar u.1.1 u.1.2.2.2.1 (y_L u.1.2.2.2.2.1) u.1.2.2.2.2.2 (K + 1) ln) ∨ (x_okk eg 8 ∧ 72 < ln + x_cN eg 8 ∧ r = 2 ∧ y_CO z ar u.1.1 u.1.2.2.2.1 (y_L u.1.2.2.2.2.1) u.1.2.2.2.2.2 (K + 1) ln)) (fun u t => va_P (dC, dI) y_cl ([(ot, .inl (ar 2, 1, .inr (.inl u.2)))] ++ y_W ad ar u.1.1 u.1.2.1 u.1.2.2.1 u.1.2.2.2.1 u.1.2.2.2.2.1) t.heap ∧ va_D (va_A ([(ot, .inl (ar 2, 1, .inr (.inl fo)))] ++ y_W ad ar I T A O pl) sz) ([(ot, .inl (ar 2, 1, .inr (.inl u.2)))] ++ y_W ad ar u.1.1 u.1.2.1 u.1.2.2.1 u.1.2.2.2.1 u.1.2.2.2.2.1) ∧ y_aE 110 35 (cq + cs) sz w0 (u.1.2.2.2.2.2.2.2.1 + u.1.2.2.2.2.2.2.2.2) t.heap) (va_A ([(ot, .inl (ar 2, 1, .inr (.inl fo)))] ++ y_W ad ar I T A O pl) sz)) ((2000 * (K + 1) + 14 - cq + (400 * (K + 1) + 12 - cs)) / 5 + 8) (4 * (2000 * (K + 1) + 14 - cq + (400 * (K + 1) + 12 - cs)) + 110) (va_A ([(ot, .inl (ar 2, 1, .inr (.inl fo)))] ++ y_W ad ar I T A O pl) sz) := by
  refine va_MetW (cc := method_3_code) (maxL := 5) (ret := (some .int)) (by decide) rfl ?_
  intro p e s m args below meth c s₁ B hml hv
  obtain ⟨rfl, hsz, hN0, hP, hU, hZ, hD0, hw0⟩ := hv
  have hK := hU.2.1
  have hx := B.exec
  have hb := B.bytes
  have hr := B.returns
  have hts : ∀ w ∈ x_T, w.before ([.ref (ad 0), .long eg, .ref ot] : List Value).toArray s = true := fun w h => atoms_spec (ws := (Jvm.Cond.codeWith ({ cls := "ChannelMachineLaw", name := "type", desc := "(LChannelMachine;J[J)I" } : Jvm.MethodName) method_3_code (5 : Nat) (Option.some Jvm.ClassFile.FieldType.int) [((0 : Nat), (9 : Nat), (12 : Nat), (13 : Nat)), ((0 : Nat), (9 : Nat), (16 : Nat), (15 : Nat))]) :: x_T) B.pre w (List.mem_cons_of_mem _ h)
  have hown : s.vm.findClass "ChannelMachineLaw" = some m.cls := findClass_of_methodNamed B.named
  have hlocks := B.notSynchronized
  subst hsz
  subst hw0
  have hD := hD0.self (sz := s.heap.size)
  have hAN := x_AN hD0 hN0
  generalize hAe : va_A ([(ot, .inl (ar 2, 1, .inr (.inl fo)))] ++ y_W ad ar I T A O pl) s.heap.size = Bq at hD hAN ⊢
  have hA : ∀ q : Nat, s.heap.size ≤ q → Bq q := fun q h => by rw [← hAe]; exact Or.inr h
  have hS : va_S Bq s.heap s.heap [] := va_S.rf
  have hl := lv_entry ([.ref (ad 0), .long eg, .ref ot]) (n := 5) (Nat.le_of_ble_eq_true rfl)
  rw [lg_entry_eq]
  generalize (lg_sl ([.ref (ad 0), .long eg, .ref ot]) ++ List.replicate (5 - (lg_sl ([.ref (ad 0), .long eg, .ref ot])).length) Slot.unset).toArray = ls at hl ⊢
  have hl : lv_has ls 5 [(0, .ref (ad 0)), (1, .long eg), (3, .ref ot)] := hl
  have htab := vx_table (x := ({ cls := "ChannelMachineLaw", name := "type", desc := "(LChannelMachine;J[J)I" } : Jvm.MethodName)) B (hts _ k_220)
  have hbn := hci.2.2.2
  dsimp only at hbn
  refine lv_aload_n hx hb d_La_type_0 rfl (lv_at hl 2 rfl) ?_
  refine lv_iconst (v := 0) hx hb d_La_type_1 (by decide) ?_
  refine lv_aload_n hx hb d_La_type_2 rfl (lv_at hl 0 rfl) ?_
  refine lv_lload_n hx hb d_La_type_3 rfl (lv_at hl 1 rfl) ?_
  have hPW := hP
  have hDW := hD
  have hP : va_P (dC, dI) y_cl (y_W ad ar I T A O pl) s.heap := (y_subP hPW).2
  have hD : va_D Bq (y_W ad ar I T A O pl) := (y_subD hDW).2
  refine y_know (fun hya1 hya2 hya3 hya4 => ?_)
  have hFc := y_free hD hS hA
  refine vx_calli (vx_runV (As := [.long eg]) (rest := [.int 0, .ref ot]) ⟨hx, hb, hml, hown, hts⟩ (c_C_type l hst dC dI ar N0 z ad I T A O pl G C Gs qn sn cq cs K ln (eg) s.heap.size (y_hs s.heap) hmi hK5 hci) (cwV 1 hts (x_goodV k_223 k_224 k_225 k_1 k_226) rfl rfl rfl (by decide +kernel) ⟨Nat.le_of_ble_eq_true rfl, Nat.le_of_ble_eq_true rfl⟩) ⟨y_blind, va_recv hK hP (ci := 5) (q0 := 0) rfl (y_W_ob (by decide) (by decide)), fun U9 hU9 hW9 => y_pre hU9 hW9 hP hD hU hZ hS hAN hN0⟩ rfl rfl hl.1 rfl (lv_room (Nat.le_of_ble_eq_true rfl)) d_La_type_4 ⟨(by show 0 + ((2000 * (K + 1) + 14 - cq + (400 * (K + 1) + 12 - cs)) / 5 + 8) ≤ (2000 * (K + 1) + 14 - cq + (400 * (K + 1) + 12 - cs)) / 5 + 8; omega), (by show 0 + (4 * (2000 * (K + 1) + 14 - cq + (400 * (K + 1) + 12 - cs)) + 110) ≤ 4 * (2000 * (K + 1) + 14 - cq + (400 * (K + 1) + 12 - cs)) + 110; omega)⟩) hS (fun q _ h => hFc q h) hFc (fun q h1 h2 => hFc q h2) (fun E ce q9 u t H1 locs ht hvm hpx hbx hz1 hk1 hS hce hcv hcl => ?_) (fun r_1 u t H1 locs ht hvm hw hB hz1 hk1 hS => ?_)
  · obtain ⟨I2, T2, A2, O2, pl2, q2, s2, cq2, cs2⟩ := u
    dsimp only at hpx hbx
    rw [ht] at hbx
    obtain ⟨hP, hD1, hac2⟩ := hbx
    have hD : va_D Bq (y_W ad ar I2 T2 A2 O2 pl2) := hD1.weaken (fun _ q _ h => hFc q.1 h)
    generalize H1 = H at hP hS hac2 hce hk1 hz1 ⊢
    obtain ⟨hE, hac2⟩ := hac2
    obtain ⟨hP, hD⟩ := y_jnR hPW hDW hk1 hFc hP hD1
    have hP : va_P (dC, dI) y_cl ([(ot, .inl (ar 2, 1, .inr (.inl fo)))] ++ y_W ad ar I2 T2 A2 O2 pl2) H := hP
    have hD : va_D Bq ([(ot, .inl (ar 2, 1, .inr (.inl fo)))] ++ y_W ad ar I2 T2 A2 O2 pl2) := hD
    have hco := hpx
    rcases hE with ⟨rfl, hb9⟩ | ⟨rfl, hb9⟩
    · refine vx_catch hown [] ⟨0, 9, 12, 13⟩ [⟨0, 9, 16, 15⟩] htab (fun z h => by cases h) (by decide) (by decide) (hts _ k_221) (va_Nw.use rfl (hU.1.2.1 _ kn_232)) hce hcv hcl ?_
      have hbc := y_CO.b hco
      unfold y_aE at hac2
      try dsimp only at hac2
      refine y_know (fun hyk1 hyk2 hyk3 hyk4 => ?_)
      have hcc1 : 4 * (cq + cs) ≤ 4 * (cq2 + cs2) + 110 := by omega
      have hcc2 : cq + cs ≤ cq2 + cs2 + 35 := by omega
      refine y_tight (k := (cq2 + cs2 + 35 - (cq + cs)) / 5) (n := 4 * (cq2 + cs2) + 110 - 4 * (cq + cs)) (by omega) (by omega) ?_
      refine lv_astore (lv' := [(4, .ref q9), (0, .ref (ad 0)), (1, .long eg), (3, .ref ot)]) hx hb d_La_type_12 hl (by decide) rfl (fun ls hl => ?_)
      refine lv_iconst (v := 1) hx hb d_La_type_14 (by decide) ?_
      refine y_know (fun hy91 hy92 hy93 hy94 => ?_)
      have hac9 : y_aE 110 35 (cq + cs) s.heap.size (y_hs s.heap) (cq2 + cs2) H := ⟨by omega, by omega⟩
      refine W.widen (k := (2000 * (K + 1) + 14 - cq + (400 * (K + 1) + 12 - cs)) / 5 + 8) (n := 4 * (2000 * (K + 1) + 14 - cq + (400 * (K + 1) + 12 - cs)) + 110) (by omega) (by omega) ?_
      exact W.iret (v := 1) hx hb hr (fun t ht hW => ⟨⟨1, ((I2, T2, A2, O2, pl2, (q2, s2, cq2, cs2)), fo), rfl, Or.inr (Or.inl ⟨hb9, rfl, hco⟩), (by dsimp only; rw [ht]; exact ⟨hP, hD, hac9⟩)⟩, hS.F ht⟩) hS.2.2 d_La_type_15
    · refine vx_catch hown [⟨0, 9, 12, 13⟩] ⟨0, 9, 16, 15⟩ [] htab (fun z h => by rcases List.mem_singleton.mp h with rfl; exact Or.inr ⟨by decide, "java/lang/IllegalArgumentException", hts _ k_221, hU.1.2.2.2.2.2⟩) (by decide) (by decide) (hts _ k_222) (va_Nw.use rfl (hU.1.2.1 _ kn_301)) hce hcv hcl ?_
      have hbc := y_CO.b hco
      unfold y_aE at hac2
      try dsimp only at hac2
      refine y_know (fun hyk1 hyk2 hyk3 hyk4 => ?_)
      have hcc1 : 4 * (cq + cs) ≤ 4 * (cq2 + cs2) + 110 := by omega
      have hcc2 : cq + cs ≤ cq2 + cs2 + 35 := by omega
      refine y_tight (k := (cq2 + cs2 + 35 - (cq + cs)) / 5) (n := 4 * (cq2 + cs2) + 110 - 4 * (cq + cs)) (by omega) (by omega) ?_
      refine lv_astore (lv' := [(4, .ref q9), (0, .ref (ad 0)), (1, .long eg), (3, .ref ot)]) hx hb d_La_type_16 hl (by decide) rfl (fun ls hl => ?_)
      refine lv_iconst (v := 2) hx hb d_La_type_18 (by decide) ?_
      refine y_know (fun hy91 hy92 hy93 hy94 => ?_)
      have hac9 : y_aE 110 35 (cq + cs) s.heap.size (y_hs s.heap) (cq2 + cs2) H := ⟨by omega, by omega⟩
      refine W.widen (k := (2000 * (K + 1) + 14 - cq + (400 * (K + 1) + 12 - cs)) / 5 + 8) (n := 4 * (2000 * (K + 1) + 14 - cq + (400 * (K + 1) + 12 - cs)) + 110) (by omega) (by omega) ?_
      exact W.iret (v := 2) hx hb hr (fun t ht hW => ⟨⟨2, ((I2, T2, A2, O2, pl2, (q2, s2, cq2, cs2)), fo), rfl, Or.inr (Or.inr ⟨hb9.1, hb9.2, rfl, hco⟩), (by dsimp only; rw [ht]; exact ⟨hP, hD, hac9⟩)⟩, hS.F ht⟩) hS.2.2 d_La_type_19
  · obtain ⟨I3, T3, A3, O3, pl3, q3, s3, cq3, cs3⟩ := u
    dsimp only at hw hB
    rw [ht] at hB
    obtain ⟨hP, hD1, hac3⟩ := hB
    have hD : va_D Bq (y_W ad ar I3 T3 A3 O3 pl3) := hD1.weaken (fun _ q _ h => hFc q.1 h)
    generalize H1 = H at hP hS hac3 hk1 hz1 ⊢
    have hae3 := hac3
    try unfold y_ac at hae3
    try dsimp only at hae3
    obtain ⟨hP, hD⟩ := y_jnR hPW hDW hk1 hFc hP hD1
    have hP : va_P (dC, dI) y_cl ([(ot, .inl (ar 2, 1, .inr (.inl fo)))] ++ y_W ad ar I3 T3 A3 O3 pl3) H := hP
    have hD : va_D Bq ([(ot, .inl (ar 2, 1, .inr (.inl fo)))] ++ y_W ad ar I3 T3 A3 O3 pl3) := hD
    obtain ⟨hco, hty1, hty2, rfl⟩ := hw
    have hbc := y_CO.b hco
    unfold y_aE at hac3
    try dsimp only at hac3
    refine y_know (fun hyk1 hyk2 hyk3 hyk4 => ?_)
    have hcc1 : 4 * (cq + cs) ≤ 4 * (cq3 + cs3) + 110 := by omega
    have hcc2 : cq + cs ≤ cq3 + cs3 + 35 := by omega
    refine y_tight (k := (cq3 + cs3 + 35 - (cq + cs)) / 5) (n := 4 * (cq3 + cs3) + 110 - 4 * (cq + cs)) (by omega) (by omega) ?_
    refine lv_i2l (v := (Int32.toInt64 (Int32.ofNat (ln + x_cN eg 8)))) hx hb d_La_type_7 rfl ?_
    refine va_last hx hb hK hP hD hS 0 2 rfl rfl (i := 0) (x := (Int32.toInt64 (Int32.ofNat (ln + x_cN eg 8)))) (by unfold vp_in; decide) d_La_type_8 (fun H locs hP hD hS => ?_)
    obtain ⟨fo4, hP, hD, hf0⟩ : ∃ fo9 : Nat → Int64, va_P (dC, dI) y_cl ([(ot, .inl (ar 2, 1, .inr (.inl fo9)))] ++ y_W ad ar I3 T3 A3 O3 pl3) H ∧ va_D Bq ([(ot, .inl (ar 2, 1, .inr (.inl fo9)))] ++ y_W ad ar I3 T3 A3 O3 pl3) ∧ fo9 0 = (Int32.toInt64 (Int32.ofNat (ln + x_cN eg 8))) := ⟨_, hP, hD, rfl⟩
    refine lv_goto (tgt := 20) hx hb d_La_type_9 (by decide) ?_
    refine lv_iconst (v := 0) hx hb d_La_type_20 (by decide) ?_
    refine y_know (fun hy91 hy92 hy93 hy94 => ?_)
    have hac9 : y_aE 110 35 (cq + cs) s.heap.size (y_hs s.heap) (cq3 + cs3) H := ⟨by omega, by omega⟩
    refine W.widen (k := (2000 * (K + 1) + 14 - cq + (400 * (K + 1) + 12 - cs)) / 5 + 8) (n := 4 * (2000 * (K + 1) + 14 - cq + (400 * (K + 1) + 12 - cs)) + 110) (by omega) (by omega) ?_
    exact W.iret (v := 0) hx hb hr (fun t ht hW => ⟨⟨0, ((I3, T3, A3, O3, pl3, (q3, s3, cq3, cs3)), fo4), rfl, Or.inl ⟨hty1, hty2, rfl, hf0, hco⟩, (by dsimp only; rw [ht]; exact ⟨hP, hD, hac9⟩)⟩, hS.F ht⟩) hS.2.2 d_La_type_21
