-- ===== 9e.yload: load and type of the class, by program =====
theorem k_1 : (Jvm.Cond.initialized "ChannelMachine") ∈ x_T := x_at 1 (by decide +kernel) (by decide +kernel)
theorem k_227 : (Jvm.Cond.methodLink "ChannelMachine" (27 : Nat) ({ cls := "ChannelMachine", name := "byteAt", desc := "(JI)I" } : Jvm.MethodName)) ∈ x_T := x_at 227 (by decide +kernel) (by decide +kernel)
theorem k_228 : (Jvm.Cond.static ({ cls := "ChannelMachine", name := "byteAt", desc := "(JI)I" } : Jvm.MethodName)) ∈ x_T := x_at 228 (by decide +kernel) (by decide +kernel)
theorem k_229 : (Jvm.Cond.code ({ cls := "ChannelMachine", name := "byteAt", desc := "(JI)I" } : Jvm.MethodName) prog_1_method_3_code (3 : Nat) (Option.some Jvm.ClassFile.FieldType.int)) ∈ x_T := x_at 229 (by decide +kernel) (by decide +kernel)
theorem k_315 : (Jvm.Cond.methodLink "ChannelMachine" (46 : Nat) ({ cls := "ChannelMachine$Reader", name := "append", desc := "(C)V" } : Jvm.MethodName)) ∈ x_T := x_at 315 (by decide +kernel) (by decide +kernel)
theorem k_316 : (Jvm.Cond.instanceMethod ({ cls := "ChannelMachine$Reader", name := "append", desc := "(C)V" } : Jvm.MethodName)) ∈ x_T := x_at 316 (by decide +kernel) (by decide +kernel)
theorem k_317 : (Jvm.Cond.selects "ChannelMachine$Reader" ({ cls := "ChannelMachine$Reader", name := "append", desc := "(C)V" } : Jvm.MethodName) ({ cls := "ChannelMachine$Reader", name := "append", desc := "(C)V" } : Jvm.MethodName)) ∈ x_T := x_at 317 (by decide +kernel) (by decide +kernel)
theorem k_318 : (Jvm.Cond.code ({ cls := "ChannelMachine$Reader", name := "append", desc := "(C)V" } : Jvm.MethodName) prog_8_method_2_code (2 : Nat) (Option.none : Option Jvm.ClassFile.FieldType)) ∈ x_T := x_at 318 (by decide +kernel) (by decide +kernel)
theorem k_326 : (Jvm.Cond.methodLink "ChannelMachine" (50 : Nat) ({ cls := "ChannelMachine$Reader", name := "start", desc := "()V" } : Jvm.MethodName)) ∈ x_T := x_at 326 (by decide +kernel) (by decide +kernel)
theorem k_327 : (Jvm.Cond.instanceMethod ({ cls := "ChannelMachine$Reader", name := "start", desc := "()V" } : Jvm.MethodName)) ∈ x_T := x_at 327 (by decide +kernel) (by decide +kernel)
theorem k_328 : (Jvm.Cond.selects "ChannelMachine$Reader" ({ cls := "ChannelMachine$Reader", name := "start", desc := "()V" } : Jvm.MethodName) ({ cls := "ChannelMachine$Reader", name := "start", desc := "()V" } : Jvm.MethodName)) ∈ x_T := x_at 328 (by decide +kernel) (by decide +kernel)
theorem k_329 : (Jvm.Cond.code ({ cls := "ChannelMachine$Reader", name := "start", desc := "()V" } : Jvm.MethodName) prog_8_method_3_code (1 : Nat) (Option.none : Option Jvm.ClassFile.FieldType)) ∈ x_T := x_at 329 (by decide +kernel) (by decide +kernel)
theorem k_607 : (Jvm.Cond.methodLink "ChannelMachine" (57 : Nat) ({ cls := "ChannelMachine$Reader", name := "isAtEnd", desc := "()Z" } : Jvm.MethodName)) ∈ x_T := x_at 607 (by decide +kernel) (by decide +kernel)
theorem k_608 : (Jvm.Cond.instanceMethod ({ cls := "ChannelMachine$Reader", name := "isAtEnd", desc := "()Z" } : Jvm.MethodName)) ∈ x_T := x_at 608 (by decide +kernel) (by decide +kernel)
theorem k_609 : (Jvm.Cond.selects "ChannelMachine$Reader" ({ cls := "ChannelMachine$Reader", name := "isAtEnd", desc := "()Z" } : Jvm.MethodName) ({ cls := "ChannelMachine$Reader", name := "isAtEnd", desc := "()Z" } : Jvm.MethodName)) ∈ x_T := x_at 609 (by decide +kernel) (by decide +kernel)
theorem k_610 : (Jvm.Cond.code ({ cls := "ChannelMachine$Reader", name := "isAtEnd", desc := "()Z" } : Jvm.MethodName) prog_8_method_4_code (1 : Nat) (Option.some Jvm.ClassFile.FieldType.boolean)) ∈ x_T := x_at 610 (by decide +kernel) (by decide +kernel)
theorem k_612 : (Jvm.Cond.methodLink "ChannelMachine" (74 : Nat) ({ cls := "ChannelMachine$Machine", name := "begin", desc := "(LChannelMachine$Task;)V" } : Jvm.MethodName)) ∈ x_T := x_at 612 (by decide +kernel) (by decide +kernel)
theorem k_613 : (Jvm.Cond.instanceMethod ({ cls := "ChannelMachine$Machine", name := "begin", desc := "(LChannelMachine$Task;)V" } : Jvm.MethodName)) ∈ x_T := x_at 613 (by decide +kernel) (by decide +kernel)
theorem k_614 : (Jvm.Cond.selects "ChannelMachine$Machine" ({ cls := "ChannelMachine$Machine", name := "begin", desc := "(LChannelMachine$Task;)V" } : Jvm.MethodName) ({ cls := "ChannelMachine$Machine", name := "begin", desc := "(LChannelMachine$Task;)V" } : Jvm.MethodName)) ∈ x_T := x_at 614 (by decide +kernel) (by decide +kernel)
theorem k_615 : (Jvm.Cond.code ({ cls := "ChannelMachine$Machine", name := "begin", desc := "(LChannelMachine$Task;)V" } : Jvm.MethodName) prog_6_method_2_code (2 : Nat) (Option.none : Option Jvm.ClassFile.FieldType)) ∈ x_T := x_at 615 (by decide +kernel) (by decide +kernel)
theorem kn_46 : (Jvm.Cond.fieldLinkNest "ChannelMachine" (38 : Nat) "ChannelMachine$Reader" "length" "I" "ChannelMachine") ∈ x_nest := x_nest_at 46 (by decide +kernel) (by decide +kernel)
theorem kn_51 : (Jvm.Cond.fieldLinkNest "ChannelMachine" (61 : Nat) "ChannelMachine$Reader" "place" "I" "ChannelMachine") ∈ x_nest := x_nest_at 51 (by decide +kernel) (by decide +kernel)
theorem kn_53 : (Jvm.Cond.fieldLinkNest "ChannelMachine" (78 : Nat) "ChannelMachine$Reader" "processes" "I" "ChannelMachine") ∈ x_nest := x_nest_at 53 (by decide +kernel) (by decide +kernel)
theorem kn_55 : (Jvm.Cond.fieldLinkNest "ChannelMachine" (64 : Nat) "ChannelMachine$Reader" "program" "LChannelMachine$Process;" "ChannelMachine") ∈ x_nest := x_nest_at 55 (by decide +kernel) (by decide +kernel)
theorem kn_330 : (Jvm.Cond.methodLinkNest "ChannelMachine" (53 : Nat) ({ cls := "ChannelMachine$Reader", name := "process", desc := "(LChannelMachine$Process;IZ)Z" } : Jvm.MethodName) "ChannelMachine") ∈ x_nest := x_nest_at 330 (by decide +kernel) (by decide +kernel)
theorem kn_407 : (Jvm.Cond.fieldLinkNest "ChannelMachine" (68 : Nat) "ChannelMachine$Process" "task" "LChannelMachine$Task;" "ChannelMachine") ∈ x_nest := x_nest_at 407 (by decide +kernel) (by decide +kernel)
theorem d_Reader_start_0 : decode prog_8_method_3_code 0 = .ok (.aload_n 0, 1) := by decide +kernel
theorem d_Reader_start_1 : decode prog_8_method_3_code 1 = .ok (.aload_n 0, 1) := by decide +kernel
theorem d_Reader_start_2 : decode prog_8_method_3_code 2 = .ok (.getfield 19, 3) := by decide +kernel
theorem d_Reader_start_5 : decode prog_8_method_3_code 5 = .ok (.putfield 26, 3) := by decide +kernel
theorem d_Reader_start_8 : decode prog_8_method_3_code 8 = .ok (.aload_n 0, 1) := by decide +kernel
theorem d_Reader_start_9 : decode prog_8_method_3_code 9 = .ok (.iconst 0, 1) := by decide +kernel
theorem d_Reader_start_10 : decode prog_8_method_3_code 10 = .ok (.putfield 29, 3) := by decide +kernel
theorem d_Reader_start_13 : decode prog_8_method_3_code 13 = .ok (.aload_n 0, 1) := by decide +kernel
theorem d_Reader_start_14 : decode prog_8_method_3_code 14 = .ok (.iconst 0, 1) := by decide +kernel
theorem d_Reader_start_15 : decode prog_8_method_3_code 15 = .ok (.putfield 32, 3) := by decide +kernel
theorem d_Reader_start_18 : decode prog_8_method_3_code 18 = .ok (.aload_n 0, 1) := by decide +kernel
theorem d_Reader_start_19 : decode prog_8_method_3_code 19 = .ok (.iconst 0, 1) := by decide +kernel
theorem d_Reader_start_20 : decode prog_8_method_3_code 20 = .ok (.putfield 35, 3) := by decide +kernel
theorem d_Reader_start_23 : decode prog_8_method_3_code 23 = .ok (.return_, 1) := by decide +kernel
theorem d_CM_load_0 : decode prog_1_method_4_code 0 = .ok (.aload_n 0, 1) := by decide +kernel
theorem d_CM_load_1 : decode prog_1_method_4_code 1 = .ok (.getfield 10, 3) := by decide +kernel
theorem d_CM_load_4 : decode prog_1_method_4_code 4 = .ok (.invokevirtual 50, 3) := by decide +kernel
theorem d_CM_load_7 : decode prog_1_method_4_code 7 = .ok (.aload_n 0, 1) := by decide +kernel
theorem d_CM_load_8 : decode prog_1_method_4_code 8 = .ok (.getfield 10, 3) := by decide +kernel
theorem d_CM_load_11 : decode prog_1_method_4_code 11 = .ok (.aconst_null, 1) := by decide +kernel
theorem d_CM_load_12 : decode prog_1_method_4_code 12 = .ok (.iconst 1, 1) := by decide +kernel
theorem d_CM_load_13 : decode prog_1_method_4_code 13 = .ok (.iconst 0, 1) := by decide +kernel
theorem d_CM_load_14 : decode prog_1_method_4_code 14 = .ok (.invokevirtual 53, 3) := by decide +kernel
theorem d_CM_load_17 : decode prog_1_method_4_code 17 = .ok (.ifCond .eq 17, 3) := by decide +kernel
theorem d_CM_load_20 : decode prog_1_method_4_code 20 = .ok (.aload_n 0, 1) := by decide +kernel
theorem d_CM_load_21 : decode prog_1_method_4_code 21 = .ok (.getfield 10, 3) := by decide +kernel
theorem d_CM_load_24 : decode prog_1_method_4_code 24 = .ok (.invokevirtual 57, 3) := by decide +kernel
theorem d_CM_load_27 : decode prog_1_method_4_code 27 = .ok (.ifCond .eq 7, 3) := by decide +kernel
theorem d_CM_load_30 : decode prog_1_method_4_code 30 = .ok (.iconst 1, 1) := by decide +kernel
theorem d_CM_load_31 : decode prog_1_method_4_code 31 = .ok (.goto 4, 3) := by decide +kernel
theorem d_CM_load_34 : decode prog_1_method_4_code 34 = .ok (.iconst 0, 1) := by decide +kernel
theorem d_CM_load_35 : decode prog_1_method_4_code 35 = .ok (.istore_n 1, 1) := by decide +kernel
theorem d_CM_load_36 : decode prog_1_method_4_code 36 = .ok (.aload_n 0, 1) := by decide +kernel
theorem d_CM_load_37 : decode prog_1_method_4_code 37 = .ok (.getfield 10, 3) := by decide +kernel
theorem d_CM_load_40 : decode prog_1_method_4_code 40 = .ok (.iconst 0, 1) := by decide +kernel
theorem d_CM_load_41 : decode prog_1_method_4_code 41 = .ok (.putfield 38, 3) := by decide +kernel
theorem d_CM_load_44 : decode prog_1_method_4_code 44 = .ok (.iload_n 1, 1) := by decide +kernel
theorem d_CM_load_45 : decode prog_1_method_4_code 45 = .ok (.ifCond .ne 24, 3) := by decide +kernel
theorem d_CM_load_48 : decode prog_1_method_4_code 48 = .ok (.aload_n 0, 1) := by decide +kernel
theorem d_CM_load_49 : decode prog_1_method_4_code 49 = .ok (.aload_n 0, 1) := by decide +kernel
theorem d_CM_load_50 : decode prog_1_method_4_code 50 = .ok (.getfield 10, 3) := by decide +kernel
theorem d_CM_load_53 : decode prog_1_method_4_code 53 = .ok (.getfield 61, 3) := by decide +kernel
theorem d_CM_load_56 : decode prog_1_method_4_code 56 = .ok (.putfield 23, 3) := by decide +kernel
theorem d_CM_load_59 : decode prog_1_method_4_code 59 = .ok (.new 31, 3) := by decide +kernel
theorem d_CM_load_62 : decode prog_1_method_4_code 62 = .ok (.dup, 1) := by decide +kernel
theorem d_CM_load_63 : decode prog_1_method_4_code 63 = .ok (.ldc 62, 2) := by decide +kernel
theorem d_CM_load_65 : decode prog_1_method_4_code 65 = .ok (.invokespecial 35, 3) := by decide +kernel
theorem d_CM_load_68 : decode prog_1_method_4_code 68 = .ok (.athrow, 1) := by decide +kernel
theorem d_CM_load_69 : decode prog_1_method_4_code 69 = .ok (.aload_n 0, 1) := by decide +kernel
theorem d_CM_load_70 : decode prog_1_method_4_code 70 = .ok (.getfield 19, 3) := by decide +kernel
theorem d_CM_load_73 : decode prog_1_method_4_code 73 = .ok (.aload_n 0, 1) := by decide +kernel
theorem d_CM_load_74 : decode prog_1_method_4_code 74 = .ok (.getfield 10, 3) := by decide +kernel
theorem d_CM_load_77 : decode prog_1_method_4_code 77 = .ok (.getfield 64, 3) := by decide +kernel
theorem d_CM_load_80 : decode prog_1_method_4_code 80 = .ok (.getfield 68, 3) := by decide +kernel
theorem d_CM_load_83 : decode prog_1_method_4_code 83 = .ok (.invokevirtual 74, 3) := by decide +kernel
theorem d_CM_load_86 : decode prog_1_method_4_code 86 = .ok (.aload_n 0, 1) := by decide +kernel
theorem d_CM_load_87 : decode prog_1_method_4_code 87 = .ok (.getfield 10, 3) := by decide +kernel
theorem d_CM_load_90 : decode prog_1_method_4_code 90 = .ok (.getfield 78, 3) := by decide +kernel
theorem d_CM_load_93 : decode prog_1_method_4_code 93 = .ok (.ireturn, 1) := by decide +kernel
theorem d_Reader_append_0 : decode prog_8_method_2_code 0 = .ok (.aload_n 0, 1) := by decide +kernel
theorem d_Reader_append_1 : decode prog_8_method_2_code 1 = .ok (.getfield 19, 3) := by decide +kernel
theorem d_Reader_append_4 : decode prog_8_method_2_code 4 = .ok (.bipush 72, 2) := by decide +kernel
theorem d_Reader_append_6 : decode prog_8_method_2_code 6 = .ok (.if_icmp .ge 23, 3) := by decide +kernel
theorem d_Reader_append_9 : decode prog_8_method_2_code 9 = .ok (.aload_n 0, 1) := by decide +kernel
theorem d_Reader_append_10 : decode prog_8_method_2_code 10 = .ok (.getfield 9, 3) := by decide +kernel
theorem d_Reader_append_13 : decode prog_8_method_2_code 13 = .ok (.aload_n 0, 1) := by decide +kernel
theorem d_Reader_append_14 : decode prog_8_method_2_code 14 = .ok (.getfield 19, 3) := by decide +kernel
theorem d_Reader_append_17 : decode prog_8_method_2_code 17 = .ok (.iload_n 1, 1) := by decide +kernel
theorem d_Reader_append_18 : decode prog_8_method_2_code 18 = .ok (.castore, 1) := by decide +kernel
theorem d_Reader_append_19 : decode prog_8_method_2_code 19 = .ok (.aload_n 0, 1) := by decide +kernel
theorem d_Reader_append_20 : decode prog_8_method_2_code 20 = .ok (.dup, 1) := by decide +kernel
theorem d_Reader_append_21 : decode prog_8_method_2_code 21 = .ok (.getfield 19, 3) := by decide +kernel
theorem d_Reader_append_24 : decode prog_8_method_2_code 24 = .ok (.iconst 1, 1) := by decide +kernel
theorem d_Reader_append_25 : decode prog_8_method_2_code 25 = .ok (.iadd, 1) := by decide +kernel
theorem d_Reader_append_26 : decode prog_8_method_2_code 26 = .ok (.putfield 19, 3) := by decide +kernel
theorem d_Reader_append_29 : decode prog_8_method_2_code 29 = .ok (.return_, 1) := by decide +kernel
theorem d_CM_byteAt_0 : decode prog_1_method_3_code 0 = .ok (.lload_n 0, 1) := by decide +kernel
theorem d_CM_byteAt_1 : decode prog_1_method_3_code 1 = .ok (.bipush 8, 2) := by decide +kernel
theorem d_CM_byteAt_3 : decode prog_1_method_3_code 3 = .ok (.bipush 7, 2) := by decide +kernel
theorem d_CM_byteAt_5 : decode prog_1_method_3_code 5 = .ok (.iload_n 2, 1) := by decide +kernel
theorem d_CM_byteAt_6 : decode prog_1_method_3_code 6 = .ok (.isub, 1) := by decide +kernel
theorem d_CM_byteAt_7 : decode prog_1_method_3_code 7 = .ok (.imul, 1) := by decide +kernel
theorem d_CM_byteAt_8 : decode prog_1_method_3_code 8 = .ok (.lushr, 1) := by decide +kernel
theorem d_CM_byteAt_9 : decode prog_1_method_3_code 9 = .ok (.l2i, 1) := by decide +kernel
theorem d_CM_byteAt_10 : decode prog_1_method_3_code 10 = .ok (.sipush 255, 3) := by decide +kernel
theorem d_CM_byteAt_13 : decode prog_1_method_3_code 13 = .ok (.iand, 1) := by decide +kernel
theorem d_CM_byteAt_14 : decode prog_1_method_3_code 14 = .ok (.ireturn, 1) := by decide +kernel
theorem d_CM_type_0 : decode prog_1_method_2_code 0 = .ok (.iconst 0, 1) := by decide +kernel
theorem d_CM_type_1 : decode prog_1_method_2_code 1 = .ok (.istore_n 3, 1) := by decide +kernel
theorem d_CM_type_2 : decode prog_1_method_2_code 2 = .ok (.iconst 0, 1) := by decide +kernel
theorem d_CM_type_3 : decode prog_1_method_2_code 3 = .ok (.istore 4, 2) := by decide +kernel
theorem d_CM_type_5 : decode prog_1_method_2_code 5 = .ok (.iload 4, 2) := by decide +kernel
theorem d_CM_type_7 : decode prog_1_method_2_code 7 = .ok (.bipush 8, 2) := by decide +kernel
theorem d_CM_type_9 : decode prog_1_method_2_code 9 = .ok (.if_icmp .ge 59, 3) := by decide +kernel
theorem d_CM_type_12 : decode prog_1_method_2_code 12 = .ok (.lload_n 1, 1) := by decide +kernel
theorem d_CM_type_13 : decode prog_1_method_2_code 13 = .ok (.iload 4, 2) := by decide +kernel
theorem d_CM_type_15 : decode prog_1_method_2_code 15 = .ok (.invokestatic 27, 3) := by decide +kernel
theorem d_CM_type_18 : decode prog_1_method_2_code 18 = .ok (.istore 5, 2) := by decide +kernel
theorem d_CM_type_20 : decode prog_1_method_2_code 20 = .ok (.iload 5, 2) := by decide +kernel
theorem d_CM_type_22 : decode prog_1_method_2_code 22 = .ok (.ifCond .eq 27, 3) := by decide +kernel
theorem d_CM_type_25 : decode prog_1_method_2_code 25 = .ok (.iload 5, 2) := by decide +kernel
theorem d_CM_type_27 : decode prog_1_method_2_code 27 = .ok (.bipush 33, 2) := by decide +kernel
theorem d_CM_type_29 : decode prog_1_method_2_code 29 = .ok (.if_icmp .lt 10, 3) := by decide +kernel
theorem d_CM_type_32 : decode prog_1_method_2_code 32 = .ok (.iload 5, 2) := by decide +kernel
theorem d_CM_type_34 : decode prog_1_method_2_code 34 = .ok (.bipush 126, 2) := by decide +kernel
theorem d_CM_type_36 : decode prog_1_method_2_code 36 = .ok (.if_icmp .le 13, 3) := by decide +kernel
theorem d_CM_type_39 : decode prog_1_method_2_code 39 = .ok (.new 31, 3) := by decide +kernel
theorem d_CM_type_42 : decode prog_1_method_2_code 42 = .ok (.dup, 1) := by decide +kernel
theorem d_CM_type_43 : decode prog_1_method_2_code 43 = .ok (.ldc 33, 2) := by decide +kernel
theorem d_CM_type_45 : decode prog_1_method_2_code 45 = .ok (.invokespecial 35, 3) := by decide +kernel
theorem d_CM_type_48 : decode prog_1_method_2_code 48 = .ok (.athrow, 1) := by decide +kernel
theorem d_CM_type_49 : decode prog_1_method_2_code 49 = .ok (.iload_n 3, 1) := by decide +kernel
theorem d_CM_type_50 : decode prog_1_method_2_code 50 = .ok (.iload 5, 2) := by decide +kernel
theorem d_CM_type_52 : decode prog_1_method_2_code 52 = .ok (.ifCond .ne 7, 3) := by decide +kernel
theorem d_CM_type_55 : decode prog_1_method_2_code 55 = .ok (.iconst 0, 1) := by decide +kernel
theorem d_CM_type_56 : decode prog_1_method_2_code 56 = .ok (.goto 4, 3) := by decide +kernel
theorem d_CM_type_59 : decode prog_1_method_2_code 59 = .ok (.iconst 1, 1) := by decide +kernel
theorem d_CM_type_60 : decode prog_1_method_2_code 60 = .ok (.iadd, 1) := by decide +kernel
theorem d_CM_type_61 : decode prog_1_method_2_code 61 = .ok (.istore_n 3, 1) := by decide +kernel
theorem d_CM_type_62 : decode prog_1_method_2_code 62 = .ok (.iinc 4 1, 3) := by decide +kernel
theorem d_CM_type_65 : decode prog_1_method_2_code 65 = .ok (.goto (-60), 3) := by decide +kernel
theorem d_CM_type_68 : decode prog_1_method_2_code 68 = .ok (.aload_n 0, 1) := by decide +kernel
theorem d_CM_type_69 : decode prog_1_method_2_code 69 = .ok (.getfield 10, 3) := by decide +kernel
theorem d_CM_type_72 : decode prog_1_method_2_code 72 = .ok (.getfield 38, 3) := by decide +kernel
theorem d_CM_type_75 : decode prog_1_method_2_code 75 = .ok (.iload_n 3, 1) := by decide +kernel
theorem d_CM_type_76 : decode prog_1_method_2_code 76 = .ok (.iadd, 1) := by decide +kernel
theorem d_CM_type_77 : decode prog_1_method_2_code 77 = .ok (.bipush 72, 2) := by decide +kernel
theorem d_CM_type_79 : decode prog_1_method_2_code 79 = .ok (.if_icmp .le 13, 3) := by decide +kernel
theorem d_CM_type_82 : decode prog_1_method_2_code 82 = .ok (.new 41, 3) := by decide +kernel
theorem d_CM_type_85 : decode prog_1_method_2_code 85 = .ok (.dup, 1) := by decide +kernel
theorem d_CM_type_86 : decode prog_1_method_2_code 86 = .ok (.ldc 43, 2) := by decide +kernel
theorem d_CM_type_88 : decode prog_1_method_2_code 88 = .ok (.invokespecial 45, 3) := by decide +kernel
theorem d_CM_type_91 : decode prog_1_method_2_code 91 = .ok (.athrow, 1) := by decide +kernel
theorem d_CM_type_92 : decode prog_1_method_2_code 92 = .ok (.iconst 0, 1) := by decide +kernel
theorem d_CM_type_93 : decode prog_1_method_2_code 93 = .ok (.istore 4, 2) := by decide +kernel
theorem d_CM_type_95 : decode prog_1_method_2_code 95 = .ok (.iload 4, 2) := by decide +kernel
theorem d_CM_type_97 : decode prog_1_method_2_code 97 = .ok (.bipush 8, 2) := by decide +kernel
theorem d_CM_type_99 : decode prog_1_method_2_code 99 = .ok (.if_icmp .ge 32, 3) := by decide +kernel
theorem d_CM_type_102 : decode prog_1_method_2_code 102 = .ok (.lload_n 1, 1) := by decide +kernel
theorem d_CM_type_103 : decode prog_1_method_2_code 103 = .ok (.iload 4, 2) := by decide +kernel
theorem d_CM_type_105 : decode prog_1_method_2_code 105 = .ok (.invokestatic 27, 3) := by decide +kernel
theorem d_CM_type_108 : decode prog_1_method_2_code 108 = .ok (.istore 5, 2) := by decide +kernel
theorem d_CM_type_110 : decode prog_1_method_2_code 110 = .ok (.iload 5, 2) := by decide +kernel
theorem d_CM_type_112 : decode prog_1_method_2_code 112 = .ok (.ifCond .eq 13, 3) := by decide +kernel
theorem d_CM_type_115 : decode prog_1_method_2_code 115 = .ok (.aload_n 0, 1) := by decide +kernel
theorem d_CM_type_116 : decode prog_1_method_2_code 116 = .ok (.getfield 10, 3) := by decide +kernel
theorem d_CM_type_119 : decode prog_1_method_2_code 119 = .ok (.iload 5, 2) := by decide +kernel
theorem d_CM_type_121 : decode prog_1_method_2_code 121 = .ok (.i2c, 1) := by decide +kernel
theorem d_CM_type_122 : decode prog_1_method_2_code 122 = .ok (.invokevirtual 46, 3) := by decide +kernel
theorem d_CM_type_125 : decode prog_1_method_2_code 125 = .ok (.iinc 4 1, 3) := by decide +kernel
theorem d_CM_type_128 : decode prog_1_method_2_code 128 = .ok (.goto (-33), 3) := by decide +kernel
theorem d_CM_type_131 : decode prog_1_method_2_code 131 = .ok (.aload_n 0, 1) := by decide +kernel
theorem d_CM_type_132 : decode prog_1_method_2_code 132 = .ok (.getfield 10, 3) := by decide +kernel
theorem d_CM_type_135 : decode prog_1_method_2_code 135 = .ok (.getfield 38, 3) := by decide +kernel
theorem d_CM_type_138 : decode prog_1_method_2_code 138 = .ok (.ireturn, 1) := by decide +kernel
theorem y_CR.k70 {I I' : Nat → Int32} {n : Nat × Nat × Nat × Nat} {K ln : Nat} (h : y_CR I n K ln) (h7 : I' 7 = I 7) (h9 : I' 9 = I 9) : I' 7 = 1 → ∃ a0 : Nat, a0 ≤ 200 * K ∧ I' 9 = Int32.ofNat a0 := fun e => by
  obtain ⟨a0, q1, q2⟩ := h.2.2.1 (h7.symm.trans e)
  exact ⟨a0, q1, h9.trans q2⟩
set_option maxHeartbeats 4000000 in
set_option maxRecDepth 100000 in
theorem c_Rd_start (l : Launch) (dC : Nat → ClassId) (dI : Nat → Nat → Nat) (ar : Nat → ClassId) (N0 : Nat) (z : Nat → Nat) (ad : Nat → Nat) (I : Nat → Int32) (T : Int64) (A : Nat → Nat → Int32) (O : Nat → Option Nat) (pl : va_W)  (sz w0 : Nat) : Met l ({ cls := "ChannelMachine$Reader", name := "start", desc := "()V" } : Jvm.MethodName) ((Jvm.Cond.code ({ cls := "ChannelMachine$Reader", name := "start", desc := "()V" } : Jvm.MethodName) prog_8_method_3_code (1 : Nat) (Option.none : Option Jvm.ClassFile.FieldType)) :: x_T) ({ frames := 0, cells := 0, slots := 0, locals := 0 }) (y_Pc (dC, dI) ar N0 z (y_W ad ar I T A O pl) sz w0 [.ref (ad 1)]) (va_Qv (fun (u : (Nat → Int32) × Int64 × (Nat → Nat → Int32) × (Nat → Option Nat) × va_W × (Nat × Nat × Nat × Nat)) => u = (upd (upd (upd (upd I 3 (I 1)) 4 0) 5 0) 6 0, T, A, O, pl, 0, 0, 0, 0)) (fun u t => va_P (dC, dI) y_cl (y_W ad ar u.1 u.2.1 u.2.2.1 u.2.2.2.1 u.2.2.2.2.1) t.heap ∧ va_D (va_A (y_W ad ar I T A O pl) sz) (y_W ad ar u.1 u.2.1 u.2.2.1 u.2.2.2.1 u.2.2.2.2.1) ∧ True) (va_A (y_W ad ar I T A O pl) sz)) (0) (0) (va_A (y_W ad ar I T A O pl) sz) := by
  refine Met.ofW (cc := prog_8_method_3_code) (maxL := 1) (ret := none) (by decide) rfl ?_
  intro p e s m args below meth c s₁ B hml hv
  obtain ⟨rfl, hsz, hN0, hP, hU, hZ, hD0, hw0⟩ := hv
  have hK := hU.2.1
  have hx := B.exec
  have hb := B.bytes
  have hr := B.returns
  have hts : ∀ w ∈ x_T, w.before ([.ref (ad 1)] : List Value).toArray s = true := fun w h => atoms_spec (ws := (Jvm.Cond.code ({ cls := "ChannelMachine$Reader", name := "start", desc := "()V" } : Jvm.MethodName) prog_8_method_3_code (1 : Nat) (Option.none : Option Jvm.ClassFile.FieldType)) :: x_T) B.pre w (List.mem_cons_of_mem _ h)
  have hown : s.vm.findClass "ChannelMachine$Reader" = some m.cls := findClass_of_methodNamed B.named
  have hlocks := B.notSynchronized
  subst hsz
  subst hw0
  have hD := hD0.self (sz := s.heap.size)
  have hAN := x_AN hD0 hN0
  generalize hAe : va_A (y_W ad ar I T A O pl) s.heap.size = Bq at hD hAN ⊢
  have hA : ∀ q : Nat, s.heap.size ≤ q → Bq q := fun q h => by rw [← hAe]; exact Or.inr h
  have hS : va_S Bq s.heap s.heap [] := va_S.rf
  have hl := lv_entry ([.ref (ad 1)]) (n := 1) (Nat.le_of_ble_eq_true rfl)
  rw [lg_entry_eq]
  generalize (lg_sl ([.ref (ad 1)]) ++ List.replicate (1 - (lg_sl ([.ref (ad 1)])).length) Slot.unset).toArray = ls at hl ⊢
  have hl : lv_has ls 1 [(0, .ref (ad 1))] := hl
  refine lv_aload_n hx hb d_Reader_start_0 rfl (lv_at hl 0 rfl) ?_
  refine lv_aload_n hx hb d_Reader_start_1 rfl (lv_at hl 0 rfl) ?_
  refine k_g (C := "ChannelMachine$Reader") (F := F_Reader) (N := 9) hx hb hts i_Reader hown hK hP 1 2 (by decide) (by decide) rfl (by decide) (d := (1, 1)) rfl (hts _ k_45) (fun _ h9 => h9) (v := .int (I 1)) rfl d_Reader_start_2 ?_
  refine k_pi (C := "ChannelMachine$Reader") (F := F_Reader) (N := 9) hx hb hts i_Reader hown t_Reader t_Reader_ok n_Reader hK hP hD hS 1 4 (by decide) (by decide) rfl (by decide) (j := 3) (x := (I 1)) rfl (hts _ k_48) (fun _ h9 => h9) rfl (by decide +kernel) d_Reader_start_5 (fun H locs hP hD hS => ?_)
  refine lv_aload_n hx hb d_Reader_start_8 rfl (lv_at hl 0 rfl) ?_
  refine lv_iconst (v := 0) hx hb d_Reader_start_9 (by decide) ?_
  refine k_pi (C := "ChannelMachine$Reader") (F := F_Reader) (N := 9) hx hb hts i_Reader hown t_Reader t_Reader_ok n_Reader hK hP hD hS 1 5 (by decide) (by decide) rfl (by decide) (j := 4) (x := 0) rfl (hts _ k_49) (fun _ h9 => h9) rfl (by decide +kernel) d_Reader_start_10 (fun H locs hP hD hS => ?_)
  refine lv_aload_n hx hb d_Reader_start_13 rfl (lv_at hl 0 rfl) ?_
  refine lv_iconst (v := 0) hx hb d_Reader_start_14 (by decide) ?_
  refine k_pi (C := "ChannelMachine$Reader") (F := F_Reader) (N := 9) hx hb hts i_Reader hown t_Reader t_Reader_ok n_Reader hK hP hD hS 1 6 (by decide) (by decide) rfl (by decide) (j := 5) (x := 0) rfl (hts _ k_50) (fun _ h9 => h9) rfl (by decide +kernel) d_Reader_start_15 (fun H locs hP hD hS => ?_)
  refine lv_aload_n hx hb d_Reader_start_18 rfl (lv_at hl 0 rfl) ?_
  refine lv_iconst (v := 0) hx hb d_Reader_start_19 (by decide) ?_
  refine k_pi (C := "ChannelMachine$Reader") (F := F_Reader) (N := 9) hx hb hts i_Reader hown t_Reader t_Reader_ok n_Reader hK hP hD hS 1 7 (by decide) (by decide) rfl (by decide) (j := 6) (x := 0) rfl (hts _ k_52) (fun _ h9 => h9) rfl (by decide +kernel) d_Reader_start_20 (fun H locs hP hD hS => ?_)
  refine y_know (fun hy91 hy92 hy93 hy94 => ?_)
  have hac9 : True := trivial
  refine W.widen (k := 0) (n := 0) (by omega) (by omega) ?_
  exact W.vret hx hb hr (fun t ht hW => ⟨⟨((upd (upd (upd (upd I 3 (I 1)) 4 0) 5 0) 6 0), T, A, O, pl, (0, 0, 0, 0)), rfl, rfl, (by dsimp only; rw [ht]; exact ⟨hP, hD, hac9⟩)⟩, hS.F ht⟩) hS.2.2 d_Reader_start_23
set_option maxHeartbeats 4000000 in
set_option maxRecDepth 100000 in
theorem c_M_begin2 (l : Launch) (dC : Nat → ClassId) (dI : Nat → Nat → Nat) (ar : Nat → ClassId) (N0 : Nat) (z : Nat → Nat) (ad : Nat → Nat) (I : Nat → Int32) (T : Int64) (A : Nat → Nat → Int32) (O : Nat → Option Nat) (pl : va_W) (G : Nat → Nat) (C Gs : Nat → List Nat) (qn sn cq cs : Nat) (tt : Nat) (sz w0 : Nat) (hmi : y_MI z ar G C Gs I O (y_L pl) (qn, sn, cq, cs)) (htt : G tt = 8) : Met l ({ cls := "ChannelMachine$Machine", name := "begin", desc := "(LChannelMachine$Task;)V" } : Jvm.MethodName) ((Jvm.Cond.code ({ cls := "ChannelMachine$Machine", name := "begin", desc := "(LChannelMachine$Task;)V" } : Jvm.MethodName) prog_6_method_2_code (2 : Nat) (Option.none : Option Jvm.ClassFile.FieldType)) :: x_T) ({ frames := 8, cells := y_gc 0 cq, slots := y_gs 0 cq, locals := 212 }) (y_Pc (dC, dI) ar N0 z (y_W ad ar I T A O pl) sz w0 [.ref (ad 4), .ref tt]) (va_Qv (fun (u : (Nat → Int32) × Int64 × (Nat → Nat → Int32) × (Nat → Option Nat) × va_W × (Nat × Nat × Nat × Nat)) => y_MI z ar G C Gs u.1 u.2.2.2.1 (y_L u.2.2.2.2.1) u.2.2.2.2.2 ∧ y_bd (0, 0, cq, cs) u.2.2.2.2.2 1 0 ∧ m_fr [7, 8, 9, 10, 11, 12, 13, 14, 15] I u.1 ∧ u.1 9 = Int32.ofNat 0) (fun u t => va_P (dC, dI) y_cl (y_W ad ar u.1 u.2.1 u.2.2.1 u.2.2.2.1 u.2.2.2.2.1) t.heap ∧ va_D (va_A (y_W ad ar I T A O pl) sz) (y_W ad ar u.1 u.2.1 u.2.2.1 u.2.2.2.1 u.2.2.2.2.1) ∧ y_ac (cq + cs) sz w0 (u.2.2.2.2.2.2.2.1 + u.2.2.2.2.2.2.2.2) t.heap) (va_A (y_W ad ar I T A O pl) sz)) (y_gc 0 cq) (y_gs 0 cq) (va_A (y_W ad ar I T A O pl) sz) := by
  refine Met.ofW (cc := prog_6_method_2_code) (maxL := 2) (ret := none) (by decide) rfl ?_
  intro p e s m args below meth c s₁ B hml hv
  obtain ⟨rfl, hsz, hN0, hP, hU, hZ, hD0, hw0⟩ := hv
  have hK := hU.2.1
  have hx := B.exec
  have hb := B.bytes
  have hr := B.returns
  have hts : ∀ w ∈ x_T, w.before ([.ref (ad 4), .ref tt] : List Value).toArray s = true := fun w h => atoms_spec (ws := (Jvm.Cond.code ({ cls := "ChannelMachine$Machine", name := "begin", desc := "(LChannelMachine$Task;)V" } : Jvm.MethodName) prog_6_method_2_code (2 : Nat) (Option.none : Option Jvm.ClassFile.FieldType)) :: x_T) B.pre w (List.mem_cons_of_mem _ h)
  have hown : s.vm.findClass "ChannelMachine$Machine" = some m.cls := findClass_of_methodNamed B.named
  have hlocks := B.notSynchronized
  subst hsz
  subst hw0
  have hD := hD0.self (sz := s.heap.size)
  have hAN := x_AN hD0 hN0
  generalize hAe : va_A (y_W ad ar I T A O pl) s.heap.size = Bq at hD hAN ⊢
  have hA : ∀ q : Nat, s.heap.size ≤ q → Bq q := fun q h => by rw [← hAe]; exact Or.inr h
  have hS : va_S Bq s.heap s.heap [] := va_S.rf
  have hl := lv_entry ([.ref (ad 4), .ref tt]) (n := 2) (Nat.le_of_ble_eq_true rfl)
  rw [lg_entry_eq]
  generalize (lg_sl ([.ref (ad 4), .ref tt]) ++ List.replicate (2 - (lg_sl ([.ref (ad 4), .ref tt])).length) Slot.unset).toArray = ls at hl ⊢
  have hl : lv_has ls 2 [(0, .ref (ad 4)), (1, .ref tt)] := hl
  have hle := y_LS.le hmi.2.1.2
  dsimp only at hle
  have hcap := hmi.2.2.2.2.1
  dsimp only at hcap
  have hgg := y_gg 0 cq
  refine lv_aload_n hx hb d_Machine_begin_0 rfl (lv_at hl 0 rfl) ?_
  refine lv_iconst (v := 1) hx hb d_Machine_begin_1 (by decide) ?_
  have hFc := y_free hD hS hA
  refine va_callv (va_runV (As := [.int 1]) (rest := []) ⟨hx, hb, hml, hown, hts⟩ (c_M_close l dC dI ar N0 z ad I T A O pl G C Gs qn sn cq cs (1) s.heap.size (y_hs s.heap) hmi) (cwV 1 hts (x_goodV k_616 k_618 kp_20 k_3 k_619) rfl rfl rfl (by decide +kernel) ⟨Nat.le_of_ble_eq_true rfl, Nat.le_of_ble_eq_true rfl⟩) ⟨y_blind, va_recv hK hP (ci := 2) (q0 := 4) rfl (y_W_ob (by decide) (by decide)), fun U9 hU9 hW9 => y_pre hU9 hW9 hP hD hU hZ hS hAN hN0⟩ rfl rfl hl.1 rfl (lv_room (Nat.le_of_ble_eq_true rfl)) d_Machine_begin_2 ⟨(by show 0 + (0) ≤ y_gc 0 cq; omega), (by show 0 + (0) ≤ y_gs 0 cq; omega)⟩) hS (fun q _ h => hFc q h) hFc (fun u t H1 locs ht hvm hw hB hz1 hk1 hS => ?_)
  obtain ⟨I1, T1, A1, O1, pl1, q1, s1, cq1, cs1⟩ := u
  dsimp only at hw hB
  rw [ht] at hB
  obtain ⟨hP, hD1, hac1⟩ := hB
  have hD : va_D Bq (y_W ad ar I1 T1 A1 O1 pl1) := hD1.weaken (fun _ q _ h => hFc q.1 h)
  generalize H1 = H at hP hS hac1 ⊢
  have hae1 := hac1
  try unfold y_ac at hae1
  try dsimp only at hae1
  refine W.widen (k := 0) (n := 0) (by omega) (by omega) ?_
  obtain ⟨hmi, e5, fr1, h71, e2, e3, hcl1⟩ := hw
  cases e5
  rw [e2, e3] at hP hD
  have hP : va_P (dC, dI) y_cl (y_W ad ar I1 T A O1 pl1) H := hP
  have hD : va_D Bq (y_W ad ar I1 T A O1 pl1) := hD
  have hmi : y_MI z ar G C Gs I1 O1 (y_L pl1) (0, 0, cq, cs) := hmi
  have hbdr1 : y_bd (qn, sn, cq, cs) (0, 0, cq, cs) 0 0 := ⟨by dsimp only; omega, by dsimp only; omega, Or.inl rfl, Or.inl rfl⟩
  refine lv_aload_n hx hb d_Machine_begin_5 rfl (lv_at hl 0 rfl) ?_
  refine k_g (C := "ChannelMachine$Machine") (F := F_Machine) (N := 11) hx hb hts i_Machine hown hK hP 4 0 (by decide) (by decide) rfl (by decide) (d := (0, 5)) rfl (hts _ k_150) (fun _ h9 => h9) (v := .ref (ad 5)) rfl d_Machine_begin_6 ?_
  refine lv_iconst (v := 0) hx hb d_Machine_begin_9 (by decide) ?_
  have hFc := y_free hD hS hA
  refine va_callv (va_runS (As := [.ref (ad 5), .int 0]) (rest := []) ⟨hx, hb, hml, hown, hts⟩ (c_fill5 l dC dI ar N0 z ad I1 T A O1 pl1 (0) H.size (y_hs H) ) (va_cwS 2 hts (x_goodSW k_629 k_630 k_21 k_631) rfl rfl rfl (by decide +kernel) ⟨Nat.le_of_ble_eq_true rfl, Nat.le_of_ble_eq_true rfl⟩) ⟨y_blind, fun U9 hU9 hW9 => y_pre hU9 hW9 hP hD hU hZ hS hAN hN0⟩ rfl rfl hl.1 rfl (lv_room (Nat.le_of_ble_eq_true rfl)) d_Machine_begin_10 ⟨(by show 0 + (0) ≤ y_gc 0 cq; omega), (by show 0 + (0) ≤ y_gs 0 cq; omega)⟩) hS (fun q _ h => hFc q h) hFc (fun u t H1 locs ht hvm hw hB hz1 hk1 hS => ?_)
  obtain ⟨I2, T2, A2, O2, pl2, q2, s2, cq2, cs2⟩ := u
  dsimp only at hw hB
  rw [ht] at hB
  obtain ⟨hP, hD1, hac2⟩ := hB
  have hD : va_D Bq (y_W ad ar I2 T2 A2 O2 pl2) := hD1.weaken (fun _ q _ h => hFc q.1 h)
  generalize H1 = H at hP hS hac2 ⊢
  have hae2 := hac2
  try unfold y_ac at hae2
  try dsimp only at hae2
  refine W.widen (k := 0) (n := 0) (by omega) (by omega) ?_
  obtain ⟨e1, e2, e3, e4⟩ := hw
  rw [e1, e2, e3, e4] at hP hD
  refine lv_aload_n hx hb d_Machine_begin_13 rfl (lv_at hl 0 rfl) ?_
  refine k_g (C := "ChannelMachine$Machine") (F := F_Machine) (N := 11) hx hb hts i_Machine hown hK hP 4 2 (by decide) (by decide) rfl (by decide) (d := (0, 7)) rfl (hts _ k_154) (fun _ h9 => h9) (v := .ref (ad 7)) rfl d_Machine_begin_14 ?_
  refine lv_iconst (v := 0) hx hb d_Machine_begin_17 (by decide) ?_
  refine W.eq (g2 := F0 m 18 ls [.int (Int32.ofNat 0), .ref (ad 7)]) rfl ?_
  refine k_piN (C := "ChannelMachine$Row") (F := F_Row) (N := 2) hx hb hts i_Row hown t_Row t_Row_ok n_Row hK hP hD hS 7 1 (by decide) (by decide) rfl (by decide) (j := 10) (x := (Int32.ofNat 0)) rfl (hU.1.2.1 _ kn_93) (fun _ h9 => h9) rfl (by decide +kernel) d_Machine_begin_18 (fun H locs hP hD hS => ?_)
  have hmi : y_MI z ar G C Gs (upd I1 10 (Int32.ofNat 0)) O1 (y_L pl1) (0, 0, cq, cs) := hmi.r10 (by omega)
  refine lv_aload_n hx hb d_Machine_begin_21 rfl (lv_at hl 0 rfl) ?_
  refine k_g (C := "ChannelMachine$Machine") (F := F_Machine) (N := 11) hx hb hts i_Machine hown hK hP 4 3 (by decide) (by decide) rfl (by decide) (d := (0, 9)) rfl (hts _ k_156) (fun _ h9 => h9) (v := .ref (ad 9)) rfl d_Machine_begin_22 ?_
  refine lv_iconst (v := 0) hx hb d_Machine_begin_25 (by decide) ?_
  refine W.eq (g2 := F0 m 26 ls [.int (Int32.ofNat 0), .ref (ad 9)]) rfl ?_
  refine k_piN (C := "ChannelMachine$Row") (F := F_Row) (N := 2) hx hb hts i_Row hown t_Row t_Row_ok n_Row hK hP hD hS 9 1 (by decide) (by decide) rfl (by decide) (j := 11) (x := (Int32.ofNat 0)) rfl (hU.1.2.1 _ kn_93) (fun _ h9 => h9) rfl (by decide +kernel) d_Machine_begin_26 (fun H locs hP hD hS => ?_)
  have hmi : y_MI z ar G C Gs (upd (upd I1 10 (Int32.ofNat 0)) 11 (Int32.ofNat 0)) O1 (y_L pl1) (0, 0, cq, cs) := hmi.r11 (by omega)
  refine lv_aload_n hx hb d_Machine_begin_29 rfl (lv_at hl 0 rfl) ?_
  refine lv_iconst (v := 0) hx hb d_Machine_begin_30 (by decide) ?_
  refine W.eq (g2 := F0 m 31 ls [.int (Int32.ofNat 0), .ref (ad 4)]) rfl ?_
  refine k_pi (C := "ChannelMachine$Machine") (F := F_Machine) (N := 11) hx hb hts i_Machine hown t_Machine t_Machine_ok n_Machine hK hP hD hS 4 9 (by decide) (by decide) rfl (by decide) (j := 9) (x := (Int32.ofNat 0)) rfl (hts _ k_167) (fun _ h9 => h9) rfl (by decide +kernel) d_Machine_begin_31 (fun H locs hP hD hS => ?_)
  have hmi : y_MI z ar G C Gs (upd (upd (upd I1 10 (Int32.ofNat 0)) 11 (Int32.ofNat 0)) 9 (Int32.ofNat 0)) O1 (y_L pl1) (0, 0, cq, cs) := hmi
  refine lv_aload_n hx hb d_Machine_begin_34 rfl (lv_at hl 0 rfl) ?_
  refine lv_lconst (v := 0) hx hb d_Machine_begin_35 (by decide) ?_
  refine k_pt (C := "ChannelMachine$Machine") (F := F_Machine) (N := 11) hx hb hts i_Machine hown t_Machine t_Machine_ok n_Machine hK hP hD hS 4 10 (by decide) (by decide) rfl (by decide) (x := 0) rfl (hts _ k_169) (fun _ h9 => h9) rfl (by decide +kernel) d_Machine_begin_36 (fun H locs hP hD hS => ?_)
  have hmi : y_MI z ar G C Gs (upd (upd (upd I1 10 (Int32.ofNat 0)) 11 (Int32.ofNat 0)) 9 (Int32.ofNat 0)) O1 (y_L pl1) (0, 0, cq, cs) := hmi
  refine lv_aload_n hx hb d_Machine_begin_39 rfl (lv_at hl 0 rfl) ?_
  refine lv_aload_n hx hb d_Machine_begin_40 rfl (lv_at hl 1 rfl) ?_
  have hgg3 := y_gg 0 cq
  refine y_know (fun hya1 hya2 hya3 hya4 => ?_)
  have hFc := y_free hD hS hA
  refine va_calli (va_runV (As := [.ref tt]) (rest := []) ⟨hx, hb, hml, hown, hts⟩ (c_M_start l dC dI ar N0 z ad (upd (upd (upd I1 10 (Int32.ofNat 0)) 11 (Int32.ofNat 0)) 9 (Int32.ofNat 0)) 0 A2 O1 pl1 G C Gs 0 0 cq cs tt H.size (y_hs H) hmi htt (by omega)) (cwV 1 hts (x_goodV k_632 k_634 kp_21 k_3 k_635) rfl rfl rfl (by decide +kernel) ⟨Nat.le_of_ble_eq_true rfl, Nat.le_of_ble_eq_true rfl⟩) ⟨y_blind, va_recv hK hP (ci := 2) (q0 := 4) rfl (y_W_ob (by decide) (by decide)), fun U9 hU9 hW9 => y_pre hU9 hW9 hP hD hU hZ hS hAN hN0⟩ rfl rfl hl.1 rfl (lv_room (Nat.le_of_ble_eq_true rfl)) d_Machine_begin_41 ⟨(by show 0 + (y_gc 0 cq) ≤ y_gc 0 cq; omega), (by show 0 + (y_gs 0 cq) ≤ y_gs 0 cq; omega)⟩) hS (fun q _ h => hFc q h) hFc (fun r_4 u t H1 locs ht hvm hw hB hz1 hk1 hS => ?_)
  obtain ⟨I5, T5, A5, O5, pl5, q5, s5, cq5, cs5⟩ := u
  dsimp only at hw hB
  rw [ht] at hB
  obtain ⟨hP, hD1, hac5⟩ := hB
  have hD : va_D Bq (y_W ad ar I5 T5 A5 O5 pl5) := hD1.weaken (fun _ q _ h => hFc q.1 h)
  generalize H1 = H at hP hS hac5 ⊢
  have hae5 := hac5
  try unfold y_ac at hae5
  try dsimp only at hae5
  obtain ⟨hmi, hbd5, fr5, hr9⟩ := hw
  unfold y_ac at hac5
  have hb5 := hbd5
  unfold y_bd at hb5
  dsimp only at hb5 hac5
  rcases hr9 with rfl | rfl
  · refine lv_if_ne (tgt := 52) hx hb d_Machine_begin_44 (by decide) (fun c6 => absurd rfl c6) (fun _ => ?_)
    refine lv_aload_n hx hb d_Machine_begin_47 rfl (lv_at hl 0 rfl) ?_
    refine lv_iconst (v := 2) hx hb d_Machine_begin_48 (by decide) ?_
    have hFc := y_free hD hS hA
    refine va_callv (va_runV (As := [.int 2]) (rest := []) ⟨hx, hb, hml, hown, hts⟩ (c_M_close l dC dI ar N0 z ad I5 T5 A5 O5 pl5 G C Gs q5 s5 cq5 cs5 (2) H.size (y_hs H) hmi) (cwV 1 hts (x_goodV k_616 k_618 kp_20 k_3 k_619) rfl rfl rfl (by decide +kernel) ⟨Nat.le_of_ble_eq_true rfl, Nat.le_of_ble_eq_true rfl⟩) ⟨y_blind, va_recv hK hP (ci := 2) (q0 := 4) rfl (y_W_ob (by decide) (by decide)), fun U9 hU9 hW9 => y_pre hU9 hW9 hP hD hU hZ hS hAN hN0⟩ rfl rfl hl.1 rfl (lv_room (Nat.le_of_ble_eq_true rfl)) d_Machine_begin_49 ⟨(by show 0 + (y_gc 0 cq) + (0) ≤ y_gc 0 cq; omega), (by show 0 + (y_gs 0 cq) + (0) ≤ y_gs 0 cq; omega)⟩) hS (fun q _ h => hFc q h) hFc (fun u t H1 locs ht hvm hw hB hz1 hk1 hS => ?_)
    obtain ⟨I7, T7, A7, O7, pl7, q7, s7, cq7, cs7⟩ := u
    dsimp only at hw hB
    rw [ht] at hB
    obtain ⟨hP, hD1, hac7⟩ := hB
    have hD : va_D Bq (y_W ad ar I7 T7 A7 O7 pl7) := hD1.weaken (fun _ q _ h => hFc q.1 h)
    generalize H1 = H at hP hS hac7 ⊢
    have hae7 := hac7
    try unfold y_ac at hae7
    try dsimp only at hae7
    refine W.widen (k := 0 + (y_gc 0 cq)) (n := 0 + (y_gs 0 cq)) (by omega) (by omega) ?_
    obtain ⟨hmi, e5, fr7, h77, e2, e3, hcl7⟩ := hw
    cases e5
    rw [e2, e3] at hP hD
    have hP : va_P (dC, dI) y_cl (y_W ad ar I7 T5 A5 O7 pl7) H := hP
    have hD : va_D Bq (y_W ad ar I7 T5 A5 O7 pl7) := hD
    have hmi : y_MI z ar G C Gs I7 O7 (y_L pl7) (0, 0, cq5, cs5) := hmi
    have hbdr7 : y_bd (q5, s5, cq5, cs5) (0, 0, cq5, cs5) 0 0 := ⟨by dsimp only; omega, by dsimp only; omega, Or.inl rfl, Or.inl rfl⟩
    refine y_know (fun hy91 hy92 hy93 hy94 => ?_)
    have hac9 : y_ac (cq + cs) s.heap.size (y_hs s.heap) (cq5 + cs5) H := ⟨by omega, by omega⟩
    refine W.widen (k := y_gc 0 cq) (n := y_gs 0 cq) (by omega) (by omega) ?_
    exact W.vret hx hb hr (fun t ht hW => ⟨⟨(I7, T5, A5, O7, pl7, (0, 0, cq5, cs5)), rfl, ⟨hmi, (y_bd.tr (y_bd.tr hbd5 hbdr7 (e := 1) (g := 0) (by decide) (by decide)) (y_bd.rf (a := 0) (b := 0)) (e := 1) (g := 0) (by decide) (by decide)), ((((((m_fr.rf.tr fr1 (by decide)).up (by decide) _).up (by decide) _).up (by decide) _).tr fr5 (by decide)).tr fr7 (by decide)), ((fr7 9 (by decide)).trans ((fr5 9 (by decide)).trans rfl))⟩, (by dsimp only; rw [ht]; exact ⟨hP, hD, hac9⟩)⟩, hS.F ht⟩) hS.2.2 d_Machine_begin_52
  · refine lv_if_ne (tgt := 52) hx hb d_Machine_begin_44 (by decide) (fun _ => ?_) (fun c8 => absurd c8 (by decide))
    refine y_know (fun hy91 hy92 hy93 hy94 => ?_)
    have hac9 : y_ac (cq + cs) s.heap.size (y_hs s.heap) (cq5 + cs5) H := ⟨by omega, by omega⟩
    refine W.widen (k := y_gc 0 cq) (n := y_gs 0 cq) (by omega) (by omega) ?_
    exact W.vret hx hb hr (fun t ht hW => ⟨⟨(I5, T5, A5, O5, pl5, (q5, s5, cq5, cs5)), rfl, ⟨hmi, (y_bd.tr hbd5 (y_bd.rf (a := 0) (b := 0)) (e := 1) (g := 0) (by decide) (by decide)), (((((m_fr.rf.tr fr1 (by decide)).up (by decide) _).up (by decide) _).up (by decide) _).tr fr5 (by decide)), ((fr5 9 (by decide)).trans rfl)⟩, (by dsimp only; rw [ht]; exact ⟨hP, hD, hac9⟩)⟩, hS.F ht⟩) hS.2.2 d_Machine_begin_52
set_option maxHeartbeats 4000000 in
set_option maxRecDepth 100000 in
theorem c_C_load (l : Launch) (hst : l.stackTraces = false) (dC : Nat → ClassId) (dI : Nat → Nat → Nat) (ar : Nat → ClassId) (N0 : Nat) (z : Nat → Nat) (ad : Nat → Nat) (I : Nat → Int32) (T : Int64) (A : Nat → Nat → Int32) (O : Nat → Option Nat) (pl : va_W) (G : Nat → Nat) (C Gs : Nat → List Nat) (qn sn cq cs : Nat) (K ln : Nat) (sz w0 : Nat) (hmi : y_MI z ar G C Gs I O (y_L pl) (qn, sn, cq, cs)) (hK5 : K ≤ 511) (hci : y_CR I (qn, sn, cq, cs) K ln) : vx_Met l ({ cls := "ChannelMachine", name := "load", desc := "()I" } : Jvm.MethodName) ((Jvm.Cond.code ({ cls := "ChannelMachine", name := "load", desc := "()I" } : Jvm.MethodName) prog_1_method_4_code (2 : Nat) (Option.some Jvm.ClassFile.FieldType.int)) :: x_T) ({ frames := 57, cells := (2000 * K + 14 - cq + (400 * K + 12 - cs)) / 5 + 240, slots := 4 * (2000 * K + 14 - cq + (400 * K + 12 - cs)) + 7500, locals := 2224 }) (y_Pc (dC, dI) ar N0 z (y_W ad ar I T A O pl) sz w0 [.ref (ad 0)]) (va_Qi (fun (r : Int32) (u : (Nat → Int32) × Int64 × (Nat → Nat → Int32) × (Nat → Option Nat) × va_W × (Nat × Nat × Nat × Nat)) => y_CO z ar u.1 u.2.2.2.1 (y_L u.2.2.2.2.1) u.2.2.2.2.2 K 0) (fun u t => va_P (dC, dI) y_cl (y_W ad ar u.1 u.2.1 u.2.2.1 u.2.2.2.1 u.2.2.2.2.1) t.heap ∧ va_D (va_A (y_W ad ar I T A O pl) sz) (y_W ad ar u.1 u.2.1 u.2.2.1 u.2.2.2.1 u.2.2.2.2.1) ∧ y_aE 7400 1200 (cq + cs) sz w0 (u.2.2.2.2.2.2.2.1 + u.2.2.2.2.2.2.2.2) t.heap) (va_A (y_W ad ar I T A O pl) sz)) (vx_X (fun (u : (Nat → Int32) × Int64 × (Nat → Nat → Int32) × (Nat → Option Nat) × va_W × (Nat × Nat × Nat × Nat)) => y_CO z ar u.1 u.2.2.2.1 (y_L u.2.2.2.2.1) u.2.2.2.2.2 K 0) (fun E u t => va_P (dC, dI) y_cl (y_W ad ar u.1 u.2.1 u.2.2.1 u.2.2.2.1 u.2.2.2.2.1) t.heap ∧ va_D (va_A (y_W ad ar I T A O pl) sz) (y_W ad ar u.1 u.2.1 u.2.2.1 u.2.2.2.1 u.2.2.2.2.1) ∧ (E = "java/lang/IllegalArgumentException") ∧ y_aE 7400 1200 (cq + cs) sz w0 (u.2.2.2.2.2.2.2.1 + u.2.2.2.2.2.2.2.2) t.heap) (va_A (y_W ad ar I T A O pl) sz)) ((2000 * K + 14 - cq + (400 * K + 12 - cs)) / 5 + 240) (4 * (2000 * K + 14 - cq + (400 * K + 12 - cs)) + 7500) (va_A (y_W ad ar I T A O pl) sz) := by
  refine vx_ofW (cc := prog_1_method_4_code) (maxL := 2) (ret := (some .int)) (by decide) rfl ?_
  intro p e s m args below meth c s₁ B hml htb hv
  obtain ⟨rfl, hsz, hN0, hP, hU, hZ, hD0, hw0⟩ := hv
  have hK := hU.2.1
  have hx := B.exec
  have hb := B.bytes
  have hr := B.returns
  have hts : ∀ w ∈ x_T, w.before ([.ref (ad 0)] : List Value).toArray s = true := fun w h => atoms_spec (ws := (Jvm.Cond.code ({ cls := "ChannelMachine", name := "load", desc := "()I" } : Jvm.MethodName) prog_1_method_4_code (2 : Nat) (Option.some Jvm.ClassFile.FieldType.int)) :: x_T) B.pre w (List.mem_cons_of_mem _ h)
  have hown : s.vm.findClass "ChannelMachine" = some m.cls := findClass_of_methodNamed B.named
  have hlocks := B.notSynchronized
  subst hsz
  subst hw0
  have hD := hD0.self (sz := s.heap.size)
  have hAN := x_AN hD0 hN0
  generalize hAe : va_A (y_W ad ar I T A O pl) s.heap.size = Bq at hD hAN ⊢
  have hA : ∀ q : Nat, s.heap.size ≤ q → Bq q := fun q h => by rw [← hAe]; exact Or.inr h
  have hS : va_S Bq s.heap s.heap [] := va_S.rf
  have hl := lv_entry ([.ref (ad 0)]) (n := 2) (Nat.le_of_ble_eq_true rfl)
  rw [lg_entry_eq]
  generalize (lg_sl ([.ref (ad 0)]) ++ List.replicate (2 - (lg_sl ([.ref (ad 0)])).length) Slot.unset).toArray = ls at hl ⊢
  have hl : lv_has ls 2 [(0, .ref (ad 0))] := hl
  have hbn := hci.2.2.2
  dsimp only at hbn
  have hle := y_LS.le hmi.2.1.2
  have hle2 := y_LS.le hmi.2.2.1.2
  have hcap := hmi.2.2.2.2.1
  dsimp only at hle hle2 hcap
  refine lv_aload_n hx hb d_CM_load_0 rfl (lv_at hl 0 rfl) ?_
  refine k_g (C := "ChannelMachine") (F := F_CM) (N := 3) hx hb hts i_CM hown hK hP 0 0 (by decide) (by decide) rfl (by decide) (d := (0, 1)) rfl (hts _ k_194) (fun _ h9 => h9) (v := .ref (ad 1)) rfl d_CM_load_1 ?_
  have hFc := y_free hD hS hA
  refine va_callv (va_runV (As := []) (rest := []) ⟨hx, hb, hml, hown, hts⟩ (c_Rd_start l dC dI ar N0 z ad I T A O pl  s.heap.size (y_hs s.heap) ) (cwV 0 hts (x_goodV k_326 k_327 k_328 k_2 k_329) rfl rfl rfl (by decide +kernel) ⟨Nat.le_of_ble_eq_true rfl, Nat.le_of_ble_eq_true rfl⟩) ⟨y_blind, va_recv hK hP (ci := 3) (q0 := 1) rfl (y_W_ob (by decide) (by decide)), fun U9 hU9 hW9 => y_pre hU9 hW9 hP hD hU hZ hS hAN hN0⟩ rfl rfl hl.1 rfl (lv_room (Nat.le_of_ble_eq_true rfl)) d_CM_load_4 ⟨(by show 0 + (0) ≤ (2000 * K + 14 - cq + (400 * K + 12 - cs)) / 5 + 240; omega), (by show 0 + (0) ≤ 4 * (2000 * K + 14 - cq + (400 * K + 12 - cs)) + 7500; omega)⟩) hS (fun q _ h => hFc q h) hFc (fun u t H1 locs ht hvm hw hB hz1 hk1 hS => ?_)
  obtain ⟨I1, T1, A1, O1, pl1, q1, s1, cq1, cs1⟩ := u
  dsimp only at hw hB
  rw [ht] at hB
  obtain ⟨hP, hD1, hac1⟩ := hB
  have hD : va_D Bq (y_W ad ar I1 T1 A1 O1 pl1) := hD1.weaken (fun _ q _ h => hFc q.1 h)
  generalize H1 = H at hP hS hac1 ⊢
  have hae1 := hac1
  try unfold y_ac at hae1
  try dsimp only at hae1
  refine W.widen (k := 0) (n := 0) (by omega) (by omega) ?_
  cases hw
  have hmi : y_MI z ar G C Gs (upd (upd (upd (upd I 3 (I 1)) 4 0) 5 0) 6 0) O (y_L pl) (qn, sn, cq, cs) := hmi
  refine lv_aload_n hx hb d_CM_load_7 rfl (lv_at hl 0 rfl) ?_
  refine k_g (C := "ChannelMachine") (F := F_CM) (N := 3) hx hb hts i_CM hown hK hP 0 0 (by decide) (by decide) rfl (by decide) (d := (0, 1)) rfl (hts _ k_194) (fun _ h9 => h9) (v := .ref (ad 1)) rfl d_CM_load_8 ?_
  refine lv_null hx hb d_CM_load_11 ?_
  refine lv_iconst (v := 1) hx hb d_CM_load_12 (by decide) ?_
  refine lv_iconst (v := 0) hx hb d_CM_load_13 (by decide) ?_
  obtain ⟨cl, hcl, hc2⟩ := hci.2.1
  have hrd : y_RD (upd (upd (upd (upd I 3 (I 1)) 4 0) 5 0) 6 0) A (ln, 73, ln, 0) := ⟨⟨hci.1.2, ⟨cl, hcl, hc2, Or.inr rfl⟩, hci.1.2, rfl⟩, ⟨hci.1.1, (show 73 ≤ 73 from Nat.le_refl _), Nat.le_refl _, Nat.zero_le _⟩, fun i _ h9 => absurd (show 73 ≤ 72 from h9) (by decide)⟩
  refine W.eq (g2 := F0 m 14 ls [.int 0, .int (Int32.ofNat 1), va_rf none, .ref (ad 1)]) rfl ?_
  refine y_know (fun hya1 hya2 hya3 hya4 => ?_)
  have hFc := y_free hD hS hA
  refine va_calli (va_runVN (As := [va_rf none, .int (Int32.ofNat 1), .int 0]) (rest := []) ⟨hx, hb, hml, hown, hts⟩ (c_Rd_process l dC dI ar N0 z ad (upd (upd (upd (upd I 3 (I 1)) 4 0) 5 0) 6 0) T A O pl ln 73 0 (y_L pl) (fun _ => 0) (fun _ => 0) (fun _ => []) (fun _ => []) (fun _ => 0) none 1 0 H.size (y_hs H) hrd y_DX.nil (fun P hP9 => nomatch hP9) (by decide) (by decide)) ⟨va_cnB 3 hts (x_good k_333) rfl rfl rfl (hU.1.2.1 _ kn_330) (hts _ k_2) (by decide +kernel) ⟨Nat.le_of_ble_eq_true rfl, Nat.le_of_ble_eq_true rfl⟩, hts _ k_332, hts _ kp_1⟩ ⟨y_blind, va_recv hK hP (ci := 3) (q0 := 1) rfl (y_W_ob (by decide) (by decide)), fun U9 hU9 hW9 => y_pre hU9 hW9 hP hD hU hZ hS hAN hN0⟩ rfl rfl hl.1 rfl (lv_room (Nat.le_of_ble_eq_true rfl)) d_CM_load_14 ⟨(by show 0 + (3 * (72 - 0) + 2) ≤ (2000 * K + 14 - cq + (400 * K + 12 - cs)) / 5 + 240; omega), (by show 0 + (100 * (72 - 0) + 80) ≤ 4 * (2000 * K + 14 - cq + (400 * K + 12 - cs)) + 7500; omega)⟩) hS (fun q _ h => hFc q h) hFc (fun r_2 u t H1 locs ht hvm hw hB hz1 hk1 hS => ?_)
  obtain ⟨I3, T3, A3, O3, pl3, q3, s3, cq3, cs3⟩ := u
  dsimp only at hw hB
  rw [ht] at hB
  obtain ⟨hP, hD1, hac3⟩ := hB
  have hD : va_D Bq (y_W ad ar I3 T3 A3 O3 pl3) := hD1.weaken (fun _ q _ h => hFc q.1 h)
  generalize H1 = H at hP hS hac3 ⊢
  have hae3 := hac3
  try unfold y_ac at hae3
  try dsimp only at hae3
  obtain ⟨hrd, e2, hO3, fr3, hge3, hbr⟩ := hw
  rw [e2] at hP hD
  have hP : va_P (dC, dI) y_cl (y_W ad ar I3 T A3 O3 pl3) H := hP
  have hD : va_D Bq (y_W ad ar I3 T A3 O3 pl3) := hD
  rcases hbr with ⟨rfl, hsl, hfl⟩ | ⟨rfl, hsl, p9, hsu, hpr⟩
  · have hmi : y_MI z ar G C Gs I3 O3 (y_L pl3) (qn, sn, cq, cs) := hmi.ext hfl (fr3 10 (by decide)) (fr3 11 (by decide)) (fr3 12 (by decide)) (fr3 14 (by decide)) (fun k hk => hO3 k (Or.inl hk))
    refine lv_if_eq (tgt := 34) hx hb d_CM_load_17 (by decide) (fun _ => ?_) (fun c4 => absurd (by decide) c4)
    refine lv_iconst (v := 0) hx hb d_CM_load_34 (by decide) ?_
    refine lv_istore_n (lv' := [(1, .int 0), (0, .ref (ad 0))]) hx hb d_CM_load_35 rfl hl (by decide) rfl (fun ls hl => ?_)
    refine lv_aload_n hx hb d_CM_load_36 rfl (lv_at hl 1 rfl) ?_
    refine k_g (C := "ChannelMachine") (F := F_CM) (N := 3) hx hb hts i_CM hown hK hP 0 0 (by decide) (by decide) rfl (by decide) (d := (0, 1)) rfl (hts _ k_194) (fun _ h9 => h9) (v := .ref (ad 1)) rfl d_CM_load_37 ?_
    refine lv_iconst (v := 0) hx hb d_CM_load_40 (by decide) ?_
    refine W.eq (g2 := F0 m 41 ls [.int (Int32.ofNat 0), .ref (ad 1)]) rfl ?_
    refine k_piN (C := "ChannelMachine$Reader") (F := F_Reader) (N := 9) hx hb hts i_Reader hown t_Reader t_Reader_ok n_Reader hK hP hD hS 1 2 (by decide) (by decide) rfl (by decide) (j := 1) (x := (Int32.ofNat 0)) rfl (hU.1.2.1 _ kn_46) (fun _ h9 => h9) rfl (by decide +kernel) d_CM_load_41 (fun H locs hP hD hS => ?_)
    have hmi : y_MI z ar G C Gs (upd I3 1 (Int32.ofNat 0)) O3 (y_L pl3) (qn, sn, cq, cs) := hmi
    refine lv_iload_n hx hb d_CM_load_44 rfl (lv_at hl 0 rfl) ?_
    refine lv_if_ne (tgt := 69) hx hb d_CM_load_45 (by decide) (fun c5 => absurd rfl c5) (fun _ => ?_)
    refine lv_aload_n hx hb d_CM_load_48 rfl (lv_at hl 1 rfl) ?_
    refine lv_aload_n hx hb d_CM_load_49 rfl (lv_at hl 1 rfl) ?_
    refine k_g (C := "ChannelMachine") (F := F_CM) (N := 3) hx hb hts i_CM hown hK hP 0 0 (by decide) (by decide) rfl (by decide) (d := (0, 1)) rfl (hts _ k_194) (fun _ h9 => h9) (v := .ref (ad 1)) rfl d_CM_load_50 ?_
    refine k_gN (C := "ChannelMachine$Reader") (F := F_Reader) (N := 9) hx hb hts i_Reader hown hK hP 1 6 (by decide) (by decide) rfl (by decide) (d := (1, 5)) rfl (hU.1.2.1 _ kn_51) (fun _ h9 => h9) (v := .int (I3 5)) rfl d_CM_load_53 ?_
    refine k_pi (C := "ChannelMachine") (F := F_CM) (N := 3) hx hb hts i_CM hown t_CM t_CM_ok n_CM hK hP hD hS 0 2 (by decide) (by decide) rfl (by decide) (j := 0) (x := (I3 5)) rfl (hts _ k_196) (fun _ h9 => h9) rfl (by decide +kernel) d_CM_load_56 (fun H locs hP hD hS => ?_)
    have hmi : y_MI z ar G C Gs (upd (upd I3 1 (Int32.ofNat 0)) 0 (I3 5)) O3 (y_L pl3) (qn, sn, cq, cs) := hmi
    have hfr9 : m_fr [0, 1, 2, 3, 4, 5, 6] I (upd (upd I3 1 (Int32.ofNat 0)) 0 (I3 5)) := (((((((m_fr.rf.up (by decide) _).up (by decide) _).up (by decide) _).up (by decide) _).tr fr3 (by decide)).up (by decide) _).up (by decide) _)
    obtain ⟨c9, hc91, hc92, _⟩ := hrd.1.2.1
    have hcr9 : y_CR (upd (upd I3 1 (Int32.ofNat 0)) 0 (I3 5)) (qn, sn, cq, cs) K 0 := ⟨⟨by decide, rfl⟩, ⟨c9, hc91, hc92⟩, (hci.k70 (hfr9 7 (by decide)) (hfr9 9 (by decide))), ⟨by dsimp only; omega, by dsimp only; omega, by dsimp only; omega, by dsimp only; omega⟩⟩
    have hco9 : y_CO z ar (upd (upd I3 1 (Int32.ofNat 0)) 0 (I3 5)) O3 (y_L pl3) (qn, sn, cq, cs) K 0 := ⟨_, _, _, hmi, hcr9⟩
    refine y_know (fun hy91 hy92 hy93 hy94 => ?_)
    refine y_xW (XC' := fun E st t => E = "java/lang/IllegalArgumentException" ∧ va_P (dC, dI) y_cl (y_W ad ar (upd (upd I3 1 (Int32.ofNat 0)) 0 (I3 5)) T A3 O3 pl3) t.heap ∧ va_F Bq st t) (mc' := 0 + (3 * (72 - 0) + 2) + 1) (ms' := 0 + (100 * (72 - 0) + 80) + 6) (by omega) (by omega) (fun E t hx9 hz9 hk9 => ?_) ?_
    · obtain ⟨rfl, hx1, hx2⟩ := hx9
      have hac9 : y_aE 7400 1200 (cq + cs) s.heap.size (y_hs s.heap) (cq + cs) t.heap := ⟨by omega, by omega⟩
      exact ⟨((upd (upd I3 1 (Int32.ofNat 0)) 0 (I3 5)), T, A3, O3, pl3, (qn, sn, cq, cs)), hco9, ⟨hx1, hD, rfl, hac9⟩, hx2⟩
    exact x_throw (A := Bq) hx hb hst (own := "ChannelMachine") (cls := "java/lang/IllegalArgumentException") (text := "not a program") (ik := 31) (is := 62) (ic := 35) hown k_230 k_13 (by decide) x_tChannelMachine_35 (by decide +kernel) rfl hts hU.1 hZ.1 hAN hS (by rw [hml]; exact hl.1) d_CM_load_59 d_CM_load_62 d_CM_load_63 d_CM_load_65 d_CM_load_68 htb (Nat.le_of_ble_eq_true rfl) (Nat.le_of_ble_eq_true rfl) (by show 0 + (3 * (72 - 0) + 2) + 1 ≤ (2000 * K + 14 - cq + (400 * K + 12 - cs)) / 5 + 240; omega) (by show 0 + (100 * (72 - 0) + 80) + 6 ≤ 4 * (2000 * K + 14 - cq + (400 * K + 12 - cs)) + 7500; omega) hlocks (fun t h1 h2 h3 h4 => ⟨rfl, fun k q hk => (hP k q hk).kept (h3 q.1 (hP k q hk).lt), h4⟩) hS.2.2 (Nat.le_refl _) (Nat.le_refl _)
  · obtain ⟨G9, C9, Gs9, J9, t9, v0, v1, v2, v3, v4, v6, v7, v8, v9, hmi, htt, hfp, _⟩ := y_SU.load hmi hsu
    have hmi : y_MI z ar G9 C9 Gs9 I3 O3 (y_L pl3) (qn, sn, cq, cs) := hmi.ext (fun _ _ => rfl) (fr3 10 (by decide)) (fr3 11 (by decide)) (fr3 12 (by decide)) (fr3 14 (by decide)) (fun k hk => hO3 k (Or.inl hk))
    refine lv_if_eq (tgt := 34) hx hb d_CM_load_17 (by decide) (fun c6 => absurd c6 (by decide)) (fun _ => ?_)
    refine lv_aload_n hx hb d_CM_load_20 rfl (lv_at hl 0 rfl) ?_
    refine k_g (C := "ChannelMachine") (F := F_CM) (N := 3) hx hb hts i_CM hown hK hP 0 0 (by decide) (by decide) rfl (by decide) (d := (0, 1)) rfl (hts _ k_194) (fun _ h9 => h9) (v := .ref (ad 1)) rfl d_CM_load_21 ?_
    have hFc := y_free hD hS hA
    refine va_calli (va_runV (As := []) (rest := []) ⟨hx, hb, hml, hown, hts⟩ (c_Rd_isAtEnd l dC dI ar N0 z ad I3 T A3 O3 pl3 ln s3 ln cs3 H.size (y_hs H) hrd) (cwV 0 hts (x_goodV k_607 k_608 k_609 k_2 k_610) rfl rfl rfl (by decide +kernel) ⟨Nat.le_of_ble_eq_true rfl, Nat.le_of_ble_eq_true rfl⟩) ⟨y_blind, va_recv hK hP (ci := 3) (q0 := 1) rfl (y_W_ob (by decide) (by decide)), fun U9 hU9 hW9 => y_pre hU9 hW9 hP hD hU hZ hS hAN hN0⟩ rfl rfl hl.1 rfl (lv_room (Nat.le_of_ble_eq_true rfl)) d_CM_load_24 ⟨(by show 0 + (3 * (72 - 0) + 2) + (0) ≤ (2000 * K + 14 - cq + (400 * K + 12 - cs)) / 5 + 240; omega), (by show 0 + (100 * (72 - 0) + 80) + (0) ≤ 4 * (2000 * K + 14 - cq + (400 * K + 12 - cs)) + 7500; omega)⟩) hS (fun q _ h => hFc q h) hFc (fun r_7 u t H1 locs ht hvm hw hB hz1 hk1 hS => ?_)
    obtain ⟨I8, T8, A8, O8, pl8, q8, s8, cq8, cs8⟩ := u
    dsimp only at hw hB
    rw [ht] at hB
    obtain ⟨hP, hD1, hac8⟩ := hB
    have hD : va_D Bq (y_W ad ar I8 T8 A8 O8 pl8) := hD1.weaken (fun _ q _ h => hFc q.1 h)
    generalize H1 = H at hP hS hac8 ⊢
    have hae8 := hac8
    try unfold y_ac at hae8
    try dsimp only at hae8
    refine W.widen (k := 0 + (3 * (72 - 0) + 2)) (n := 0 + (100 * (72 - 0) + 80)) (by omega) (by omega) ?_
    obtain ⟨hrd, e2, e4, e5, fr8, e6, e7, hge8, hcc8, hr9⟩ := hw
    rw [e2, e4, e5] at hP hD
    rw [e6, e7] at hrd
    have hP : va_P (dC, dI) y_cl (y_W ad ar I8 T A8 O3 pl3) H := hP
    have hD : va_D Bq (y_W ad ar I8 T A8 O3 pl3) := hD
    have hmi : y_MI z ar G9 C9 Gs9 I8 O3 (y_L pl3) (qn, sn, cq, cs) := hmi.to (fr8 10 (by decide)) (fr8 11 (by decide)) (fr8 12 (by decide)) (fr8 14 (by decide))
    rcases hr9 with rfl | rfl
    · refine lv_if_eq (tgt := 34) hx hb d_CM_load_27 (by decide) (fun _ => ?_) (fun c9 => absurd (by decide) c9)
      refine lv_iconst (v := 0) hx hb d_CM_load_34 (by decide) ?_
      refine lv_istore_n (lv' := [(1, .int 0), (0, .ref (ad 0))]) hx hb d_CM_load_35 rfl hl (by decide) rfl (fun ls hl => ?_)
      refine lv_aload_n hx hb d_CM_load_36 rfl (lv_at hl 1 rfl) ?_
      refine k_g (C := "ChannelMachine") (F := F_CM) (N := 3) hx hb hts i_CM hown hK hP 0 0 (by decide) (by decide) rfl (by decide) (d := (0, 1)) rfl (hts _ k_194) (fun _ h9 => h9) (v := .ref (ad 1)) rfl d_CM_load_37 ?_
      refine lv_iconst (v := 0) hx hb d_CM_load_40 (by decide) ?_
      refine W.eq (g2 := F0 m 41 ls [.int (Int32.ofNat 0), .ref (ad 1)]) rfl ?_
      refine k_piN (C := "ChannelMachine$Reader") (F := F_Reader) (N := 9) hx hb hts i_Reader hown t_Reader t_Reader_ok n_Reader hK hP hD hS 1 2 (by decide) (by decide) rfl (by decide) (j := 1) (x := (Int32.ofNat 0)) rfl (hU.1.2.1 _ kn_46) (fun _ h9 => h9) rfl (by decide +kernel) d_CM_load_41 (fun H locs hP hD hS => ?_)
      have hmi : y_MI z ar G9 C9 Gs9 (upd I8 1 (Int32.ofNat 0)) O3 (y_L pl3) (qn, sn, cq, cs) := hmi
      refine lv_iload_n hx hb d_CM_load_44 rfl (lv_at hl 0 rfl) ?_
      refine lv_if_ne (tgt := 69) hx hb d_CM_load_45 (by decide) (fun c10 => absurd rfl c10) (fun _ => ?_)
      refine lv_aload_n hx hb d_CM_load_48 rfl (lv_at hl 1 rfl) ?_
      refine lv_aload_n hx hb d_CM_load_49 rfl (lv_at hl 1 rfl) ?_
      refine k_g (C := "ChannelMachine") (F := F_CM) (N := 3) hx hb hts i_CM hown hK hP 0 0 (by decide) (by decide) rfl (by decide) (d := (0, 1)) rfl (hts _ k_194) (fun _ h9 => h9) (v := .ref (ad 1)) rfl d_CM_load_50 ?_
      refine k_gN (C := "ChannelMachine$Reader") (F := F_Reader) (N := 9) hx hb hts i_Reader hown hK hP 1 6 (by decide) (by decide) rfl (by decide) (d := (1, 5)) rfl (hU.1.2.1 _ kn_51) (fun _ h9 => h9) (v := .int (I8 5)) rfl d_CM_load_53 ?_
      refine k_pi (C := "ChannelMachine") (F := F_CM) (N := 3) hx hb hts i_CM hown t_CM t_CM_ok n_CM hK hP hD hS 0 2 (by decide) (by decide) rfl (by decide) (j := 0) (x := (I8 5)) rfl (hts _ k_196) (fun _ h9 => h9) rfl (by decide +kernel) d_CM_load_56 (fun H locs hP hD hS => ?_)
      have hmi : y_MI z ar G9 C9 Gs9 (upd (upd I8 1 (Int32.ofNat 0)) 0 (I8 5)) O3 (y_L pl3) (qn, sn, cq, cs) := hmi
      have hfr9 : m_fr [0, 1, 2, 3, 4, 5, 6] I (upd (upd I8 1 (Int32.ofNat 0)) 0 (I8 5)) := ((((((((m_fr.rf.up (by decide) _).up (by decide) _).up (by decide) _).up (by decide) _).tr fr3 (by decide)).tr fr8 (by decide)).up (by decide) _).up (by decide) _)
      obtain ⟨c9, hc91, hc92, _⟩ := hrd.1.2.1
      have hcr9 : y_CR (upd (upd I8 1 (Int32.ofNat 0)) 0 (I8 5)) (qn, sn, cq, cs) K 0 := ⟨⟨by decide, rfl⟩, ⟨c9, hc91, hc92⟩, (hci.k70 (hfr9 7 (by decide)) (hfr9 9 (by decide))), ⟨by dsimp only; omega, by dsimp only; omega, by dsimp only; omega, by dsimp only; omega⟩⟩
      have hco9 : y_CO z ar (upd (upd I8 1 (Int32.ofNat 0)) 0 (I8 5)) O3 (y_L pl3) (qn, sn, cq, cs) K 0 := ⟨_, _, _, hmi, hcr9⟩
      refine y_know (fun hy91 hy92 hy93 hy94 => ?_)
      refine y_xW (XC' := fun E st t => E = "java/lang/IllegalArgumentException" ∧ va_P (dC, dI) y_cl (y_W ad ar (upd (upd I8 1 (Int32.ofNat 0)) 0 (I8 5)) T A8 O3 pl3) t.heap ∧ va_F Bq st t) (mc' := 0 + (3 * (72 - 0) + 2) + 1) (ms' := 0 + (100 * (72 - 0) + 80) + 6) (by omega) (by omega) (fun E t hx9 hz9 hk9 => ?_) ?_
      · obtain ⟨rfl, hx1, hx2⟩ := hx9
        have hac9 : y_aE 7400 1200 (cq + cs) s.heap.size (y_hs s.heap) (cq + cs) t.heap := ⟨by omega, by omega⟩
        exact ⟨((upd (upd I8 1 (Int32.ofNat 0)) 0 (I8 5)), T, A8, O3, pl3, (qn, sn, cq, cs)), hco9, ⟨hx1, hD, rfl, hac9⟩, hx2⟩
      exact x_throw (A := Bq) hx hb hst (own := "ChannelMachine") (cls := "java/lang/IllegalArgumentException") (text := "not a program") (ik := 31) (is := 62) (ic := 35) hown k_230 k_13 (by decide) x_tChannelMachine_35 (by decide +kernel) rfl hts hU.1 hZ.1 hAN hS (by rw [hml]; exact hl.1) d_CM_load_59 d_CM_load_62 d_CM_load_63 d_CM_load_65 d_CM_load_68 htb (Nat.le_of_ble_eq_true rfl) (Nat.le_of_ble_eq_true rfl) (by show 0 + (3 * (72 - 0) + 2) + 1 ≤ (2000 * K + 14 - cq + (400 * K + 12 - cs)) / 5 + 240; omega) (by show 0 + (100 * (72 - 0) + 80) + 6 ≤ 4 * (2000 * K + 14 - cq + (400 * K + 12 - cs)) + 7500; omega) hlocks (fun t h1 h2 h3 h4 => ⟨rfl, fun k q hk => (hP k q hk).kept (h3 q.1 (hP k q hk).lt), h4⟩) hS.2.2 (Nat.le_refl _) (Nat.le_refl _)
    · refine lv_if_eq (tgt := 34) hx hb d_CM_load_27 (by decide) (fun c11 => absurd c11 (by decide)) (fun _ => ?_)
      refine lv_iconst (v := 1) hx hb d_CM_load_30 (by decide) ?_
      refine lv_goto (tgt := 35) hx hb d_CM_load_31 (by decide) ?_
      refine lv_istore_n (lv' := [(1, .int 1), (0, .ref (ad 0))]) hx hb d_CM_load_35 rfl hl (by decide) rfl (fun ls hl => ?_)
      refine lv_aload_n hx hb d_CM_load_36 rfl (lv_at hl 1 rfl) ?_
      refine k_g (C := "ChannelMachine") (F := F_CM) (N := 3) hx hb hts i_CM hown hK hP 0 0 (by decide) (by decide) rfl (by decide) (d := (0, 1)) rfl (hts _ k_194) (fun _ h9 => h9) (v := .ref (ad 1)) rfl d_CM_load_37 ?_
      refine lv_iconst (v := 0) hx hb d_CM_load_40 (by decide) ?_
      refine W.eq (g2 := F0 m 41 ls [.int (Int32.ofNat 0), .ref (ad 1)]) rfl ?_
      refine k_piN (C := "ChannelMachine$Reader") (F := F_Reader) (N := 9) hx hb hts i_Reader hown t_Reader t_Reader_ok n_Reader hK hP hD hS 1 2 (by decide) (by decide) rfl (by decide) (j := 1) (x := (Int32.ofNat 0)) rfl (hU.1.2.1 _ kn_46) (fun _ h9 => h9) rfl (by decide +kernel) d_CM_load_41 (fun H locs hP hD hS => ?_)
      have hmi : y_MI z ar G9 C9 Gs9 (upd I8 1 (Int32.ofNat 0)) O3 (y_L pl3) (qn, sn, cq, cs) := hmi
      refine lv_iload_n hx hb d_CM_load_44 rfl (lv_at hl 0 rfl) ?_
      refine lv_if_ne (tgt := 69) hx hb d_CM_load_45 (by decide) (fun _ => ?_) (fun c12 => absurd c12 (by decide))
      refine lv_aload_n hx hb d_CM_load_69 rfl (lv_at hl 1 rfl) ?_
      refine k_g (C := "ChannelMachine") (F := F_CM) (N := 3) hx hb hts i_CM hown hK hP 0 1 (by decide) (by decide) rfl (by decide) (d := (0, 4)) rfl (hts _ k_195) (fun _ h9 => h9) (v := .ref (ad 4)) rfl d_CM_load_70 ?_
      refine lv_aload_n hx hb d_CM_load_73 rfl (lv_at hl 1 rfl) ?_
      refine k_g (C := "ChannelMachine") (F := F_CM) (N := 3) hx hb hts i_CM hown hK hP 0 0 (by decide) (by decide) rfl (by decide) (d := (0, 1)) rfl (hts _ k_194) (fun _ h9 => h9) (v := .ref (ad 1)) rfl d_CM_load_74 ?_
      refine k_gN (C := "ChannelMachine$Reader") (F := F_Reader) (N := 9) hx hb hts i_Reader hown hK hP 1 8 (by decide) (by decide) rfl (by decide) (d := (3, 0)) rfl (hU.1.2.1 _ kn_55) (fun _ h9 => h9) (v := .ref p9) (by show va_rf (O3 0) = _; rw [hpr rfl]; rfl) d_CM_load_77 ?_
      refine d_gN (C := "ChannelMachine$Process") (F := F_Process) (N := 10) hx hb hts i_Process hown hK hP hfp 5 rfl (by decide) (hU.1.2.1 _ kn_407) (fun _ h9 => h9) (v := .ref t9) rfl d_CM_load_80 ?_
      have hgg0 := y_gg 0 cq
      refine y_know (fun hya1 hya2 hya3 hya4 => ?_)
      have hFc := y_free hD hS hA
      refine va_callv (va_runV (As := [.ref t9]) (rest := []) ⟨hx, hb, hml, hown, hts⟩ (c_M_begin2 l dC dI ar N0 z ad (upd I8 1 (Int32.ofNat 0)) T A8 O3 pl3 G9 C9 Gs9 qn sn cq cs t9 H.size (y_hs H) hmi htt) (cwV 1 hts (x_goodV k_612 k_613 k_614 k_3 k_615) rfl rfl rfl (by decide +kernel) ⟨Nat.le_of_ble_eq_true rfl, Nat.le_of_ble_eq_true rfl⟩) ⟨y_blind, va_recv hK hP (ci := 2) (q0 := 4) rfl (y_W_ob (by decide) (by decide)), fun U9 hU9 hW9 => y_pre hU9 hW9 hP hD hU hZ hS hAN hN0⟩ rfl rfl hl.1 rfl (lv_room (Nat.le_of_ble_eq_true rfl)) d_CM_load_83 ⟨(by show 0 + (3 * (72 - 0) + 2) + (y_gc 0 cq) ≤ (2000 * K + 14 - cq + (400 * K + 12 - cs)) / 5 + 240; omega), (by show 0 + (100 * (72 - 0) + 80) + (y_gs 0 cq) ≤ 4 * (2000 * K + 14 - cq + (400 * K + 12 - cs)) + 7500; omega)⟩) hS (fun q _ h => hFc q h) hFc (fun u t H1 locs ht hvm hw hB hz1 hk1 hS => ?_)
      obtain ⟨I13, T13, A13, O13, pl13, q13, s13, cq13, cs13⟩ := u
      dsimp only at hw hB
      rw [ht] at hB
      obtain ⟨hP, hD1, hac13⟩ := hB
      have hD : va_D Bq (y_W ad ar I13 T13 A13 O13 pl13) := hD1.weaken (fun _ q _ h => hFc q.1 h)
      generalize H1 = H at hP hS hac13 ⊢
      have hae13 := hac13
      try unfold y_ac at hae13
      try dsimp only at hae13
      obtain ⟨hmi, hbd13, fr13, h90⟩ := hw
      unfold y_ac at hac13
      have hb13 := hbd13
      unfold y_bd at hb13
      dsimp only at hb13 hac13
      refine lv_aload_n hx hb d_CM_load_86 rfl (lv_at hl 1 rfl) ?_
      refine k_g (C := "ChannelMachine") (F := F_CM) (N := 3) hx hb hts i_CM hown hK hP 0 0 (by decide) (by decide) rfl (by decide) (d := (0, 1)) rfl (hts _ k_194) (fun _ h9 => h9) (v := .ref (ad 1)) rfl d_CM_load_87 ?_
      refine k_gN (C := "ChannelMachine$Reader") (F := F_Reader) (N := 9) hx hb hts i_Reader hown hK hP 1 7 (by decide) (by decide) rfl (by decide) (d := (1, 6)) rfl (hU.1.2.1 _ kn_53) (fun _ h9 => h9) (v := .int (I13 6)) rfl d_CM_load_90 ?_
      have hfr9 : m_fr [0, 1, 2, 3, 4, 5, 6, 7, 8, 9, 10, 11, 12, 13, 14, 15] I I13 := ((((((((m_fr.rf.up (by decide) _).up (by decide) _).up (by decide) _).up (by decide) _).tr fr3 (by decide)).tr fr8 (by decide)).up (by decide) _).tr fr13 (by decide))
      obtain ⟨c9, hc91, hc92, _⟩ := hrd.1.2.1
      have hcr9 : y_CR I13 (q13, s13, cq13, cs13) K 0 := ⟨⟨by decide, (fr13 1 (by decide)).trans rfl⟩, ⟨c9, hc91, (fr13 2 (by decide)).trans hc92⟩, fun _ => ⟨0, by omega, h90⟩, ⟨by dsimp only; omega, by dsimp only; omega, by dsimp only; omega, by dsimp only; omega⟩⟩
      have hco9 : y_CO z ar I13 O13 (y_L pl13) (q13, s13, cq13, cs13) K 0 := ⟨_, _, _, hmi, hcr9⟩
      refine vx_ret ?_
      refine y_know (fun hy91 hy92 hy93 hy94 => ?_)
      have hac9 : y_aE 7400 1200 (cq + cs) s.heap.size (y_hs s.heap) (cq13 + cs13) H := ⟨by omega, by omega⟩
      refine W.widen (k := (2000 * K + 14 - cq + (400 * K + 12 - cs)) / 5 + 240) (n := 4 * (2000 * K + 14 - cq + (400 * K + 12 - cs)) + 7500) (by omega) (by omega) ?_
      exact W.iret (v := (I13 6)) hx hb hr (fun t ht hW => ⟨⟨(I13 6), (I13, T13, A13, O13, pl13, (q13, s13, cq13, cs13)), rfl, hco9, (by dsimp only; rw [ht]; exact ⟨hP, hD, hac9⟩)⟩, hS.F ht⟩) hS.2.2 d_CM_load_93
theorem y_sh8 {k : Nat} (h : k < 8) : (8 * (7 - Int32.ofNat k) : Int32) = Int32.ofNat (8 * (7 - k)) := by rcases x_8 h with rfl | rfl | rfl | rfl | rfl | rfl | rfl | rfl <;> decide
theorem y_cNm {e : Int64} {i j : Nat} (h : i ≤ j) : x_cN e i ≤ x_cN e j := by
  induction j with
  | zero => rw [show i = 0 by omega]; exact Nat.le_refl _
  | succ j ih =>
    by_cases e1 : i = j + 1
    · rw [e1]; exact Nat.le_refl _
    · exact Nat.le_trans (ih (by omega)) (Nat.le_add_right _ _)
set_option maxHeartbeats 4000000 in
set_option maxRecDepth 100000 in
theorem c_Rd_append (l : Launch) (dC : Nat → ClassId) (dI : Nat → Nat → Nat) (ar : Nat → ClassId) (N0 : Nat) (z : Nat → Nat) (ad : Nat → Nat) (I : Nat → Int32) (T : Int64) (A : Nat → Nat → Int32) (O : Nat → Option Nat) (pl : va_W) (l1 : Nat) (cv : Int32) (sz w0 : Nat) (hl1 : I 1 = Int32.ofNat l1) (hl2 : l1 < 72) : Met l ({ cls := "ChannelMachine$Reader", name := "append", desc := "(C)V" } : Jvm.MethodName) ((Jvm.Cond.code ({ cls := "ChannelMachine$Reader", name := "append", desc := "(C)V" } : Jvm.MethodName) prog_8_method_2_code (2 : Nat) (Option.none : Option Jvm.ClassFile.FieldType)) :: x_T) ({ frames := 0, cells := 0, slots := 0, locals := 0 }) (y_Pc (dC, dI) ar N0 z (y_W ad ar I T A O pl) sz w0 [.ref (ad 1), .int cv]) (va_Qv (fun (u : (Nat → Int32) × Int64 × (Nat → Nat → Int32) × (Nat → Option Nat) × va_W × (Nat × Nat × Nat × Nat)) => u.1 1 = Int32.ofNat (l1 + 1) ∧ m_fr [1] I u.1 ∧ u.2.1 = T ∧ u.2.2.2.1 = O ∧ u.2.2.2.2.1 = pl) (fun u t => va_P (dC, dI) y_cl (y_W ad ar u.1 u.2.1 u.2.2.1 u.2.2.2.1 u.2.2.2.2.1) t.heap ∧ va_D (va_A (y_W ad ar I T A O pl) sz) (y_W ad ar u.1 u.2.1 u.2.2.1 u.2.2.2.1 u.2.2.2.2.1) ∧ True) (va_A (y_W ad ar I T A O pl) sz)) (0) (0) (va_A (y_W ad ar I T A O pl) sz) := by
  refine Met.ofW (cc := prog_8_method_2_code) (maxL := 2) (ret := none) (by decide) rfl ?_
  intro p e s m args below meth c s₁ B hml hv
  obtain ⟨rfl, hsz, hN0, hP, hU, hZ, hD0, hw0⟩ := hv
  have hK := hU.2.1
  have hx := B.exec
  have hb := B.bytes
  have hr := B.returns
  have hts : ∀ w ∈ x_T, w.before ([.ref (ad 1), .int cv] : List Value).toArray s = true := fun w h => atoms_spec (ws := (Jvm.Cond.code ({ cls := "ChannelMachine$Reader", name := "append", desc := "(C)V" } : Jvm.MethodName) prog_8_method_2_code (2 : Nat) (Option.none : Option Jvm.ClassFile.FieldType)) :: x_T) B.pre w (List.mem_cons_of_mem _ h)
  have hown : s.vm.findClass "ChannelMachine$Reader" = some m.cls := findClass_of_methodNamed B.named
  have hlocks := B.notSynchronized
  subst hsz
  subst hw0
  have hD := hD0.self (sz := s.heap.size)
  have hAN := x_AN hD0 hN0
  generalize hAe : va_A (y_W ad ar I T A O pl) s.heap.size = Bq at hD hAN ⊢
  have hA : ∀ q : Nat, s.heap.size ≤ q → Bq q := fun q h => by rw [← hAe]; exact Or.inr h
  have hS : va_S Bq s.heap s.heap [] := va_S.rf
  have hl := lv_entry ([.ref (ad 1), .int cv]) (n := 2) (Nat.le_of_ble_eq_true rfl)
  rw [lg_entry_eq]
  generalize (lg_sl ([.ref (ad 1), .int cv]) ++ List.replicate (2 - (lg_sl ([.ref (ad 1), .int cv])).length) Slot.unset).toArray = ls at hl ⊢
  have hl : lv_has ls 2 [(0, .ref (ad 1)), (1, .int cv)] := hl
  refine lv_aload_n hx hb d_Reader_append_0 rfl (lv_at hl 0 rfl) ?_
  refine k_g (C := "ChannelMachine$Reader") (F := F_Reader) (N := 9) hx hb hts i_Reader hown hK hP 1 2 (by decide) (by decide) rfl (by decide) (d := (1, 1)) rfl (hts _ k_45) (fun _ h9 => h9) (v := .int (Int32.ofNat l1)) (congrArg Value.int hl1) d_Reader_append_1 ?_
  refine lv_bipush (v := 72) hx hb d_Reader_append_4 (by decide) ?_
  refine lv_icmp_ge (tgt := 29) hx hb d_Reader_append_6 (by decide) (fun c_1 => ?_) (fun c_1 => ?_)
  · have c_1 : 72 ≤ l1 := (x_leN (a := 72) (b := l1) (by omega) (by omega)).mp c_1
    exact absurd hl2 (by omega)
  · have c_1 : ¬ 72 ≤ l1 := fun h9 => c_1 ((x_leN (a := 72) (b := l1) (by omega) (by omega)).mpr h9)
    refine lv_aload_n hx hb d_Reader_append_9 rfl (lv_at hl 0 rfl) ?_
    refine k_g (C := "ChannelMachine$Reader") (F := F_Reader) (N := 9) hx hb hts i_Reader hown hK hP 1 0 (by decide) (by decide) rfl (by decide) (d := (0, 2)) rfl (hts _ k_43) (fun _ h9 => h9) (v := .ref (ad 2)) rfl d_Reader_append_10 ?_
    refine lv_aload_n hx hb d_Reader_append_13 rfl (lv_at hl 0 rfl) ?_
    refine k_g (C := "ChannelMachine$Reader") (F := F_Reader) (N := 9) hx hb hts i_Reader hown hK hP 1 2 (by decide) (by decide) rfl (by decide) (d := (1, 1)) rfl (hts _ k_45) (fun _ h9 => h9) (v := .int (Int32.ofNat l1)) (congrArg Value.int hl1) d_Reader_append_14 ?_
    refine lv_iload_n hx hb d_Reader_append_17 rfl (lv_at hl 1 rfl) ?_
    refine k_cst hx hb hK hP hD hS (j := (Int32.ofNat l1)) (x := cv) (x_inN (show l1 < 72 from by omega) (by decide)) d_Reader_append_18 (fun H locs hP hD hS => ?_)
    generalize m_up A 2 _ = A2 at hP hD
    refine lv_aload_n hx hb d_Reader_append_19 rfl (lv_at hl 0 rfl) ?_
    refine lv_dup hx hb d_Reader_append_20 rfl ?_
    refine k_g (C := "ChannelMachine$Reader") (F := F_Reader) (N := 9) hx hb hts i_Reader hown hK hP 1 2 (by decide) (by decide) rfl (by decide) (d := (1, 1)) rfl (hts _ k_45) (fun _ h9 => h9) (v := .int (Int32.ofNat l1)) (congrArg Value.int hl1) d_Reader_append_21 ?_
    refine lv_iconst (v := 1) hx hb d_Reader_append_24 (by decide) ?_
    refine lv_iadd hx hb d_Reader_append_25 ?_
    refine W.eq (g2 := F0 m 26 ls [.int (Int32.ofNat (l1 + 1)), .ref (ad 1)]) (by rw [← x_addN (a := l1) (b := 1)] <;> rfl) ?_
    refine k_pi (C := "ChannelMachine$Reader") (F := F_Reader) (N := 9) hx hb hts i_Reader hown t_Reader t_Reader_ok n_Reader hK hP hD hS 1 2 (by decide) (by decide) rfl (by decide) (j := 1) (x := (Int32.ofNat (l1 + 1))) rfl (hts _ k_45) (fun _ h9 => h9) rfl (by decide +kernel) d_Reader_append_26 (fun H locs hP hD hS => ?_)
    refine y_know (fun hy91 hy92 hy93 hy94 => ?_)
    have hac9 : True := trivial
    refine W.widen (k := 0) (n := 0) (by omega) (by omega) ?_
    exact W.vret hx hb hr (fun t ht hW => ⟨⟨((upd I 1 (Int32.ofNat (l1 + 1))), T, A2, O, pl, (0, 0, 0, 0)), rfl, ⟨rfl, (m_fr.rf.up (by decide) _), rfl, rfl, rfl⟩, (by dsimp only; rw [ht]; exact ⟨hP, hD, hac9⟩)⟩, hS.F ht⟩) hS.2.2 d_Reader_append_29
set_option maxHeartbeats 4000000 in
set_option maxRecDepth 100000 in
theorem c_C_byteAt (l : Launch) (dC : Nat → ClassId) (dI : Nat → Nat → Nat) (ar : Nat → ClassId) (N0 : Nat) (z : Nat → Nat) (ad : Nat → Nat) (I : Nat → Int32) (T : Int64) (A : Nat → Nat → Int32) (O : Nat → Option Nat) (pl : va_W) (eg : Int64) (ii : Nat) (sz w0 : Nat) (hii : ii < 8) : Met l ({ cls := "ChannelMachine", name := "byteAt", desc := "(JI)I" } : Jvm.MethodName) ((Jvm.Cond.code ({ cls := "ChannelMachine", name := "byteAt", desc := "(JI)I" } : Jvm.MethodName) prog_1_method_3_code (3 : Nat) (Option.some Jvm.ClassFile.FieldType.int)) :: x_T) ({ frames := 0, cells := 0, slots := 0, locals := 0 }) (y_Pc (dC, dI) ar N0 z (y_W ad ar I T A O pl) sz w0 [.long eg, .int (Int32.ofNat ii)]) (va_Qi (fun (r : Int32) (u : (Nat → Int32) × Int64 × (Nat → Nat → Int32) × (Nat → Option Nat) × va_W × (Nat × Nat × Nat × Nat)) => u = (I, T, A, O, pl, 0, 0, 0, 0) ∧ r = x_y eg ii) (fun u t => va_P (dC, dI) y_cl (y_W ad ar u.1 u.2.1 u.2.2.1 u.2.2.2.1 u.2.2.2.2.1) t.heap ∧ va_D (va_A (y_W ad ar I T A O pl) sz) (y_W ad ar u.1 u.2.1 u.2.2.1 u.2.2.2.1 u.2.2.2.2.1) ∧ True) (va_A (y_W ad ar I T A O pl) sz)) (0) (0) (va_A (y_W ad ar I T A O pl) sz) := by
  refine Met.ofW (cc := prog_1_method_3_code) (maxL := 3) (ret := (some .int)) (by decide) rfl ?_
  intro p e s m args below meth c s₁ B hml hv
  obtain ⟨rfl, hsz, hN0, hP, hU, hZ, hD0, hw0⟩ := hv
  have hK := hU.2.1
  have hx := B.exec
  have hb := B.bytes
  have hr := B.returns
  have hts : ∀ w ∈ x_T, w.before ([.long eg, .int (Int32.ofNat ii)] : List Value).toArray s = true := fun w h => atoms_spec (ws := (Jvm.Cond.code ({ cls := "ChannelMachine", name := "byteAt", desc := "(JI)I" } : Jvm.MethodName) prog_1_method_3_code (3 : Nat) (Option.some Jvm.ClassFile.FieldType.int)) :: x_T) B.pre w (List.mem_cons_of_mem _ h)
  have hown : s.vm.findClass "ChannelMachine" = some m.cls := findClass_of_methodNamed B.named
  have hlocks := B.notSynchronized
  subst hsz
  subst hw0
  have hD := hD0.self (sz := s.heap.size)
  have hAN := x_AN hD0 hN0
  generalize hAe : va_A (y_W ad ar I T A O pl) s.heap.size = Bq at hD hAN ⊢
  have hA : ∀ q : Nat, s.heap.size ≤ q → Bq q := fun q h => by rw [← hAe]; exact Or.inr h
  have hS : va_S Bq s.heap s.heap [] := va_S.rf
  have hl := lv_entry ([.long eg, .int (Int32.ofNat ii)]) (n := 3) (Nat.le_of_ble_eq_true rfl)
  rw [lg_entry_eq]
  generalize (lg_sl ([.long eg, .int (Int32.ofNat ii)]) ++ List.replicate (3 - (lg_sl ([.long eg, .int (Int32.ofNat ii)])).length) Slot.unset).toArray = ls at hl ⊢
  have hl : lv_has ls 3 [(0, .long eg), (2, .int (Int32.ofNat ii))] := hl
  refine lv_lload_n hx hb d_CM_byteAt_0 rfl (lv_at hl 0 rfl) ?_
  refine lv_bipush (v := 8) hx hb d_CM_byteAt_1 (by decide) ?_
  refine lv_bipush (v := 7) hx hb d_CM_byteAt_3 (by decide) ?_
  refine lv_iload_n hx hb d_CM_byteAt_5 rfl (lv_at hl 1 rfl) ?_
  refine lv_isub hx hb d_CM_byteAt_6 ?_
  refine W.eq (g2 := F0 m 7 ls [.int (Int32.ofNat (7 - ii)), .int 8, .long eg]) (by rw [← x_subN (a := 7) (b := ii) (by omega)] <;> rfl) ?_
  refine lv_imul hx hb d_CM_byteAt_7 ?_
  refine W.eq (g2 := F0 m 8 ls [.int (Int32.ofNat (8 * (7 - ii))), .long eg]) (by rw [← x_mulN (a := 8) (b := (7 - ii))] <;> rfl) ?_
  refine lv_lushr (v := (Int64.toUInt64 eg >>> (Int64.toUInt64 (Int32.toInt64 (Int32.ofNat (8 * (7 - ii)))) &&& Int64.toUInt64 63)).toInt64) hx hb d_CM_byteAt_8 rfl ?_
  refine lv_l2i (v := (Int64.toInt32 (Int64.toUInt64 eg >>> (Int64.toUInt64 (Int32.toInt64 (Int32.ofNat (8 * (7 - ii)))) &&& Int64.toUInt64 63)).toInt64)) hx hb d_CM_byteAt_9 rfl ?_
  refine lv_sipush (v := 255) hx hb d_CM_byteAt_10 (by decide) ?_
  refine lv_iand hx hb d_CM_byteAt_13 ?_
  refine y_know (fun hy91 hy92 hy93 hy94 => ?_)
  have hac9 : True := trivial
  refine W.widen (k := 0) (n := 0) (by omega) (by omega) ?_
  exact W.iret (v := ((Int64.toInt32 (Int64.toUInt64 eg >>> (Int64.toUInt64 (Int32.toInt64 (Int32.ofNat (8 * (7 - ii)))) &&& Int64.toUInt64 63)).toInt64) &&& 255)) hx hb hr (fun t ht hW => ⟨⟨((Int64.toInt32 (Int64.toUInt64 eg >>> (Int64.toUInt64 (Int32.toInt64 (Int32.ofNat (8 * (7 - ii)))) &&& Int64.toUInt64 63)).toInt64) &&& 255), (I, T, A, O, pl, (0, 0, 0, 0)), rfl, ⟨rfl, (by unfold x_y x_b; rw [y_sh8 hii] <;> rfl)⟩, (by dsimp only; rw [ht]; exact ⟨hP, hD, hac9⟩)⟩, hS.F ht⟩) hS.2.2 d_CM_byteAt_14
set_option maxHeartbeats 4000000 in
set_option maxRecDepth 100000 in
theorem c_C_type (l : Launch) (hst : l.stackTraces = false) (dC : Nat → ClassId) (dI : Nat → Nat → Nat) (ar : Nat → ClassId) (N0 : Nat) (z : Nat → Nat) (ad : Nat → Nat) (I : Nat → Int32) (T : Int64) (A : Nat → Nat → Int32) (O : Nat → Option Nat) (pl : va_W) (G : Nat → Nat) (C Gs : Nat → List Nat) (qn sn cq cs : Nat) (K ln : Nat) (eg : Int64) (sz w0 : Nat) (hmi : y_MI z ar G C Gs I O (y_L pl) (qn, sn, cq, cs)) (hK5 : K ≤ 511) (hci : y_CR I (qn, sn, cq, cs) K ln) : vx_Met l ({ cls := "ChannelMachine", name := "type", desc := "(J)I" } : Jvm.MethodName) ((Jvm.Cond.code ({ cls := "ChannelMachine", name := "type", desc := "(J)I" } : Jvm.MethodName) prog_1_method_2_code (6 : Nat) (Option.some Jvm.ClassFile.FieldType.int)) :: x_T) ({ frames := 6, cells := (2000 * (K + 1) + 14 - cq + (400 * (K + 1) + 12 - cs)) / 5 + 8, slots := 4 * (2000 * (K + 1) + 14 - cq + (400 * (K + 1) + 12 - cs)) + 110, locals := 84 }) (y_Pc (dC, dI) ar N0 z (y_W ad ar I T A O pl) sz w0 [.ref (ad 0), .long eg]) (va_Qi (fun (r : Int32) (u : (Nat → Int32) × Int64 × (Nat → Nat → Int32) × (Nat → Option Nat) × va_W × (Nat × Nat × Nat × Nat)) => y_CO z ar u.1 u.2.2.2.1 (y_L u.2.2.2.2.1) u.2.2.2.2.2 (K + 1) (ln + x_cN eg 8) ∧ x_okk eg 8 ∧ ln + x_cN eg 8 ≤ 72 ∧ r = Int32.ofNat (ln + x_cN eg 8)) (fun u t => va_P (dC, dI) y_cl (y_W ad ar u.1 u.2.1 u.2.2.1 u.2.2.2.1 u.2.2.2.2.1) t.heap ∧ va_D (va_A (y_W ad ar I T A O pl) sz) (y_W ad ar u.1 u.2.1 u.2.2.1 u.2.2.2.1 u.2.2.2.2.1) ∧ y_aE 110 35 (cq + cs) sz w0 (u.2.2.2.2.2.2.2.1 + u.2.2.2.2.2.2.2.2) t.heap) (va_A (y_W ad ar I T A O pl) sz)) (vx_X (fun (u : (Nat → Int32) × Int64 × (Nat → Nat → Int32) × (Nat → Option Nat) × va_W × (Nat × Nat × Nat × Nat)) => y_CO z ar u.1 u.2.2.2.1 (y_L u.2.2.2.2.1) u.2.2.2.2.2 (K + 1) ln) (fun E u t => va_P (dC, dI) y_cl (y_W ad ar u.1 u.2.1 u.2.2.1 u.2.2.2.1 u.2.2.2.2.1) t.heap ∧ va_D (va_A (y_W ad ar I T A O pl) sz) (y_W ad ar u.1 u.2.1 u.2.2.1 u.2.2.2.1 u.2.2.2.2.1) ∧ ((E = "java/lang/IllegalArgumentException" ∧ ¬ x_okk eg 8) ∨ (E = "java/lang/IllegalStateException" ∧ x_okk eg 8 ∧ 72 < ln + x_cN eg 8)) ∧ y_aE 110 35 (cq + cs) sz w0 (u.2.2.2.2.2.2.2.1 + u.2.2.2.2.2.2.2.2) t.heap) (va_A (y_W ad ar I T A O pl) sz)) ((2000 * (K + 1) + 14 - cq + (400 * (K + 1) + 12 - cs)) / 5 + 8) (4 * (2000 * (K + 1) + 14 - cq + (400 * (K + 1) + 12 - cs)) + 110) (va_A (y_W ad ar I T A O pl) sz) := by
  refine vx_ofW (cc := prog_1_method_2_code) (maxL := 6) (ret := (some .int)) (by decide) rfl ?_
  intro p e s m args below meth c s₁ B hml htb hv
  obtain ⟨rfl, hsz, hN0, hP, hU, hZ, hD0, hw0⟩ := hv
  have hK := hU.2.1
  have hx := B.exec
  have hb := B.bytes
  have hr := B.returns
  have hts : ∀ w ∈ x_T, w.before ([.ref (ad 0), .long eg] : List Value).toArray s = true := fun w h => atoms_spec (ws := (Jvm.Cond.code ({ cls := "ChannelMachine", name := "type", desc := "(J)I" } : Jvm.MethodName) prog_1_method_2_code (6 : Nat) (Option.some Jvm.ClassFile.FieldType.int)) :: x_T) B.pre w (List.mem_cons_of_mem _ h)
  have hown : s.vm.findClass "ChannelMachine" = some m.cls := findClass_of_methodNamed B.named
  have hlocks := B.notSynchronized
  subst hsz
  subst hw0
  have hD := hD0.self (sz := s.heap.size)
  have hAN := x_AN hD0 hN0
  generalize hAe : va_A (y_W ad ar I T A O pl) s.heap.size = Bq at hD hAN ⊢
  have hA : ∀ q : Nat, s.heap.size ≤ q → Bq q := fun q h => by rw [← hAe]; exact Or.inr h
  have hS : va_S Bq s.heap s.heap [] := va_S.rf
  have hl := lv_entry ([.ref (ad 0), .long eg]) (n := 6) (Nat.le_of_ble_eq_true rfl)
  rw [lg_entry_eq]
  generalize (lg_sl ([.ref (ad 0), .long eg]) ++ List.replicate (6 - (lg_sl ([.ref (ad 0), .long eg])).length) Slot.unset).toArray = ls at hl ⊢
  have hl : lv_has ls 6 [(0, .ref (ad 0)), (1, .long eg)] := hl
  have hbn := hci.2.2.2
  dsimp only at hbn
  have hle := y_LS.le hmi.2.1.2
  have hle2 := y_LS.le hmi.2.2.1.2
  have hcap := hmi.2.2.2.2.1
  dsimp only at hle hle2 hcap
  have hln := hci.1.1
  refine lv_iconst (v := 0) hx hb d_CM_type_0 (by decide) ?_
  refine W.eq (g2 := F0 m 1 ls [.int (Int32.ofNat (x_cN eg 0))]) rfl ?_
  refine lv_istore_n (lv' := [(3, .int (Int32.ofNat (x_cN eg 0))), (0, .ref (ad 0)), (1, .long eg)]) hx hb d_CM_type_1 rfl hl (by decide) rfl (fun ls hl => ?_)
  refine lv_iconst (v := 0) hx hb d_CM_type_2 (by decide) ?_
  refine W.eq (g2 := F0 m 3 ls [.int (Int32.ofNat 0)]) rfl ?_
  refine lv_istore (lv' := [(4, .int (Int32.ofNat 0)), (3, .int (Int32.ofNat (x_cN eg 0))), (0, .ref (ad 0)), (1, .long eg)]) hx hb d_CM_type_3 hl (by decide) rfl (fun ls hl => ?_)
  refine x_while (fun n H locs ls => ∃ (i1 : Nat), n = 8 - i1 ∧ i1 ≤ 8 ∧ x_okk eg i1 ∧ va_P (dC, dI) y_cl (y_W ad ar I T A O pl) H ∧ va_D Bq (y_W ad ar I T A O pl) ∧ va_S Bq s.heap H locs ∧ lv_has ls 6 [(0, .ref (ad 0)), (1, .long eg), (3, .int (Int32.ofNat (x_cN eg i1))), (4, .int (Int32.ofNat i1))]) (fun n ih H locs ls h9 => ?_) ⟨0, rfl, Nat.zero_le _, x_ok0, hP, hD, hS, lv_sub hl [2, 3, 1, 0] rfl⟩
  clear hP hD hS hl
  obtain ⟨i1, hn9, q9, hok, hP, hD, hS, hl⟩ := h9
  have hcle := x_cN_le eg i1
  refine lv_iload hx hb d_CM_type_5 (lv_at hl 3 rfl) ?_
  refine lv_bipush (v := 8) hx hb d_CM_type_7 (by decide) ?_
  refine lv_icmp_ge (tgt := 68) hx hb d_CM_type_9 (by decide) (fun c_1 => ?_) (fun c_1 => ?_)
  · have c_1 : 8 ≤ i1 := (x_leN (a := 8) (b := i1) (by omega) (by omega)).mp c_1
    have e8 : i1 = 8 := by omega
    subst e8
    have hok8 := hok
    refine lv_aload_n hx hb d_CM_type_68 rfl (lv_at hl 0 rfl) ?_
    refine k_g (C := "ChannelMachine") (F := F_CM) (N := 3) hx hb hts i_CM hown hK hP 0 0 (by decide) (by decide) rfl (by decide) (d := (0, 1)) rfl (hts _ k_194) (fun _ h9 => h9) (v := .ref (ad 1)) rfl d_CM_type_69 ?_
    refine k_gN (C := "ChannelMachine$Reader") (F := F_Reader) (N := 9) hx hb hts i_Reader hown hK hP 1 2 (by decide) (by decide) rfl (by decide) (d := (1, 1)) rfl (hU.1.2.1 _ kn_46) (fun _ h9 => h9) (v := .int (Int32.ofNat ln)) (congrArg Value.int hci.1.2) d_CM_type_72 ?_
    refine lv_iload_n hx hb d_CM_type_75 rfl (lv_at hl 2 rfl) ?_
    refine lv_iadd hx hb d_CM_type_76 ?_
    refine W.eq (g2 := F0 m 77 ls [.int (Int32.ofNat (ln + (x_cN eg 8)))]) (by rw [← x_addN (a := ln) (b := (x_cN eg 8))] <;> rfl) ?_
    refine lv_bipush (v := 72) hx hb d_CM_type_77 (by decide) ?_
    refine lv_icmp_le (tgt := 92) hx hb d_CM_type_79 (by decide) (fun c_2 => ?_) (fun c_2 => ?_)
    · have c_2 : (ln + (x_cN eg 8)) ≤ 72 := (x_leN (a := (ln + (x_cN eg 8))) (b := 72) (by omega) (by omega)).mp c_2
      refine lv_iconst (v := 0) hx hb d_CM_type_92 (by decide) ?_
      refine W.eq (g2 := F0 m 93 ls [.int (Int32.ofNat 0)]) rfl ?_
      refine lv_istore (lv' := [(4, .int (Int32.ofNat 0)), (0, .ref (ad 0)), (1, .long eg), (3, .int (Int32.ofNat (x_cN eg 8)))]) hx hb d_CM_type_93 hl (by decide) rfl (fun ls hl => ?_)
      have h72 : ln + x_cN eg 8 ≤ 72 := by omega
      refine x_while (fun n H locs ls => ∃ (I1 : Nat → Int32) (A1 : Nat → Nat → Int32) (i2 : Nat), n = 8 - i2 ∧ i2 ≤ 8 ∧ I1 1 = Int32.ofNat (ln + x_cN eg i2) ∧ m_fr [1] I I1 ∧ va_P (dC, dI) y_cl (y_W ad ar I1 T A1 O pl) H ∧ va_D Bq (y_W ad ar I1 T A1 O pl) ∧ va_S Bq s.heap H locs ∧ lv_has ls 6 [(0, .ref (ad 0)), (1, .long eg), (4, .int (Int32.ofNat i2))]) (fun n ih H locs ls h9 => ?_) ⟨I, A, 0, rfl, Nat.zero_le _, hci.1.2, m_fr.rf, hP, hD, hS, lv_sub hl [1, 2, 0] rfl⟩
      clear hP hD hS hl
      obtain ⟨I1, A1, i2, hn8, q7, hi1, hfr, hP, hD, hS, hl⟩ := h9
      have hcm := y_cNm (e := eg) q7
      refine lv_iload hx hb d_CM_type_95 (lv_at hl 2 rfl) ?_
      refine lv_bipush (v := 8) hx hb d_CM_type_97 (by decide) ?_
      refine lv_icmp_ge (tgt := 131) hx hb d_CM_type_99 (by decide) (fun c_3 => ?_) (fun c_3 => ?_)
      · have c_3 : 8 ≤ i2 := (x_leN (a := 8) (b := i2) (by omega) (by omega)).mp c_3
        have e7 : i2 = 8 := by omega
        subst e7
        refine lv_aload_n hx hb d_CM_type_131 rfl (lv_at hl 0 rfl) ?_
        refine k_g (C := "ChannelMachine") (F := F_CM) (N := 3) hx hb hts i_CM hown hK hP 0 0 (by decide) (by decide) rfl (by decide) (d := (0, 1)) rfl (hts _ k_194) (fun _ h9 => h9) (v := .ref (ad 1)) rfl d_CM_type_132 ?_
        refine k_gN (C := "ChannelMachine$Reader") (F := F_Reader) (N := 9) hx hb hts i_Reader hown hK hP 1 2 (by decide) (by decide) rfl (by decide) (d := (1, 1)) rfl (hU.1.2.1 _ kn_46) (fun _ h9 => h9) (v := .int (Int32.ofNat (ln + x_cN eg 8))) (congrArg Value.int hi1) d_CM_type_135 ?_
        have hfr9 : m_fr [1] I I1 := hfr
        have hcr9 : y_CR I1 (qn, sn, cq, cs) (K + 1) ((ln + x_cN eg 8)) := ⟨⟨by omega, hi1⟩, (by obtain ⟨c9, q1, q2⟩ := hci.2.1; exact ⟨c9, q1, (hfr9 2 (by decide)).trans q2⟩), hci.k7 (hfr9 7 (by decide)) (hfr9 9 (by decide)), ⟨by dsimp only; omega, by dsimp only; omega, by dsimp only; omega, by dsimp only; omega⟩⟩
        have hmi : y_MI z ar G C Gs I1 O (y_L pl) (qn, sn, cq, cs) := hmi.to (hfr9 10 (by decide)) (hfr9 11 (by decide)) (hfr9 12 (by decide)) (hfr9 14 (by decide))
        have hco9 : y_CO z ar I1 O (y_L pl) (qn, sn, cq, cs) (K + 1) ((ln + x_cN eg 8)) := ⟨_, _, _, hmi, hcr9⟩
        refine vx_ret ?_
        refine y_know (fun hy91 hy92 hy93 hy94 => ?_)
        have hac9 : y_aE 110 35 (cq + cs) s.heap.size (y_hs s.heap) (cq + cs) H := ⟨by omega, by omega⟩
        refine W.widen (k := (2000 * (K + 1) + 14 - cq + (400 * (K + 1) + 12 - cs)) / 5 + 8) (n := 4 * (2000 * (K + 1) + 14 - cq + (400 * (K + 1) + 12 - cs)) + 110) (by omega) (by omega) ?_
        exact W.iret (v := (Int32.ofNat (ln + x_cN eg 8))) hx hb hr (fun t ht hW => ⟨⟨(Int32.ofNat (ln + x_cN eg 8)), (I1, T, A1, O, pl, (qn, sn, cq, cs)), rfl, ⟨hco9, hok8, h72, rfl⟩, (by dsimp only; rw [ht]; exact ⟨hP, hD, hac9⟩)⟩, hS.F ht⟩) hS.2.2 d_CM_type_138
      · have c_3 : ¬ 8 ≤ i2 := fun h9 => c_3 ((x_leN (a := 8) (b := i2) (by omega) (by omega)).mpr h9)
        refine lv_lload_n hx hb d_CM_type_102 rfl (lv_at hl 1 rfl) ?_
        refine lv_iload hx hb d_CM_type_103 (lv_at hl 2 rfl) ?_
        have hFc := y_free hD hS hA
        refine va_calli (va_runS (As := [.long eg, .int (Int32.ofNat i2)]) (rest := []) ⟨hx, hb, hml, hown, hts⟩ (c_C_byteAt l dC dI ar N0 z ad I1 T A1 O pl eg i2 H.size (y_hs H) (by omega)) (cwS 2 hts (x_goodS k_227 k_228 k_1 k_229) rfl rfl rfl (by decide +kernel) ⟨Nat.le_of_ble_eq_true rfl, Nat.le_of_ble_eq_true rfl⟩) ⟨y_blind, fun U9 hU9 hW9 => y_pre hU9 hW9 hP hD hU hZ hS hAN hN0⟩ rfl rfl hl.1 rfl (lv_room (Nat.le_of_ble_eq_true rfl)) d_CM_type_105 ⟨(by show 0 + (0) ≤ (2000 * (K + 1) + 14 - cq + (400 * (K + 1) + 12 - cs)) / 5 + 8; omega), (by show 0 + (0) ≤ 4 * (2000 * (K + 1) + 14 - cq + (400 * (K + 1) + 12 - cs)) + 110; omega)⟩) hS (fun q _ h => hFc q h) hFc (fun r_4 u t H1 locs ht hvm hw hB hz1 hk1 hS => ?_)
        obtain ⟨I5, T5, A5, O5, pl5, q5, s5, cq5, cs5⟩ := u
        dsimp only at hw hB
        rw [ht] at hB
        obtain ⟨hP, hD1, hac5⟩ := hB
        have hD : va_D Bq (y_W ad ar I5 T5 A5 O5 pl5) := hD1.weaken (fun _ q _ h => hFc q.1 h)
        generalize H1 = H at hP hS hac5 ⊢
        have hae5 := hac5
        try unfold y_ac at hae5
        try dsimp only at hae5
        refine W.widen (k := 0) (n := 0) (by omega) (by omega) ?_
        obtain ⟨h9, hw⟩ := hw
        cases h9
        have hy6 := hw
        refine lv_istore (lv' := [(5, .int r_4), (0, .ref (ad 0)), (1, .long eg), (4, .int (Int32.ofNat i2))]) hx hb d_CM_type_108 hl (by decide) rfl (fun ls hl => ?_)
        refine lv_iload hx hb d_CM_type_110 (lv_at hl 0 rfl) ?_
        refine lv_if_eq (tgt := 125) hx hb d_CM_type_112 (by decide) (fun c7 => ?_) (fun c7 => ?_)
        · refine lv_iinc (v := (Int32.ofNat (i2 + 1))) (lv' := [(4, .int (Int32.ofNat (i2 + 1))), (5, .int r_4), (0, .ref (ad 0)), (1, .long eg)]) hx hb d_CM_type_125 hl (k := 3) rfl (x_incN i2) (by decide) rfl (fun ls hl => ?_)
          refine lv_goto (tgt := 95) hx hb d_CM_type_128 (by decide) ?_
          have hi9 : I1 1 = Int32.ofNat (ln + x_cN eg (i2 + 1)) := by rw [x_cN_z hy6 c7]; exact hi1
          exact ih (8 - (i2 + 1)) (by omega) H locs ls ⟨I1, A1, i2 + 1, rfl, by omega, hi9, hfr, hP, hD, hS, lv_sub hl [2, 3, 0] rfl⟩
        · have hcs := x_cN_s hy6 c7
          have hcm2 := y_cNm (e := eg) (show i2 + 1 ≤ 8 by omega)
          refine lv_aload_n hx hb d_CM_type_115 rfl (lv_at hl 1 rfl) ?_
          refine k_g (C := "ChannelMachine") (F := F_CM) (N := 3) hx hb hts i_CM hown hK hP 0 0 (by decide) (by decide) rfl (by decide) (d := (0, 1)) rfl (hts _ k_194) (fun _ h9 => h9) (v := .ref (ad 1)) rfl d_CM_type_116 ?_
          refine lv_iload hx hb d_CM_type_119 (lv_at hl 0 rfl) ?_
          refine lv_i2c (v := _) hx hb d_CM_type_121 rfl ?_
          refine lv_topi (fun ch8 _ => ?_)
          have hFc := y_free hD hS hA
          refine va_callv (va_runV (As := [.int ch8]) (rest := []) ⟨hx, hb, hml, hown, hts⟩ (c_Rd_append l dC dI ar N0 z ad I1 T A1 O pl ((ln + x_cN eg i2)) (ch8) H.size (y_hs H) hi1 (by omega)) (cwV 1 hts (x_goodV k_315 k_316 k_317 k_2 k_318) rfl rfl rfl (by decide +kernel) ⟨Nat.le_of_ble_eq_true rfl, Nat.le_of_ble_eq_true rfl⟩) ⟨y_blind, va_recv hK hP (ci := 3) (q0 := 1) rfl (y_W_ob (by decide) (by decide)), fun U9 hU9 hW9 => y_pre hU9 hW9 hP hD hU hZ hS hAN hN0⟩ rfl rfl hl.1 rfl (lv_room (Nat.le_of_ble_eq_true rfl)) d_CM_type_122 ⟨(by show 0 + (0) ≤ (2000 * (K + 1) + 14 - cq + (400 * (K + 1) + 12 - cs)) / 5 + 8; omega), (by show 0 + (0) ≤ 4 * (2000 * (K + 1) + 14 - cq + (400 * (K + 1) + 12 - cs)) + 110; omega)⟩) hS (fun q _ h => hFc q h) hFc (fun u t H1 locs ht hvm hw hB hz1 hk1 hS => ?_)
          obtain ⟨I9, T9, A9, O9, pl9, q9, s9, cq9, cs9⟩ := u
          dsimp only at hw hB
          rw [ht] at hB
          obtain ⟨hP, hD1, hac9⟩ := hB
          have hD : va_D Bq (y_W ad ar I9 T9 A9 O9 pl9) := hD1.weaken (fun _ q _ h => hFc q.1 h)
          generalize H1 = H at hP hS hac9 ⊢
          have hae9 := hac9
          try unfold y_ac at hae9
          try dsimp only at hae9
          refine W.widen (k := 0) (n := 0) (by omega) (by omega) ?_
          obtain ⟨hi9, fr9, e2, e4, e5⟩ := hw
          rw [e2, e4, e5] at hP hD
          have hP : va_P (dC, dI) y_cl (y_W ad ar I9 T A9 O pl) H := hP
          have hD : va_D Bq (y_W ad ar I9 T A9 O pl) := hD
          refine lv_iinc (v := (Int32.ofNat (i2 + 1))) (lv' := [(4, .int (Int32.ofNat (i2 + 1))), (5, .int r_4), (0, .ref (ad 0)), (1, .long eg)]) hx hb d_CM_type_125 hl (k := 3) rfl (x_incN i2) (by decide) rfl (fun ls hl => ?_)
          refine lv_goto (tgt := 95) hx hb d_CM_type_128 (by decide) ?_
          have hi9 : I9 1 = Int32.ofNat (ln + x_cN eg (i2 + 1)) := by rw [x_cN_s hy6 c7]; exact hi9
          exact ih (8 - (i2 + 1)) (by omega) H locs ls ⟨I9, A9, i2 + 1, rfl, by omega, hi9, (hfr.tr fr9 (by decide)), hP, hD, hS, lv_sub hl [2, 3, 0] rfl⟩
    · have c_2 : ¬ (ln + (x_cN eg 8)) ≤ 72 := fun h9 => c_2 ((x_leN (a := (ln + (x_cN eg 8))) (b := 72) (by omega) (by omega)).mpr h9)
      have hfr9 : m_fr [1] I I := m_fr.rf
      have hcr9 : y_CR I (qn, sn, cq, cs) (K + 1) ln := ⟨⟨by omega, hci.1.2⟩, (by obtain ⟨c9, q1, q2⟩ := hci.2.1; exact ⟨c9, q1, (hfr9 2 (by decide)).trans q2⟩), hci.k7 (hfr9 7 (by decide)) (hfr9 9 (by decide)), ⟨by dsimp only; omega, by dsimp only; omega, by dsimp only; omega, by dsimp only; omega⟩⟩
      have hmi : y_MI z ar G C Gs I O (y_L pl) (qn, sn, cq, cs) := hmi.to (hfr9 10 (by decide)) (hfr9 11 (by decide)) (hfr9 12 (by decide)) (hfr9 14 (by decide))
      have hco9 : y_CO z ar I O (y_L pl) (qn, sn, cq, cs) (K + 1) ln := ⟨_, _, _, hmi, hcr9⟩
      refine y_know (fun hy91 hy92 hy93 hy94 => ?_)
      refine y_xW (XC' := fun E st t => E = "java/lang/IllegalStateException" ∧ va_P (dC, dI) y_cl (y_W ad ar I T A O pl) t.heap ∧ va_F Bq st t) (mc' := 0 + 1) (ms' := 0 + 6) (by omega) (by omega) (fun E t hx9 hz9 hk9 => ?_) ?_
      · obtain ⟨rfl, hx1, hx2⟩ := hx9
        have hac9 : y_aE 110 35 (cq + cs) s.heap.size (y_hs s.heap) (cq + cs) t.heap := ⟨by omega, by omega⟩
        exact ⟨(I, T, A, O, pl, (qn, sn, cq, cs)), hco9, ⟨hx1, hD, (Or.inr ⟨rfl, hok8, by omega⟩), hac9⟩, hx2⟩
      exact x_throw (A := Bq) hx hb hst (own := "ChannelMachine") (cls := "java/lang/IllegalStateException") (text := "no room in the text") (ik := 41) (is := 43) (ic := 45) hown k_299 k_14 (by decide) x_tChannelMachine_45 (by decide +kernel) rfl hts hU.1 hZ.1 hAN hS (by rw [hml]; exact hl.1) d_CM_type_82 d_CM_type_85 d_CM_type_86 d_CM_type_88 d_CM_type_91 htb (Nat.le_of_ble_eq_true rfl) (Nat.le_of_ble_eq_true rfl) (by show 0 + 1 ≤ (2000 * (K + 1) + 14 - cq + (400 * (K + 1) + 12 - cs)) / 5 + 8; omega) (by show 0 + 6 ≤ 4 * (2000 * (K + 1) + 14 - cq + (400 * (K + 1) + 12 - cs)) + 110; omega) hlocks (fun t h1 h2 h3 h4 => ⟨rfl, fun k q hk => (hP k q hk).kept (h3 q.1 (hP k q hk).lt), h4⟩) hS.2.2 (Nat.le_refl _) (Nat.le_refl _)
  · have c_1 : ¬ 8 ≤ i1 := fun h9 => c_1 ((x_leN (a := 8) (b := i1) (by omega) (by omega)).mpr h9)
    refine lv_lload_n hx hb d_CM_type_12 rfl (lv_at hl 1 rfl) ?_
    refine lv_iload hx hb d_CM_type_13 (lv_at hl 3 rfl) ?_
    have hFc := y_free hD hS hA
    refine va_calli (va_runS (As := [.long eg, .int (Int32.ofNat i1)]) (rest := []) ⟨hx, hb, hml, hown, hts⟩ (c_C_byteAt l dC dI ar N0 z ad I T A O pl eg i1 H.size (y_hs H) (by omega)) (cwS 2 hts (x_goodS k_227 k_228 k_1 k_229) rfl rfl rfl (by decide +kernel) ⟨Nat.le_of_ble_eq_true rfl, Nat.le_of_ble_eq_true rfl⟩) ⟨y_blind, fun U9 hU9 hW9 => y_pre hU9 hW9 hP hD hU hZ hS hAN hN0⟩ rfl rfl hl.1 rfl (lv_room (Nat.le_of_ble_eq_true rfl)) d_CM_type_15 ⟨(by show 0 + (0) ≤ (2000 * (K + 1) + 14 - cq + (400 * (K + 1) + 12 - cs)) / 5 + 8; omega), (by show 0 + (0) ≤ 4 * (2000 * (K + 1) + 14 - cq + (400 * (K + 1) + 12 - cs)) + 110; omega)⟩) hS (fun q _ h => hFc q h) hFc (fun r_10 u t H1 locs ht hvm hw hB hz1 hk1 hS => ?_)
    obtain ⟨I11, T11, A11, O11, pl11, q11, s11, cq11, cs11⟩ := u
    dsimp only at hw hB
    rw [ht] at hB
    obtain ⟨hP, hD1, hac11⟩ := hB
    have hD : va_D Bq (y_W ad ar I11 T11 A11 O11 pl11) := hD1.weaken (fun _ q _ h => hFc q.1 h)
    generalize H1 = H at hP hS hac11 ⊢
    have hae11 := hac11
    try unfold y_ac at hae11
    try dsimp only at hae11
    refine W.widen (k := 0) (n := 0) (by omega) (by omega) ?_
    obtain ⟨h9, hw⟩ := hw
    cases h9
    have hy12 := hw
    refine lv_istore (lv' := [(5, .int r_10), (0, .ref (ad 0)), (1, .long eg), (3, .int (Int32.ofNat (x_cN eg i1))), (4, .int (Int32.ofNat i1))]) hx hb d_CM_type_18 hl (by decide) rfl (fun ls hl => ?_)
    refine lv_iload hx hb d_CM_type_20 (lv_at hl 0 rfl) ?_
    refine lv_if_eq (tgt := 49) hx hb d_CM_type_22 (by decide) (fun c13 => ?_) (fun c13 => ?_)
    · refine lv_iload_n hx hb d_CM_type_49 rfl (lv_at hl 3 rfl) ?_
      refine lv_iload hx hb d_CM_type_50 (lv_at hl 0 rfl) ?_
      refine lv_if_ne (tgt := 59) hx hb d_CM_type_52 (by decide) (fun c14 => absurd c13 c14) (fun _ => ?_)
      refine lv_iconst (v := 0) hx hb d_CM_type_55 (by decide) ?_
      refine lv_goto (tgt := 60) hx hb d_CM_type_56 (by decide) ?_
      refine W.eq (g2 := F0 m 60 ls [.int (Int32.ofNat 0), .int (Int32.ofNat (x_cN eg i1))]) rfl ?_
      refine lv_iadd hx hb d_CM_type_60 ?_
      refine W.eq (g2 := F0 m 61 ls [.int (Int32.ofNat ((x_cN eg i1) + 0))]) (by rw [← x_addN (a := (x_cN eg i1)) (b := 0)] <;> rfl) ?_
      refine lv_istore_n (lv' := [(3, .int (Int32.ofNat ((x_cN eg i1) + 0))), (5, .int r_10), (0, .ref (ad 0)), (1, .long eg), (4, .int (Int32.ofNat i1))]) hx hb d_CM_type_61 rfl hl (by decide) rfl (fun ls hl => ?_)
      refine lv_iinc (v := (Int32.ofNat (i1 + 1))) (lv' := [(4, .int (Int32.ofNat (i1 + 1))), (3, .int (Int32.ofNat ((x_cN eg i1) + 0))), (5, .int r_10), (0, .ref (ad 0)), (1, .long eg)]) hx hb d_CM_type_62 hl (k := 4) rfl (x_incN i1) (by decide) rfl (fun ls hl => ?_)
      refine lv_goto (tgt := 5) hx hb d_CM_type_65 (by decide) ?_
      have e9 : ((x_cN eg i1) + 0) = x_cN eg (i1 + 1) := (x_cN_z hy12 c13).symm
      rw [e9] at hl
      exact ih (8 - (i1 + 1)) (by omega) H locs ls ⟨i1 + 1, rfl, by omega, x_ok_s hy12 hok (Or.inl c13), hP, hD, hS, lv_sub hl [3, 4, 1, 0] rfl⟩
    · refine lv_iload hx hb d_CM_type_25 (lv_at hl 0 rfl) ?_
      refine lv_bipush (v := 33) hx hb d_CM_type_27 (by decide) ?_
      refine lv_icmp_lt (tgt := 39) hx hb d_CM_type_29 (by decide) (fun c15 => ?_) (fun c15 => ?_)
      · have hfr9 : m_fr [1] I I := m_fr.rf
        have hcr9 : y_CR I (qn, sn, cq, cs) (K + 1) ln := ⟨⟨by omega, hci.1.2⟩, (by obtain ⟨c9, q1, q2⟩ := hci.2.1; exact ⟨c9, q1, (hfr9 2 (by decide)).trans q2⟩), hci.k7 (hfr9 7 (by decide)) (hfr9 9 (by decide)), ⟨by dsimp only; omega, by dsimp only; omega, by dsimp only; omega, by dsimp only; omega⟩⟩
        have hmi : y_MI z ar G C Gs I O (y_L pl) (qn, sn, cq, cs) := hmi.to (hfr9 10 (by decide)) (hfr9 11 (by decide)) (hfr9 12 (by decide)) (hfr9 14 (by decide))
        have hco9 : y_CO z ar I O (y_L pl) (qn, sn, cq, cs) (K + 1) ln := ⟨_, _, _, hmi, hcr9⟩
        refine y_know (fun hy91 hy92 hy93 hy94 => ?_)
        refine y_xW (XC' := fun E st t => E = "java/lang/IllegalArgumentException" ∧ va_P (dC, dI) y_cl (y_W ad ar I T A O pl) t.heap ∧ va_F Bq st t) (mc' := 0 + 1) (ms' := 0 + 6) (by omega) (by omega) (fun E t hx9 hz9 hk9 => ?_) ?_
        · obtain ⟨rfl, hx1, hx2⟩ := hx9
          have hac9 : y_aE 110 35 (cq + cs) s.heap.size (y_hs s.heap) (cq + cs) t.heap := ⟨by omega, by omega⟩
          exact ⟨(I, T, A, O, pl, (qn, sn, cq, cs)), hco9, ⟨hx1, hD, (Or.inl ⟨rfl, x_bad (by omega) hy12 c13 (Or.inl c15)⟩), hac9⟩, hx2⟩
        exact x_throw (A := Bq) hx hb hst (own := "ChannelMachine") (cls := "java/lang/IllegalArgumentException") (text := "not a character of a text") (ik := 31) (is := 33) (ic := 35) hown k_230 k_13 (by decide) x_tChannelMachine_35 (by decide +kernel) rfl hts hU.1 hZ.1 hAN hS (by rw [hml]; exact hl.1) d_CM_type_39 d_CM_type_42 d_CM_type_43 d_CM_type_45 d_CM_type_48 htb (Nat.le_of_ble_eq_true rfl) (Nat.le_of_ble_eq_true rfl) (by show 0 + 1 ≤ (2000 * (K + 1) + 14 - cq + (400 * (K + 1) + 12 - cs)) / 5 + 8; omega) (by show 0 + 6 ≤ 4 * (2000 * (K + 1) + 14 - cq + (400 * (K + 1) + 12 - cs)) + 110; omega) hlocks (fun t h1 h2 h3 h4 => ⟨rfl, fun k q hk => (hP k q hk).kept (h3 q.1 (hP k q hk).lt), h4⟩) hS.2.2 (Nat.le_refl _) (Nat.le_refl _)
      · refine lv_iload hx hb d_CM_type_32 (lv_at hl 0 rfl) ?_
        refine lv_bipush (v := 126) hx hb d_CM_type_34 (by decide) ?_
        refine lv_icmp_le (tgt := 49) hx hb d_CM_type_36 (by decide) (fun c16 => ?_) (fun c16 => ?_)
        · refine lv_iload_n hx hb d_CM_type_49 rfl (lv_at hl 3 rfl) ?_
          refine lv_iload hx hb d_CM_type_50 (lv_at hl 0 rfl) ?_
          refine lv_if_ne (tgt := 59) hx hb d_CM_type_52 (by decide) (fun _ => ?_) (fun c17 => absurd c17 c13)
          refine lv_iconst (v := 1) hx hb d_CM_type_59 (by decide) ?_
          refine W.eq (g2 := F0 m 60 ls [.int (Int32.ofNat 1), .int (Int32.ofNat (x_cN eg i1))]) rfl ?_
          refine lv_iadd hx hb d_CM_type_60 ?_
          refine W.eq (g2 := F0 m 61 ls [.int (Int32.ofNat ((x_cN eg i1) + 1))]) (by rw [← x_addN (a := (x_cN eg i1)) (b := 1)] <;> rfl) ?_
          refine lv_istore_n (lv' := [(3, .int (Int32.ofNat ((x_cN eg i1) + 1))), (5, .int r_10), (0, .ref (ad 0)), (1, .long eg), (4, .int (Int32.ofNat i1))]) hx hb d_CM_type_61 rfl hl (by decide) rfl (fun ls hl => ?_)
          refine lv_iinc (v := (Int32.ofNat (i1 + 1))) (lv' := [(4, .int (Int32.ofNat (i1 + 1))), (3, .int (Int32.ofNat ((x_cN eg i1) + 1))), (5, .int r_10), (0, .ref (ad 0)), (1, .long eg)]) hx hb d_CM_type_62 hl (k := 4) rfl (x_incN i1) (by decide) rfl (fun ls hl => ?_)
          refine lv_goto (tgt := 5) hx hb d_CM_type_65 (by decide) ?_
          have e9 : ((x_cN eg i1) + 1) = x_cN eg (i1 + 1) := (x_cN_s hy12 c13).symm
          rw [e9] at hl
          exact ih (8 - (i1 + 1)) (by omega) H locs ls ⟨i1 + 1, rfl, by omega, x_ok_s hy12 hok (Or.inr ⟨c15, x_126.mp c16⟩), hP, hD, hS, lv_sub hl [3, 4, 1, 0] rfl⟩
        · have hfr9 : m_fr [1] I I := m_fr.rf
          have hcr9 : y_CR I (qn, sn, cq, cs) (K + 1) ln := ⟨⟨by omega, hci.1.2⟩, (by obtain ⟨c9, q1, q2⟩ := hci.2.1; exact ⟨c9, q1, (hfr9 2 (by decide)).trans q2⟩), hci.k7 (hfr9 7 (by decide)) (hfr9 9 (by decide)), ⟨by dsimp only; omega, by dsimp only; omega, by dsimp only; omega, by dsimp only; omega⟩⟩
          have hmi : y_MI z ar G C Gs I O (y_L pl) (qn, sn, cq, cs) := hmi.to (hfr9 10 (by decide)) (hfr9 11 (by decide)) (hfr9 12 (by decide)) (hfr9 14 (by decide))
          have hco9 : y_CO z ar I O (y_L pl) (qn, sn, cq, cs) (K + 1) ln := ⟨_, _, _, hmi, hcr9⟩
          refine y_know (fun hy91 hy92 hy93 hy94 => ?_)
          refine y_xW (XC' := fun E st t => E = "java/lang/IllegalArgumentException" ∧ va_P (dC, dI) y_cl (y_W ad ar I T A O pl) t.heap ∧ va_F Bq st t) (mc' := 0 + 1) (ms' := 0 + 6) (by omega) (by omega) (fun E t hx9 hz9 hk9 => ?_) ?_
          · obtain ⟨rfl, hx1, hx2⟩ := hx9
            have hac9 : y_aE 110 35 (cq + cs) s.heap.size (y_hs s.heap) (cq + cs) t.heap := ⟨by omega, by omega⟩
            exact ⟨(I, T, A, O, pl, (qn, sn, cq, cs)), hco9, ⟨hx1, hD, (Or.inl ⟨rfl, x_bad (by omega) hy12 c13 (Or.inr c16)⟩), hac9⟩, hx2⟩
          exact x_throw (A := Bq) hx hb hst (own := "ChannelMachine") (cls := "java/lang/IllegalArgumentException") (text := "not a character of a text") (ik := 31) (is := 33) (ic := 35) hown k_230 k_13 (by decide) x_tChannelMachine_35 (by decide +kernel) rfl hts hU.1 hZ.1 hAN hS (by rw [hml]; exact hl.1) d_CM_type_39 d_CM_type_42 d_CM_type_43 d_CM_type_45 d_CM_type_48 htb (Nat.le_of_ble_eq_true rfl) (Nat.le_of_ble_eq_true rfl) (by show 0 + 1 ≤ (2000 * (K + 1) + 14 - cq + (400 * (K + 1) + 12 - cs)) / 5 + 8; omega) (by show 0 + 6 ≤ 4 * (2000 * (K + 1) + 14 - cq + (400 * (K + 1) + 12 - cs)) + 110; omega) hlocks (fun t h1 h2 h3 h4 => ⟨rfl, fun k q hk => (hP k q hk).kept (h3 q.1 (hP k q hk).lt), h4⟩) hS.2.2 (Nat.le_refl _) (Nat.le_refl _)
