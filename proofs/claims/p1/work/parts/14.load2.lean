-- ===== 14.load2: load of the empty text, by program =====
theorem k_321 : (Jvm.Cond.codeWith ({ cls := "ChannelMachineLaw", name := "load", desc := "(LChannelMachine;[J)I" } : Jvm.MethodName) method_4_code (3 : Nat) (Option.some Jvm.ClassFile.FieldType.int) [((0 : Nat), (8 : Nat), (11 : Nat), (13 : Nat))]) ∈ x_T := x_at 321 (by decide +kernel) (by decide +kernel)
theorem k_322 : (Jvm.Cond.methodLink "ChannelMachineLaw" (17 : Nat) ({ cls := "ChannelMachine", name := "load", desc := "()I" } : Jvm.MethodName)) ∈ x_T := x_at 322 (by decide +kernel) (by decide +kernel)
theorem k_323 : (Jvm.Cond.instanceMethod ({ cls := "ChannelMachine", name := "load", desc := "()I" } : Jvm.MethodName)) ∈ x_T := x_at 323 (by decide +kernel) (by decide +kernel)
theorem k_324 : (Jvm.Cond.selects "ChannelMachine" ({ cls := "ChannelMachine", name := "load", desc := "()I" } : Jvm.MethodName) ({ cls := "ChannelMachine", name := "load", desc := "()I" } : Jvm.MethodName)) ∈ x_T := x_at 324 (by decide +kernel) (by decide +kernel)
theorem k_325 : (Jvm.Cond.code ({ cls := "ChannelMachine", name := "load", desc := "()I" } : Jvm.MethodName) prog_1_method_4_code (2 : Nat) (Option.some Jvm.ClassFile.FieldType.int)) ∈ x_T := x_at 325 (by decide +kernel) (by decide +kernel)
theorem k_326 : (Jvm.Cond.methodLink "ChannelMachine" (50 : Nat) ({ cls := "ChannelMachine$Reader", name := "start", desc := "()V" } : Jvm.MethodName)) ∈ x_T := x_at 326 (by decide +kernel) (by decide +kernel)
theorem k_327 : (Jvm.Cond.instanceMethod ({ cls := "ChannelMachine$Reader", name := "start", desc := "()V" } : Jvm.MethodName)) ∈ x_T := x_at 327 (by decide +kernel) (by decide +kernel)
theorem k_328 : (Jvm.Cond.selects "ChannelMachine$Reader" ({ cls := "ChannelMachine$Reader", name := "start", desc := "()V" } : Jvm.MethodName) ({ cls := "ChannelMachine$Reader", name := "start", desc := "()V" } : Jvm.MethodName)) ∈ x_T := x_at 328 (by decide +kernel) (by decide +kernel)
theorem k_329 : (Jvm.Cond.code ({ cls := "ChannelMachine$Reader", name := "start", desc := "()V" } : Jvm.MethodName) prog_8_method_3_code (1 : Nat) (Option.none : Option Jvm.ClassFile.FieldType)) ∈ x_T := x_at 329 (by decide +kernel) (by decide +kernel)
theorem k_332 : (Jvm.Cond.instanceMethod ({ cls := "ChannelMachine$Reader", name := "process", desc := "(LChannelMachine$Process;IZ)Z" } : Jvm.MethodName)) ∈ x_T := x_at 332 (by decide +kernel) (by decide +kernel)
theorem k_333 : (Jvm.Cond.code ({ cls := "ChannelMachine$Reader", name := "process", desc := "(LChannelMachine$Process;IZ)Z" } : Jvm.MethodName) prog_8_method_13_code (5 : Nat) (Option.some Jvm.ClassFile.FieldType.boolean)) ∈ x_T := x_at 333 (by decide +kernel) (by decide +kernel)
theorem k_971 : (Jvm.Cond.fieldLink "ChannelMachineModel" (114 : Nat) "ChannelMachineModel" "size" "I") ∈ x_T := x_at 971 (by decide +kernel) (by decide +kernel)
theorem k_973 : (Jvm.Cond.fieldLink "ChannelMachineModel" (121 : Nat) "ChannelMachineModel" "pos" "I") ∈ x_T := x_at 973 (by decide +kernel) (by decide +kernel)
theorem k_974 : (Jvm.Cond.fieldLink "ChannelMachineModel" (128 : Nat) "ChannelMachineModel" "at" "I") ∈ x_T := x_at 974 (by decide +kernel) (by decide +kernel)
theorem k_1140 : (Jvm.Cond.methodLink "ChannelMachineModel" (124 : Nat) ({ cls := "ChannelMachineModel", name := "look", desc := "()I" } : Jvm.MethodName)) ∈ x_T := x_at 1140 (by decide +kernel) (by decide +kernel)
theorem k_1142 : (Jvm.Cond.instanceMethod ({ cls := "ChannelMachineModel", name := "look", desc := "()I" } : Jvm.MethodName)) ∈ x_T := x_at 1142 (by decide +kernel) (by decide +kernel)
theorem k_1143 : (Jvm.Cond.code ({ cls := "ChannelMachineModel", name := "look", desc := "()I" } : Jvm.MethodName) prog_12_method_7_code (1 : Nat) (Option.some Jvm.ClassFile.FieldType.int)) ∈ x_T := x_at 1143 (by decide +kernel) (by decide +kernel)
theorem k_1164 : (Jvm.Cond.methodLink "ChannelMachineModel" (142 : Nat) ({ cls := "ChannelMachineModel", name := "isVariable", desc := "()Z" } : Jvm.MethodName)) ∈ x_T := x_at 1164 (by decide +kernel) (by decide +kernel)
theorem k_1166 : (Jvm.Cond.instanceMethod ({ cls := "ChannelMachineModel", name := "isVariable", desc := "()Z" } : Jvm.MethodName)) ∈ x_T := x_at 1166 (by decide +kernel) (by decide +kernel)
theorem k_1167 : (Jvm.Cond.code ({ cls := "ChannelMachineModel", name := "isVariable", desc := "()Z" } : Jvm.MethodName) prog_12_method_11_code (1 : Nat) (Option.some Jvm.ClassFile.FieldType.boolean)) ∈ x_T := x_at 1167 (by decide +kernel) (by decide +kernel)
theorem k_1179 : (Jvm.Cond.methodLink "ChannelMachineModel" (162 : Nat) ({ cls := "ChannelMachineModel", name := "channelOf", desc := "(I)I" } : Jvm.MethodName)) ∈ x_T := x_at 1179 (by decide +kernel) (by decide +kernel)
theorem k_1180 : (Jvm.Cond.static ({ cls := "ChannelMachineModel", name := "channelOf", desc := "(I)I" } : Jvm.MethodName)) ∈ x_T := x_at 1180 (by decide +kernel) (by decide +kernel)
theorem k_1181 : (Jvm.Cond.code ({ cls := "ChannelMachineModel", name := "channelOf", desc := "(I)I" } : Jvm.MethodName) prog_12_method_17_code (1 : Nat) (Option.some Jvm.ClassFile.FieldType.int)) ∈ x_T := x_at 1181 (by decide +kernel) (by decide +kernel)
theorem kn_46 : (Jvm.Cond.fieldLinkNest "ChannelMachine" (38 : Nat) "ChannelMachine$Reader" "length" "I" "ChannelMachine") ∈ x_nest := x_nest_at 46 (by decide +kernel) (by decide +kernel)
theorem kn_51 : (Jvm.Cond.fieldLinkNest "ChannelMachine" (61 : Nat) "ChannelMachine$Reader" "place" "I" "ChannelMachine") ∈ x_nest := x_nest_at 51 (by decide +kernel) (by decide +kernel)
theorem kn_330 : (Jvm.Cond.methodLinkNest "ChannelMachine" (53 : Nat) ({ cls := "ChannelMachine$Reader", name := "process", desc := "(LChannelMachine$Process;IZ)Z" } : Jvm.MethodName) "ChannelMachine") ∈ x_nest := x_nest_at 330 (by decide +kernel) (by decide +kernel)
theorem kp_1 : (Jvm.Cond.selects "ChannelMachine$Reader" ({ cls := "ChannelMachine$Reader", name := "process", desc := "(LChannelMachine$Process;IZ)Z" } : Jvm.MethodName) ({ cls := "ChannelMachine$Reader", name := "process", desc := "(LChannelMachine$Process;IZ)Z" } : Jvm.MethodName)) ∈ x_T := x_sel (q := (({ cls := "ChannelMachine$Reader", name := "process", desc := "(LChannelMachine$Process;IZ)Z" } : Jvm.MethodName), 9)) 1 (by decide +kernel) (by decide +kernel)
theorem kp_53 : (Jvm.Cond.selects "ChannelMachineModel" ({ cls := "ChannelMachineModel", name := "look", desc := "()I" } : Jvm.MethodName) ({ cls := "ChannelMachineModel", name := "look", desc := "()I" } : Jvm.MethodName)) ∈ x_T := x_sel (q := (({ cls := "ChannelMachineModel", name := "look", desc := "()I" } : Jvm.MethodName), 45)) 53 (by decide +kernel) (by decide +kernel)
theorem kp_59 : (Jvm.Cond.selects "ChannelMachineModel" ({ cls := "ChannelMachineModel", name := "isVariable", desc := "()Z" } : Jvm.MethodName) ({ cls := "ChannelMachineModel", name := "isVariable", desc := "()Z" } : Jvm.MethodName)) ∈ x_T := x_sel (q := (({ cls := "ChannelMachineModel", name := "isVariable", desc := "()Z" } : Jvm.MethodName), 45)) 59 (by decide +kernel) (by decide +kernel)
theorem d_CM_load_0 : decode prog_1_method_4_code 0 = .ok (.aload_n 0, 1) := by decide +kernel
theorem d_CM_load_1 : decode prog_1_method_4_code 1 = .ok (.getfield 10, 3) := by decide +kernel
theorem d_CM_load_4 : decode prog_1_method_4_code 4 = .ok (.invokevirtual 50, 3) := by decide +kernel
theorem d_CM_load_7 : decode prog_1_method_4_code 7 = .ok (.aload_n 0, 1) := by decide +kernel
theorem d_CM_load_8 : decode prog_1_method_4_code 8 = .ok (.getfield 10, 3) := by decide +kernel
theorem d_CM_load_11 : decode prog_1_method_4_code 11 = .ok (.aconst_null, 1) := by decide +kernel
theorem d_CM_load_12 : decode prog_1_method_4_code 12 = .ok (.iconst 1, 1) := by decide +kernel
theorem d_CM_load_13 : decode prog_1_method_4_code 13 = .ok (.iconst 0, 1) := by decide +kernel
theorem d_CM_load_14 : decode prog_1_method_4_code 14 = .ok (.invokevirtual 53, 3) := by decide +kernel
theorem d_CM_load_17 : decode prog_1_method_4_code 17 = .ok (.ifCond .eq 17, 3) := by decide +kernel
theorem d_CM_load_20 : decode prog_1_method_4_code 20 = .ok (.aload_n 0, 1) := by decide +kernel
theorem d_CM_load_21 : decode prog_1_method_4_code 21 = .ok (.getfield 10, 3) := by decide +kernel
theorem d_CM_load_24 : decode prog_1_method_4_code 24 = .ok (.invokevirtual 57, 3) := by decide +kernel
theorem d_CM_load_27 : decode prog_1_method_4_code 27 = .ok (.ifCond .eq 7, 3) := by decide +kernel
theorem d_CM_load_30 : decode prog_1_method_4_code 30 = .ok (.iconst 1, 1) := by decide +kernel
theorem d_CM_load_31 : decode prog_1_method_4_code 31 = .ok (.goto 4, 3) := by decide +kernel
theorem d_CM_load_34 : decode prog_1_method_4_code 34 = .ok (.iconst 0, 1) := by decide +kernel
theorem d_CM_load_35 : decode prog_1_method_4_code 35 = .ok (.istore_n 1, 1) := by decide +kernel
theorem d_CM_load_36 : decode prog_1_method_4_code 36 = .ok (.aload_n 0, 1) := by decide +kernel
theorem d_CM_load_37 : decode prog_1_method_4_code 37 = .ok (.getfield 10, 3) := by decide +kernel
theorem d_CM_load_40 : decode prog_1_method_4_code 40 = .ok (.iconst 0, 1) := by decide +kernel
theorem d_CM_load_41 : decode prog_1_method_4_code 41 = .ok (.putfield 38, 3) := by decide +kernel
theorem d_CM_load_44 : decode prog_1_method_4_code 44 = .ok (.iload_n 1, 1) := by decide +kernel
theorem d_CM_load_45 : decode prog_1_method_4_code 45 = .ok (.ifCond .ne 24, 3) := by decide +kernel
theorem d_CM_load_48 : decode prog_1_method_4_code 48 = .ok (.aload_n 0, 1) := by decide +kernel
theorem d_CM_load_49 : decode prog_1_method_4_code 49 = .ok (.aload_n 0, 1) := by decide +kernel
theorem d_CM_load_50 : decode prog_1_method_4_code 50 = .ok (.getfield 10, 3) := by decide +kernel
theorem d_CM_load_53 : decode prog_1_method_4_code 53 = .ok (.getfield 61, 3) := by decide +kernel
theorem d_CM_load_56 : decode prog_1_method_4_code 56 = .ok (.putfield 23, 3) := by decide +kernel
theorem d_CM_load_59 : decode prog_1_method_4_code 59 = .ok (.new 31, 3) := by decide +kernel
theorem d_CM_load_62 : decode prog_1_method_4_code 62 = .ok (.dup, 1) := by decide +kernel
theorem d_CM_load_63 : decode prog_1_method_4_code 63 = .ok (.ldc 62, 2) := by decide +kernel
theorem d_CM_load_65 : decode prog_1_method_4_code 65 = .ok (.invokespecial 35, 3) := by decide +kernel
theorem d_CM_load_68 : decode prog_1_method_4_code 68 = .ok (.athrow, 1) := by decide +kernel
theorem d_CM_load_69 : decode prog_1_method_4_code 69 = .ok (.aload_n 0, 1) := by decide +kernel
theorem d_CM_load_70 : decode prog_1_method_4_code 70 = .ok (.getfield 19, 3) := by decide +kernel
theorem d_CM_load_73 : decode prog_1_method_4_code 73 = .ok (.aload_n 0, 1) := by decide +kernel
theorem d_CM_load_74 : decode prog_1_method_4_code 74 = .ok (.getfield 10, 3) := by decide +kernel
theorem d_CM_load_77 : decode prog_1_method_4_code 77 = .ok (.getfield 64, 3) := by decide +kernel
theorem d_CM_load_80 : decode prog_1_method_4_code 80 = .ok (.getfield 68, 3) := by decide +kernel
theorem d_CM_load_83 : decode prog_1_method_4_code 83 = .ok (.invokevirtual 74, 3) := by decide +kernel
theorem d_CM_load_86 : decode prog_1_method_4_code 86 = .ok (.aload_n 0, 1) := by decide +kernel
theorem d_CM_load_87 : decode prog_1_method_4_code 87 = .ok (.getfield 10, 3) := by decide +kernel
theorem d_CM_load_90 : decode prog_1_method_4_code 90 = .ok (.getfield 78, 3) := by decide +kernel
theorem d_CM_load_93 : decode prog_1_method_4_code 93 = .ok (.ireturn, 1) := by decide +kernel
theorem d_La_load_0 : decode method_4_code 0 = .ok (.aload_n 1, 1) := by decide +kernel
theorem d_La_load_1 : decode method_4_code 1 = .ok (.iconst 0, 1) := by decide +kernel
theorem d_La_load_2 : decode method_4_code 2 = .ok (.aload_n 0, 1) := by decide +kernel
theorem d_La_load_3 : decode method_4_code 3 = .ok (.invokevirtual 17, 3) := by decide +kernel
theorem d_La_load_6 : decode method_4_code 6 = .ok (.i2l, 1) := by decide +kernel
theorem d_La_load_7 : decode method_4_code 7 = .ok (.lastore, 1) := by decide +kernel
theorem d_La_load_8 : decode method_4_code 8 = .ok (.goto 6, 3) := by decide +kernel
theorem d_La_load_11 : decode method_4_code 11 = .ok (.astore_n 2, 1) := by decide +kernel
theorem d_La_load_12 : decode method_4_code 12 = .ok (.iconst 1, 1) := by decide +kernel
theorem d_La_load_13 : decode method_4_code 13 = .ok (.ireturn, 1) := by decide +kernel
theorem d_La_load_14 : decode method_4_code 14 = .ok (.iconst 0, 1) := by decide +kernel
theorem d_La_load_15 : decode method_4_code 15 = .ok (.ireturn, 1) := by decide +kernel
theorem d_Mo_look_0 : decode prog_12_method_7_code 0 = .ok (.aload_n 0, 1) := by decide +kernel
theorem d_Mo_look_1 : decode prog_12_method_7_code 1 = .ok (.getfield 121, 3) := by decide +kernel
theorem d_Mo_look_4 : decode prog_12_method_7_code 4 = .ok (.aload_n 0, 1) := by decide +kernel
theorem d_Mo_look_5 : decode prog_12_method_7_code 5 = .ok (.getfield 114, 3) := by decide +kernel
theorem d_Mo_look_8 : decode prog_12_method_7_code 8 = .ok (.if_icmp .ge 15, 3) := by decide +kernel
theorem d_Mo_look_11 : decode prog_12_method_7_code 11 = .ok (.aload_n 0, 1) := by decide +kernel
theorem d_Mo_look_12 : decode prog_12_method_7_code 12 = .ok (.getfield 7, 3) := by decide +kernel
theorem d_Mo_look_15 : decode prog_12_method_7_code 15 = .ok (.aload_n 0, 1) := by decide +kernel
theorem d_Mo_look_16 : decode prog_12_method_7_code 16 = .ok (.getfield 121, 3) := by decide +kernel
theorem d_Mo_look_19 : decode prog_12_method_7_code 19 = .ok (.iaload, 1) := by decide +kernel
theorem d_Mo_look_20 : decode prog_12_method_7_code 20 = .ok (.goto 4, 3) := by decide +kernel
theorem d_Mo_look_23 : decode prog_12_method_7_code 23 = .ok (.iconst 0, 1) := by decide +kernel
theorem d_Mo_look_24 : decode prog_12_method_7_code 24 = .ok (.ireturn, 1) := by decide +kernel
theorem d_Mo_channelOf_0 : decode prog_12_method_17_code 0 = .ok (.iload_n 0, 1) := by decide +kernel
theorem d_Mo_channelOf_1 : decode prog_12_method_17_code 1 = .ok (.bipush 73, 2) := by decide +kernel
theorem d_Mo_channelOf_3 : decode prog_12_method_17_code 3 = .ok (.if_icmp .ne 7, 3) := by decide +kernel
theorem d_Mo_channelOf_6 : decode prog_12_method_17_code 6 = .ok (.iconst 4, 1) := by decide +kernel
theorem d_Mo_channelOf_7 : decode prog_12_method_17_code 7 = .ok (.goto 32, 3) := by decide +kernel
theorem d_Mo_channelOf_10 : decode prog_12_method_17_code 10 = .ok (.iload_n 0, 1) := by decide +kernel
theorem d_Mo_channelOf_11 : decode prog_12_method_17_code 11 = .ok (.bipush 79, 2) := by decide +kernel
theorem d_Mo_channelOf_13 : decode prog_12_method_17_code 13 = .ok (.if_icmp .ne 7, 3) := by decide +kernel
theorem d_Mo_channelOf_16 : decode prog_12_method_17_code 16 = .ok (.iconst 5, 1) := by decide +kernel
theorem d_Mo_channelOf_17 : decode prog_12_method_17_code 17 = .ok (.goto 22, 3) := by decide +kernel
theorem d_Mo_channelOf_20 : decode prog_12_method_17_code 20 = .ok (.iload_n 0, 1) := by decide +kernel
theorem d_Mo_channelOf_21 : decode prog_12_method_17_code 21 = .ok (.bipush 65, 2) := by decide +kernel
theorem d_Mo_channelOf_23 : decode prog_12_method_17_code 23 = .ok (.bipush 68, 2) := by decide +kernel
theorem d_Mo_channelOf_25 : decode prog_12_method_17_code 25 = .ok (.invokestatic 106, 3) := by decide +kernel
theorem d_Mo_channelOf_28 : decode prog_12_method_17_code 28 = .ok (.ifCond .eq 10, 3) := by decide +kernel
theorem d_Mo_channelOf_31 : decode prog_12_method_17_code 31 = .ok (.iload_n 0, 1) := by decide +kernel
theorem d_Mo_channelOf_32 : decode prog_12_method_17_code 32 = .ok (.bipush 65, 2) := by decide +kernel
theorem d_Mo_channelOf_34 : decode prog_12_method_17_code 34 = .ok (.isub, 1) := by decide +kernel
theorem d_Mo_channelOf_35 : decode prog_12_method_17_code 35 = .ok (.goto 4, 3) := by decide +kernel
theorem d_Mo_channelOf_38 : decode prog_12_method_17_code 38 = .ok (.iconst (-1), 1) := by decide +kernel
theorem d_Mo_channelOf_39 : decode prog_12_method_17_code 39 = .ok (.ireturn, 1) := by decide +kernel
theorem d_Mo_isVariable_0 : decode prog_12_method_11_code 0 = .ok (.aload_n 0, 1) := by decide +kernel
theorem d_Mo_isVariable_1 : decode prog_12_method_11_code 1 = .ok (.invokevirtual 124, 3) := by decide +kernel
theorem d_Mo_isVariable_4 : decode prog_12_method_11_code 4 = .ok (.bipush 97, 2) := by decide +kernel
theorem d_Mo_isVariable_6 : decode prog_12_method_11_code 6 = .ok (.bipush 102, 2) := by decide +kernel
theorem d_Mo_isVariable_8 : decode prog_12_method_11_code 8 = .ok (.invokestatic 106, 3) := by decide +kernel
theorem d_Mo_isVariable_11 : decode prog_12_method_11_code 11 = .ok (.ireturn, 1) := by decide +kernel
theorem d_Mo_start_0 : decode prog_12_method_18_code 0 = .ok (.aload_n 0, 1) := by decide +kernel
theorem d_Mo_start_1 : decode prog_12_method_18_code 1 = .ok (.invokevirtual 124, 3) := by decide +kernel
theorem d_Mo_start_4 : decode prog_12_method_18_code 4 = .ok (.istore_n 2, 1) := by decide +kernel
theorem d_Mo_start_5 : decode prog_12_method_18_code 5 = .ok (.aload_n 0, 1) := by decide +kernel
theorem d_Mo_start_6 : decode prog_12_method_18_code 6 = .ok (.getfield 128, 3) := by decide +kernel
theorem d_Mo_start_9 : decode prog_12_method_18_code 9 = .ok (.istore_n 3, 1) := by decide +kernel
theorem d_Mo_start_10 : decode prog_12_method_18_code 10 = .ok (.iload_n 2, 1) := by decide +kernel
theorem d_Mo_start_11 : decode prog_12_method_18_code 11 = .ok (.invokestatic 162, 3) := by decide +kernel
theorem d_Mo_start_14 : decode prog_12_method_18_code 14 = .ok (.istore 4, 2) := by decide +kernel
theorem d_Mo_start_16 : decode prog_12_method_18_code 16 = .ok (.iload_n 1, 1) := by decide +kernel
theorem d_Mo_start_17 : decode prog_12_method_18_code 17 = .ok (.bipush 7, 2) := by decide +kernel
theorem d_Mo_start_19 : decode prog_12_method_18_code 19 = .ok (.if_icmp .gt 21, 3) := by decide +kernel
theorem d_Mo_start_22 : decode prog_12_method_18_code 22 = .ok (.iload_n 1, 1) := by decide +kernel
theorem d_Mo_start_23 : decode prog_12_method_18_code 23 = .ok (.bipush 7, 2) := by decide +kernel
theorem d_Mo_start_25 : decode prog_12_method_18_code 25 = .ok (.if_icmp .ne 17, 3) := by decide +kernel
theorem d_Mo_start_28 : decode prog_12_method_18_code 28 = .ok (.iload_n 2, 1) := by decide +kernel
theorem d_Mo_start_29 : decode prog_12_method_18_code 29 = .ok (.bipush 94, 2) := by decide +kernel
theorem d_Mo_start_31 : decode prog_12_method_18_code 31 = .ok (.if_icmp .eq 9, 3) := by decide +kernel
theorem d_Mo_start_34 : decode prog_12_method_18_code 34 = .ok (.iload_n 2, 1) := by decide +kernel
theorem d_Mo_start_35 : decode prog_12_method_18_code 35 = .ok (.bipush 63, 2) := by decide +kernel
theorem d_Mo_start_37 : decode prog_12_method_18_code 37 = .ok (.if_icmp .ne 5, 3) := by decide +kernel
theorem d_Mo_start_40 : decode prog_12_method_18_code 40 = .ok (.iconst (-1), 1) := by decide +kernel
theorem d_Mo_start_41 : decode prog_12_method_18_code 41 = .ok (.ireturn, 1) := by decide +kernel
theorem d_Mo_start_42 : decode prog_12_method_18_code 42 = .ok (.aload_n 0, 1) := by decide +kernel
theorem d_Mo_start_43 : decode prog_12_method_18_code 43 = .ok (.invokevirtual 142, 3) := by decide +kernel
theorem d_Mo_start_46 : decode prog_12_method_18_code 46 = .ok (.ifCond .eq 44, 3) := by decide +kernel
theorem d_Mo_start_49 : decode prog_12_method_18_code 49 = .ok (.aload_n 0, 1) := by decide +kernel
theorem d_Mo_start_50 : decode prog_12_method_18_code 50 = .ok (.dup, 1) := by decide +kernel
theorem d_Mo_start_51 : decode prog_12_method_18_code 51 = .ok (.getfield 121, 3) := by decide +kernel
theorem d_Mo_start_54 : decode prog_12_method_18_code 54 = .ok (.iconst 1, 1) := by decide +kernel
theorem d_Mo_start_55 : decode prog_12_method_18_code 55 = .ok (.iadd, 1) := by decide +kernel
theorem d_Mo_start_56 : decode prog_12_method_18_code 56 = .ok (.putfield 121, 3) := by decide +kernel
theorem d_Mo_start_59 : decode prog_12_method_18_code 59 = .ok (.aload_n 0, 1) := by decide +kernel
theorem d_Mo_start_60 : decode prog_12_method_18_code 60 = .ok (.iconst 1, 1) := by decide +kernel
theorem d_Mo_start_61 : decode prog_12_method_18_code 61 = .ok (.iload_n 2, 1) := by decide +kernel
theorem d_Mo_start_62 : decode prog_12_method_18_code 62 = .ok (.bipush 97, 2) := by decide +kernel
theorem d_Mo_start_64 : decode prog_12_method_18_code 64 = .ok (.isub, 1) := by decide +kernel
theorem d_Mo_start_65 : decode prog_12_method_18_code 65 = .ok (.invokevirtual 138, 3) := by decide +kernel
theorem d_Mo_start_68 : decode prog_12_method_18_code 68 = .ok (.aload_n 0, 1) := by decide +kernel
theorem d_Mo_start_69 : decode prog_12_method_18_code 69 = .ok (.bipush 58, 2) := by decide +kernel
theorem d_Mo_start_71 : decode prog_12_method_18_code 71 = .ok (.invokevirtual 155, 3) := by decide +kernel
theorem d_Mo_start_74 : decode prog_12_method_18_code 74 = .ok (.ifCond .eq 14, 3) := by decide +kernel
theorem d_Mo_start_77 : decode prog_12_method_18_code 77 = .ok (.aload_n 0, 1) := by decide +kernel
theorem d_Mo_start_78 : decode prog_12_method_18_code 78 = .ok (.invokevirtual 165, 3) := by decide +kernel
theorem d_Mo_start_81 : decode prog_12_method_18_code 81 = .ok (.ifCond .eq 7, 3) := by decide +kernel
theorem d_Mo_start_84 : decode prog_12_method_18_code 84 = .ok (.iconst 0, 1) := by decide +kernel
theorem d_Mo_start_85 : decode prog_12_method_18_code 85 = .ok (.goto 4, 3) := by decide +kernel
theorem d_Mo_start_88 : decode prog_12_method_18_code 88 = .ok (.iconst (-1), 1) := by decide +kernel
theorem d_Mo_start_89 : decode prog_12_method_18_code 89 = .ok (.ireturn, 1) := by decide +kernel
theorem d_Mo_start_90 : decode prog_12_method_18_code 90 = .ok (.iload 4, 2) := by decide +kernel
theorem d_Mo_start_92 : decode prog_12_method_18_code 92 = .ok (.ifCond .lt 104, 3) := by decide +kernel
theorem d_Mo_start_95 : decode prog_12_method_18_code 95 = .ok (.aload_n 0, 1) := by decide +kernel
theorem d_Mo_start_96 : decode prog_12_method_18_code 96 = .ok (.dup, 1) := by decide +kernel
theorem d_Mo_start_97 : decode prog_12_method_18_code 97 = .ok (.getfield 121, 3) := by decide +kernel
theorem d_Mo_start_100 : decode prog_12_method_18_code 100 = .ok (.iconst 1, 1) := by decide +kernel
theorem d_Mo_start_101 : decode prog_12_method_18_code 101 = .ok (.iadd, 1) := by decide +kernel
theorem d_Mo_start_102 : decode prog_12_method_18_code 102 = .ok (.putfield 121, 3) := by decide +kernel
theorem d_Mo_start_105 : decode prog_12_method_18_code 105 = .ok (.iload 4, 2) := by decide +kernel
theorem d_Mo_start_107 : decode prog_12_method_18_code 107 = .ok (.iconst 4, 1) := by decide +kernel
theorem d_Mo_start_108 : decode prog_12_method_18_code 108 = .ok (.if_icmp .eq 33, 3) := by decide +kernel
theorem d_Mo_start_111 : decode prog_12_method_18_code 111 = .ok (.aload_n 0, 1) := by decide +kernel
theorem d_Mo_start_112 : decode prog_12_method_18_code 112 = .ok (.bipush 33, 2) := by decide +kernel
theorem d_Mo_start_114 : decode prog_12_method_18_code 114 = .ok (.invokevirtual 155, 3) := by decide +kernel
theorem d_Mo_start_117 : decode prog_12_method_18_code 117 = .ok (.ifCond .eq 24, 3) := by decide +kernel
theorem d_Mo_start_120 : decode prog_12_method_18_code 120 = .ok (.aload_n 0, 1) := by decide +kernel
theorem d_Mo_start_121 : decode prog_12_method_18_code 121 = .ok (.bipush 6, 2) := by decide +kernel
theorem d_Mo_start_123 : decode prog_12_method_18_code 123 = .ok (.iload 4, 2) := by decide +kernel
theorem d_Mo_start_125 : decode prog_12_method_18_code 125 = .ok (.invokevirtual 138, 3) := by decide +kernel
theorem d_Mo_start_128 : decode prog_12_method_18_code 128 = .ok (.aload_n 0, 1) := by decide +kernel
theorem d_Mo_start_129 : decode prog_12_method_18_code 129 = .ok (.invokevirtual 165, 3) := by decide +kernel
theorem d_Mo_start_132 : decode prog_12_method_18_code 132 = .ok (.ifCond .eq 7, 3) := by decide +kernel
theorem d_Mo_start_135 : decode prog_12_method_18_code 135 = .ok (.iconst 0, 1) := by decide +kernel
theorem d_Mo_start_136 : decode prog_12_method_18_code 136 = .ok (.goto 4, 3) := by decide +kernel
theorem d_Mo_start_139 : decode prog_12_method_18_code 139 = .ok (.iconst (-1), 1) := by decide +kernel
theorem d_Mo_start_140 : decode prog_12_method_18_code 140 = .ok (.ireturn, 1) := by decide +kernel
theorem d_Mo_start_141 : decode prog_12_method_18_code 141 = .ok (.iload 4, 2) := by decide +kernel
theorem d_Mo_start_143 : decode prog_12_method_18_code 143 = .ok (.iconst 5, 1) := by decide +kernel
theorem d_Mo_start_144 : decode prog_12_method_18_code 144 = .ok (.if_icmp .eq 19, 3) := by decide +kernel
theorem d_Mo_start_147 : decode prog_12_method_18_code 147 = .ok (.aload_n 0, 1) := by decide +kernel
theorem d_Mo_start_148 : decode prog_12_method_18_code 148 = .ok (.bipush 63, 2) := by decide +kernel
theorem d_Mo_start_150 : decode prog_12_method_18_code 150 = .ok (.invokevirtual 155, 3) := by decide +kernel
theorem d_Mo_start_153 : decode prog_12_method_18_code 153 = .ok (.ifCond .eq 10, 3) := by decide +kernel
theorem d_Mo_start_156 : decode prog_12_method_18_code 156 = .ok (.aload_n 0, 1) := by decide +kernel
theorem d_Mo_start_157 : decode prog_12_method_18_code 157 = .ok (.invokevirtual 142, 3) := by decide +kernel
theorem d_Mo_start_160 : decode prog_12_method_18_code 160 = .ok (.ifCond .ne 5, 3) := by decide +kernel
theorem d_Mo_start_163 : decode prog_12_method_18_code 163 = .ok (.iconst (-1), 1) := by decide +kernel
theorem d_Mo_start_164 : decode prog_12_method_18_code 164 = .ok (.ireturn, 1) := by decide +kernel
theorem d_Mo_start_165 : decode prog_12_method_18_code 165 = .ok (.aload_n 0, 1) := by decide +kernel
theorem d_Mo_start_166 : decode prog_12_method_18_code 166 = .ok (.bipush 7, 2) := by decide +kernel
theorem d_Mo_start_168 : decode prog_12_method_18_code 168 = .ok (.iload 4, 2) := by decide +kernel
theorem d_Mo_start_170 : decode prog_12_method_18_code 170 = .ok (.invokevirtual 138, 3) := by decide +kernel
theorem d_Mo_start_173 : decode prog_12_method_18_code 173 = .ok (.aload_n 0, 1) := by decide +kernel
theorem d_Mo_start_174 : decode prog_12_method_18_code 174 = .ok (.aload_n 0, 1) := by decide +kernel
theorem d_Mo_start_175 : decode prog_12_method_18_code 175 = .ok (.invokevirtual 124, 3) := by decide +kernel
theorem d_Mo_start_178 : decode prog_12_method_18_code 178 = .ok (.bipush 97, 2) := by decide +kernel
theorem d_Mo_start_180 : decode prog_12_method_18_code 180 = .ok (.isub, 1) := by decide +kernel
theorem d_Mo_start_181 : decode prog_12_method_18_code 181 = .ok (.invokevirtual 131, 3) := by decide +kernel
theorem d_Mo_start_184 : decode prog_12_method_18_code 184 = .ok (.aload_n 0, 1) := by decide +kernel
theorem d_Mo_start_185 : decode prog_12_method_18_code 185 = .ok (.dup, 1) := by decide +kernel
theorem d_Mo_start_186 : decode prog_12_method_18_code 186 = .ok (.getfield 121, 3) := by decide +kernel
theorem d_Mo_start_189 : decode prog_12_method_18_code 189 = .ok (.iconst 1, 1) := by decide +kernel
theorem d_Mo_start_190 : decode prog_12_method_18_code 190 = .ok (.iadd, 1) := by decide +kernel
theorem d_Mo_start_191 : decode prog_12_method_18_code 191 = .ok (.putfield 121, 3) := by decide +kernel
theorem d_Mo_start_194 : decode prog_12_method_18_code 194 = .ok (.iconst 0, 1) := by decide +kernel
theorem d_Mo_start_195 : decode prog_12_method_18_code 195 = .ok (.ireturn, 1) := by decide +kernel
theorem d_Mo_start_196 : decode prog_12_method_18_code 196 = .ok (.iload_n 2, 1) := by decide +kernel
theorem d_Mo_start_197 : decode prog_12_method_18_code 197 = .ok (.ifCond .eq 51, 3) := by decide +kernel
theorem d_Mo_start_200 : decode prog_12_method_18_code 200 = .ok (.iload_n 2, 1) := by decide +kernel
theorem d_Mo_start_201 : decode prog_12_method_18_code 201 = .ok (.bipush 46, 2) := by decide +kernel
theorem d_Mo_start_203 : decode prog_12_method_18_code 203 = .ok (.if_icmp .eq 47, 3) := by decide +kernel
theorem d_Mo_start_206 : decode prog_12_method_18_code 206 = .ok (.iload_n 2, 1) := by decide +kernel
theorem d_Mo_start_207 : decode prog_12_method_18_code 207 = .ok (.bipush 35, 2) := by decide +kernel
theorem d_Mo_start_209 : decode prog_12_method_18_code 209 = .ok (.if_icmp .eq 41, 3) := by decide +kernel
theorem d_Mo_start_212 : decode prog_12_method_18_code 212 = .ok (.iload_n 2, 1) := by decide +kernel
theorem d_Mo_start_213 : decode prog_12_method_18_code 213 = .ok (.bipush 64, 2) := by decide +kernel
theorem d_Mo_start_215 : decode prog_12_method_18_code 215 = .ok (.if_icmp .eq 35, 3) := by decide +kernel
theorem d_Mo_start_218 : decode prog_12_method_18_code 218 = .ok (.iload_n 2, 1) := by decide +kernel
theorem d_Mo_start_219 : decode prog_12_method_18_code 219 = .ok (.bipush 40, 2) := by decide +kernel
theorem d_Mo_start_221 : decode prog_12_method_18_code 221 = .ok (.if_icmp .eq 29, 3) := by decide +kernel
theorem d_Mo_start_224 : decode prog_12_method_18_code 224 = .ok (.iload_n 2, 1) := by decide +kernel
theorem d_Mo_start_225 : decode prog_12_method_18_code 225 = .ok (.bipush 123, 2) := by decide +kernel
theorem d_Mo_start_227 : decode prog_12_method_18_code 227 = .ok (.if_icmp .eq 23, 3) := by decide +kernel
theorem d_Mo_start_230 : decode prog_12_method_18_code 230 = .ok (.iload_n 2, 1) := by decide +kernel
theorem d_Mo_start_231 : decode prog_12_method_18_code 231 = .ok (.bipush 94, 2) := by decide +kernel
theorem d_Mo_start_233 : decode prog_12_method_18_code 233 = .ok (.if_icmp .eq 17, 3) := by decide +kernel
theorem d_Mo_start_236 : decode prog_12_method_18_code 236 = .ok (.iload_n 2, 1) := by decide +kernel
theorem d_Mo_start_237 : decode prog_12_method_18_code 237 = .ok (.bipush 63, 2) := by decide +kernel
theorem d_Mo_start_239 : decode prog_12_method_18_code 239 = .ok (.if_icmp .eq 11, 3) := by decide +kernel
theorem d_Mo_start_242 : decode prog_12_method_18_code 242 = .ok (.iload_n 2, 1) := by decide +kernel
theorem d_Mo_start_243 : decode prog_12_method_18_code 243 = .ok (.bipush 91, 2) := by decide +kernel
theorem d_Mo_start_245 : decode prog_12_method_18_code 245 = .ok (.if_icmp .eq 5, 3) := by decide +kernel
theorem d_Mo_start_248 : decode prog_12_method_18_code 248 = .ok (.iconst (-1), 1) := by decide +kernel
theorem d_Mo_start_249 : decode prog_12_method_18_code 249 = .ok (.ireturn, 1) := by decide +kernel
theorem d_Mo_start_250 : decode prog_12_method_18_code 250 = .ok (.aload_n 0, 1) := by decide +kernel
theorem d_Mo_start_251 : decode prog_12_method_18_code 251 = .ok (.dup, 1) := by decide +kernel
theorem d_Mo_start_252 : decode prog_12_method_18_code 252 = .ok (.getfield 121, 3) := by decide +kernel
theorem d_Mo_start_255 : decode prog_12_method_18_code 255 = .ok (.iconst 1, 1) := by decide +kernel
theorem d_Mo_start_256 : decode prog_12_method_18_code 256 = .ok (.iadd, 1) := by decide +kernel
theorem d_Mo_start_257 : decode prog_12_method_18_code 257 = .ok (.putfield 121, 3) := by decide +kernel
theorem d_Mo_start_260 : decode prog_12_method_18_code 260 = .ok (.iload_n 2, 1) := by decide +kernel
theorem d_Mo_start_261 : decode prog_12_method_18_code 261 = .ok (.bipush 46, 2) := by decide +kernel
theorem d_Mo_start_263 : decode prog_12_method_18_code 263 = .ok (.if_icmp .eq 9, 3) := by decide +kernel
theorem d_Mo_start_266 : decode prog_12_method_18_code 266 = .ok (.iload_n 2, 1) := by decide +kernel
theorem d_Mo_start_267 : decode prog_12_method_18_code 267 = .ok (.bipush 35, 2) := by decide +kernel
theorem d_Mo_start_269 : decode prog_12_method_18_code 269 = .ok (.if_icmp .ne 20, 3) := by decide +kernel
theorem d_Mo_start_272 : decode prog_12_method_18_code 272 = .ok (.aload_n 0, 1) := by decide +kernel
theorem d_Mo_start_273 : decode prog_12_method_18_code 273 = .ok (.iload_n 2, 1) := by decide +kernel
theorem d_Mo_start_274 : decode prog_12_method_18_code 274 = .ok (.bipush 46, 2) := by decide +kernel
theorem d_Mo_start_276 : decode prog_12_method_18_code 276 = .ok (.if_icmp .ne 7, 3) := by decide +kernel
theorem d_Mo_start_279 : decode prog_12_method_18_code 279 = .ok (.iconst 2, 1) := by decide +kernel
theorem d_Mo_start_280 : decode prog_12_method_18_code 280 = .ok (.goto 4, 3) := by decide +kernel
theorem d_Mo_start_283 : decode prog_12_method_18_code 283 = .ok (.iconst 3, 1) := by decide +kernel
theorem d_Mo_start_284 : decode prog_12_method_18_code 284 = .ok (.invokevirtual 131, 3) := by decide +kernel
theorem d_Mo_start_287 : decode prog_12_method_18_code 287 = .ok (.iconst 0, 1) := by decide +kernel
theorem d_Mo_start_288 : decode prog_12_method_18_code 288 = .ok (.ireturn, 1) := by decide +kernel
theorem d_Mo_start_289 : decode prog_12_method_18_code 289 = .ok (.iload_n 2, 1) := by decide +kernel
theorem d_Mo_start_290 : decode prog_12_method_18_code 290 = .ok (.bipush 64, 2) := by decide +kernel
theorem d_Mo_start_292 : decode prog_12_method_18_code 292 = .ok (.if_icmp .ne 22, 3) := by decide +kernel
theorem d_Mo_start_295 : decode prog_12_method_18_code 295 = .ok (.aload_n 0, 1) := by decide +kernel
theorem d_Mo_start_296 : decode prog_12_method_18_code 296 = .ok (.bipush 9, 2) := by decide +kernel
theorem d_Mo_start_298 : decode prog_12_method_18_code 298 = .ok (.invokevirtual 131, 3) := by decide +kernel
theorem d_Mo_start_301 : decode prog_12_method_18_code 301 = .ok (.aload_n 0, 1) := by decide +kernel
theorem d_Mo_start_302 : decode prog_12_method_18_code 302 = .ok (.invokevirtual 165, 3) := by decide +kernel
theorem d_Mo_start_305 : decode prog_12_method_18_code 305 = .ok (.ifCond .eq 7, 3) := by decide +kernel
theorem d_Mo_start_308 : decode prog_12_method_18_code 308 = .ok (.iconst 0, 1) := by decide +kernel
theorem d_Mo_start_309 : decode prog_12_method_18_code 309 = .ok (.goto 4, 3) := by decide +kernel
theorem d_Mo_start_312 : decode prog_12_method_18_code 312 = .ok (.iconst (-1), 1) := by decide +kernel
theorem d_Mo_start_313 : decode prog_12_method_18_code 313 = .ok (.ireturn, 1) := by decide +kernel
theorem d_Mo_start_314 : decode prog_12_method_18_code 314 = .ok (.iload_n 2, 1) := by decide +kernel
theorem d_Mo_start_315 : decode prog_12_method_18_code 315 = .ok (.bipush 40, 2) := by decide +kernel
theorem d_Mo_start_317 : decode prog_12_method_18_code 317 = .ok (.if_icmp .ne 9, 3) := by decide +kernel
theorem d_Mo_start_320 : decode prog_12_method_18_code 320 = .ok (.aload_n 0, 1) := by decide +kernel
theorem d_Mo_start_321 : decode prog_12_method_18_code 321 = .ok (.iconst 1, 1) := by decide +kernel
theorem d_Mo_start_322 : decode prog_12_method_18_code 322 = .ok (.iload_n 3, 1) := by decide +kernel
theorem d_Mo_start_323 : decode prog_12_method_18_code 323 = .ok (.invokevirtual 168, 3) := by decide +kernel
theorem d_Mo_start_326 : decode prog_12_method_18_code 326 = .ok (.iload_n 2, 1) := by decide +kernel
theorem d_Mo_start_327 : decode prog_12_method_18_code 327 = .ok (.bipush 123, 2) := by decide +kernel
theorem d_Mo_start_329 : decode prog_12_method_18_code 329 = .ok (.if_icmp .ne 35, 3) := by decide +kernel
theorem d_Mo_start_332 : decode prog_12_method_18_code 332 = .ok (.aload_n 0, 1) := by decide +kernel
theorem d_Mo_start_333 : decode prog_12_method_18_code 333 = .ok (.iconst 5, 1) := by decide +kernel
theorem d_Mo_start_334 : decode prog_12_method_18_code 334 = .ok (.iconst 0, 1) := by decide +kernel
theorem d_Mo_start_335 : decode prog_12_method_18_code 335 = .ok (.invokevirtual 138, 3) := by decide +kernel
theorem d_Mo_start_338 : decode prog_12_method_18_code 338 = .ok (.iconst 0, 1) := by decide +kernel
theorem d_Mo_start_339 : decode prog_12_method_18_code 339 = .ok (.istore 5, 2) := by decide +kernel
theorem d_Mo_start_341 : decode prog_12_method_18_code 341 = .ok (.iload 5, 2) := by decide +kernel
theorem d_Mo_start_343 : decode prog_12_method_18_code 343 = .ok (.iconst 5, 1) := by decide +kernel
theorem d_Mo_start_344 : decode prog_12_method_18_code 344 = .ok (.if_icmp .ge 14, 3) := by decide +kernel
theorem d_Mo_start_347 : decode prog_12_method_18_code 347 = .ok (.aload_n 0, 1) := by decide +kernel
theorem d_Mo_start_348 : decode prog_12_method_18_code 348 = .ok (.iconst 0, 1) := by decide +kernel
theorem d_Mo_start_349 : decode prog_12_method_18_code 349 = .ok (.invokevirtual 131, 3) := by decide +kernel
theorem d_Mo_start_352 : decode prog_12_method_18_code 352 = .ok (.iinc 5 1, 3) := by decide +kernel
theorem d_Mo_start_355 : decode prog_12_method_18_code 355 = .ok (.goto (-14), 3) := by decide +kernel
theorem d_Mo_start_358 : decode prog_12_method_18_code 358 = .ok (.aload_n 0, 1) := by decide +kernel
theorem d_Mo_start_359 : decode prog_12_method_18_code 359 = .ok (.iconst 2, 1) := by decide +kernel
theorem d_Mo_start_360 : decode prog_12_method_18_code 360 = .ok (.iload_n 3, 1) := by decide +kernel
theorem d_Mo_start_361 : decode prog_12_method_18_code 361 = .ok (.invokevirtual 168, 3) := by decide +kernel
theorem d_Mo_start_364 : decode prog_12_method_18_code 364 = .ok (.iload_n 2, 1) := by decide +kernel
theorem d_Mo_start_365 : decode prog_12_method_18_code 365 = .ok (.bipush 94, 2) := by decide +kernel
theorem d_Mo_start_367 : decode prog_12_method_18_code 367 = .ok (.if_icmp .eq 9, 3) := by decide +kernel
theorem d_Mo_start_370 : decode prog_12_method_18_code 370 = .ok (.iload_n 2, 1) := by decide +kernel
theorem d_Mo_start_371 : decode prog_12_method_18_code 371 = .ok (.bipush 63, 2) := by decide +kernel
theorem d_Mo_start_373 : decode prog_12_method_18_code 373 = .ok (.if_icmp .ne 43, 3) := by decide +kernel
theorem d_Mo_start_376 : decode prog_12_method_18_code 376 = .ok (.aload_n 0, 1) := by decide +kernel
theorem d_Mo_start_377 : decode prog_12_method_18_code 377 = .ok (.iconst 4, 1) := by decide +kernel
theorem d_Mo_start_378 : decode prog_12_method_18_code 378 = .ok (.iconst 0, 1) := by decide +kernel
theorem d_Mo_start_379 : decode prog_12_method_18_code 379 = .ok (.invokevirtual 138, 3) := by decide +kernel
theorem d_Mo_start_382 : decode prog_12_method_18_code 382 = .ok (.aload_n 0, 1) := by decide +kernel
theorem d_Mo_start_383 : decode prog_12_method_18_code 383 = .ok (.invokevirtual 165, 3) := by decide +kernel
theorem d_Mo_start_386 : decode prog_12_method_18_code 386 = .ok (.ifCond .eq 12, 3) := by decide +kernel
theorem d_Mo_start_389 : decode prog_12_method_18_code 389 = .ok (.aload_n 0, 1) := by decide +kernel
theorem d_Mo_start_390 : decode prog_12_method_18_code 390 = .ok (.bipush 44, 2) := by decide +kernel
theorem d_Mo_start_392 : decode prog_12_method_18_code 392 = .ok (.invokevirtual 155, 3) := by decide +kernel
theorem d_Mo_start_395 : decode prog_12_method_18_code 395 = .ok (.ifCond .ne 5, 3) := by decide +kernel
theorem d_Mo_start_398 : decode prog_12_method_18_code 398 = .ok (.iconst (-1), 1) := by decide +kernel
theorem d_Mo_start_399 : decode prog_12_method_18_code 399 = .ok (.ireturn, 1) := by decide +kernel
theorem d_Mo_start_400 : decode prog_12_method_18_code 400 = .ok (.aload_n 0, 1) := by decide +kernel
theorem d_Mo_start_401 : decode prog_12_method_18_code 401 = .ok (.iload_n 2, 1) := by decide +kernel
theorem d_Mo_start_402 : decode prog_12_method_18_code 402 = .ok (.bipush 94, 2) := by decide +kernel
theorem d_Mo_start_404 : decode prog_12_method_18_code 404 = .ok (.if_icmp .ne 7, 3) := by decide +kernel
theorem d_Mo_start_407 : decode prog_12_method_18_code 407 = .ok (.iconst 3, 1) := by decide +kernel
theorem d_Mo_start_408 : decode prog_12_method_18_code 408 = .ok (.goto 4, 3) := by decide +kernel
theorem d_Mo_start_411 : decode prog_12_method_18_code 411 = .ok (.iconst 4, 1) := by decide +kernel
theorem d_Mo_start_412 : decode prog_12_method_18_code 412 = .ok (.iload_n 3, 1) := by decide +kernel
theorem d_Mo_start_413 : decode prog_12_method_18_code 413 = .ok (.invokevirtual 168, 3) := by decide +kernel
theorem d_Mo_start_416 : decode prog_12_method_18_code 416 = .ok (.iload_n 2, 1) := by decide +kernel
theorem d_Mo_start_417 : decode prog_12_method_18_code 417 = .ok (.bipush 91, 2) := by decide +kernel
theorem d_Mo_start_419 : decode prog_12_method_18_code 419 = .ok (.if_icmp .ne 38, 3) := by decide +kernel
theorem d_Mo_start_422 : decode prog_12_method_18_code 422 = .ok (.aload_n 0, 1) := by decide +kernel
theorem d_Mo_start_423 : decode prog_12_method_18_code 423 = .ok (.bipush 8, 2) := by decide +kernel
theorem d_Mo_start_425 : decode prog_12_method_18_code 425 = .ok (.iconst 0, 1) := by decide +kernel
theorem d_Mo_start_426 : decode prog_12_method_18_code 426 = .ok (.invokevirtual 138, 3) := by decide +kernel
theorem d_Mo_start_429 : decode prog_12_method_18_code 429 = .ok (.iconst 0, 1) := by decide +kernel
theorem d_Mo_start_430 : decode prog_12_method_18_code 430 = .ok (.istore 5, 2) := by decide +kernel
theorem d_Mo_start_432 : decode prog_12_method_18_code 432 = .ok (.iload 5, 2) := by decide +kernel
theorem d_Mo_start_434 : decode prog_12_method_18_code 434 = .ok (.bipush 16, 2) := by decide +kernel
theorem d_Mo_start_436 : decode prog_12_method_18_code 436 = .ok (.if_icmp .ge 14, 3) := by decide +kernel
theorem d_Mo_start_439 : decode prog_12_method_18_code 439 = .ok (.aload_n 0, 1) := by decide +kernel
theorem d_Mo_start_440 : decode prog_12_method_18_code 440 = .ok (.iconst 0, 1) := by decide +kernel
theorem d_Mo_start_441 : decode prog_12_method_18_code 441 = .ok (.invokevirtual 131, 3) := by decide +kernel
theorem d_Mo_start_444 : decode prog_12_method_18_code 444 = .ok (.iinc 5 1, 3) := by decide +kernel
theorem d_Mo_start_447 : decode prog_12_method_18_code 447 = .ok (.goto (-15), 3) := by decide +kernel
theorem d_Mo_start_450 : decode prog_12_method_18_code 450 = .ok (.aload_n 0, 1) := by decide +kernel
theorem d_Mo_start_451 : decode prog_12_method_18_code 451 = .ok (.bipush 6, 2) := by decide +kernel
theorem d_Mo_start_453 : decode prog_12_method_18_code 453 = .ok (.iload_n 3, 1) := by decide +kernel
theorem d_Mo_start_454 : decode prog_12_method_18_code 454 = .ok (.invokevirtual 168, 3) := by decide +kernel
theorem d_Mo_start_457 : decode prog_12_method_18_code 457 = .ok (.iconst 1, 1) := by decide +kernel
theorem d_Mo_start_458 : decode prog_12_method_18_code 458 = .ok (.ireturn, 1) := by decide +kernel
set_option maxHeartbeats 4000000 in
set_option maxRecDepth 100000 in
theorem c_CM_load (l : Launch) (hst : l.stackTraces = false) (dC : Nat → ClassId) (dI : Nat → Nat → Nat) (ar : Nat → ClassId) (N0 : Nat) (z : Nat → Nat) (h0 rd mc va ch gi bo qu sl sk : Nat) (tx co : Nat) (sz : Nat) : vx_Met l ({ cls := "ChannelMachine", name := "load", desc := "()I" } : Jvm.MethodName) ((Jvm.Cond.code ({ cls := "ChannelMachine", name := "load", desc := "()I" } : Jvm.MethodName) prog_1_method_4_code (2 : Nat) (Option.some Jvm.ClassFile.FieldType.int)) :: x_T) ({ frames := 6, cells := 1, slots := 6, locals := 91 }) (x_Pc (dC, dI) ar N0 z [(h0, .inr (5, [.ref rd, .ref mc, .int (-1)])), (rd, .inr (3, [.ref tx, .ref co, .int 0, .int 0, .int 0, .int 0, .int 0, .int 0, .null]))] sz [.ref h0]) (va_Qi (fun (r : Int32) (u : Unit) => False) (fun u t => True) (va_A [(h0, .inr (5, [.ref rd, .ref mc, .int (-1)])), (rd, .inr (3, [.ref tx, .ref co, .int 0, .int 0, .int 0, .int 0, .int 0, .int 0, .null]))] sz)) (vx_X (fun (_ : Unit) => True) (fun E _ t => E = "java/lang/IllegalArgumentException") (va_A [(h0, .inr (5, [.ref rd, .ref mc, .int (-1)])), (rd, .inr (3, [.ref tx, .ref co, .int 0, .int 0, .int 0, .int 0, .int 0, .int 0, .null]))] sz)) 1 6 (va_A [(h0, .inr (5, [.ref rd, .ref mc, .int (-1)])), (rd, .inr (3, [.ref tx, .ref co, .int 0, .int 0, .int 0, .int 0, .int 0, .int 0, .null]))] sz) := by
  refine vx_ofW (cc := prog_1_method_4_code) (maxL := 2) (ret := (some .int)) (by decide) rfl ?_
  intro p e s m args below meth c s₁ B hml htb hv
  obtain ⟨rfl, hsz, hN0, hP, hU, hZ, hD0⟩ := hv
  have hK := hU.1
  have hx := B.exec
  have hb := B.bytes
  have hr := B.returns
  have hts : ∀ w ∈ x_T, w.before ([.ref h0] : List Value).toArray s = true := fun w h => atoms_spec (ws := (Jvm.Cond.code ({ cls := "ChannelMachine", name := "load", desc := "()I" } : Jvm.MethodName) prog_1_method_4_code (2 : Nat) (Option.some Jvm.ClassFile.FieldType.int)) :: x_T) B.pre w (List.mem_cons_of_mem _ h)
  have hown : s.vm.findClass "ChannelMachine" = some m.cls := findClass_of_methodNamed B.named
  have hlocks := B.notSynchronized
  subst hsz
  have hD := hD0.self (sz := s.heap.size)
  have hAN := x_AN hD0 hN0
  generalize hAe : va_A [(h0, .inr (5, [.ref rd, .ref mc, .int (-1)])), (rd, .inr (3, [.ref tx, .ref co, .int 0, .int 0, .int 0, .int 0, .int 0, .int 0, .null]))] s.heap.size = A at hD hAN ⊢
  have hA : ∀ q : Nat, s.heap.size ≤ q → A q := fun q h => by rw [← hAe]; exact Or.inr h
  have hS : va_S A s.heap s.heap [] := va_S.rf
  have hP : va_P (dC, dI) x_cl [(h0, .inr (5, [.ref rd, .ref mc, .int (-1)])), (rd, .inr (3, [.ref tx, .ref co, .int 0, .int 0, .int 0, .int 0, .int 0, .int 0, .null]))] s.heap := hP
  have hl := lv_entry ([.ref h0]) (n := 2) (Nat.le_of_ble_eq_true rfl)
  rw [lg_entry_eq]
  generalize (lg_sl ([.ref h0]) ++ List.replicate (2 - (lg_sl ([.ref h0])).length) Slot.unset).toArray = ls at hl ⊢
  have hl : lv_has ls 2 [(0, .ref h0)] := hl
  have hH0 : s.heap.size ≤ s.heap.size := Nat.le_refl _
  refine lv_aload_n hx hb d_CM_load_0 rfl (lv_at hl 0 rfl) ?_
  refine va_get (D := (dC, dI)) (ci := 5) (v := .ref rd) (C := "ChannelMachine") (T := F_CM) (N := 3) hx hb hts i_CM hown hK hP 0 rfl rfl 0 (by decide) (hts _ k_194) (fun _ h9 => h9) rfl d_CM_load_1 ?_
  have hPc := hP.sub (ws' := [(rd, .inr (3, [.ref tx, .ref co, .int 0, .int 0, .int 0, .int 0, .int 0, .int 0, .null]))]) [1] rfl
  have hDc := hD.sub (ws' := [(rd, .inr (3, [.ref tx, .ref co, .int 0, .int 0, .int 0, .int 0, .int 0, .int 0, .null]))]) [1] (by decide) rfl
  have hFc := va_free (wc := [(rd, .inr (3, [.ref tx, .ref co, .int 0, .int 0, .int 0, .int 0, .int 0, .int 0, .null]))]) hD hS hA [1] rfl
  refine va_callv (va_runV (As := []) (rest := []) ⟨hx, hb, hml, hown, hts⟩ (c_Reader_start l dC dI ar N0 z rd tx co s.heap.size) (cwV 0 hts (x_goodV k_326 k_327 k_328 k_2 k_329) rfl rfl rfl (by decide +kernel) ⟨Nat.le_of_ble_eq_true rfl, Nat.le_of_ble_eq_true rfl⟩) ⟨x_blind, va_recv hK hPc (ci := 3) (q0 := 0) rfl rfl, fun U hU9 hW => x_pre hU9 hW hPc hDc hU hZ hS hAN hN0⟩ rfl rfl hl.1 rfl (lv_room (Nat.le_of_ble_eq_true rfl)) d_CM_load_4 ⟨Nat.le_of_ble_eq_true rfl, Nat.le_of_ble_eq_true rfl⟩) hS (fun q _ h => hFc q h) hFc (fun u1 t H1 locs ht hvm hw hB hz1 hk1 hS => ?_)
  obtain ⟨hP1, hD1⟩ := hB
  rw [ht] at hP1
  obtain ⟨hP, hD⟩ := va_join (wr := [(h0, .inr (5, [.ref rd, .ref mc, .int (-1)]))]) (w1 := [(rd, .inr (3, [.ref tx, .ref co, .int 0, .int 0, .int 0, .int 0, .int 0, .int 0, .null]))]) hP hD [1] [0] rfl rfl (by decide) (by decide) hk1 hFc hP1 hD1
  generalize H1 = H at hP hS ⊢
  have hP : va_P (dC, dI) x_cl [(h0, .inr (5, [.ref rd, .ref mc, .int (-1)])), (rd, .inr (3, [.ref tx, .ref co, .int 0, .int 0, .int 0, .int 0, .int 0, .int 0, .null]))] H := hP
  have hD : va_D A [(h0, .inr (5, [.ref rd, .ref mc, .int (-1)])), (rd, .inr (3, [.ref tx, .ref co, .int 0, .int 0, .int 0, .int 0, .int 0, .int 0, .null]))] := hD
  refine W.widen (k := 0) (n := 0) (Nat.le_of_ble_eq_true rfl) (Nat.le_of_ble_eq_true rfl) ?_
  refine lv_aload_n hx hb d_CM_load_7 rfl (lv_at hl 0 rfl) ?_
  refine va_get (D := (dC, dI)) (ci := 5) (v := .ref rd) (C := "ChannelMachine") (T := F_CM) (N := 3) hx hb hts i_CM hown hK hP 0 rfl rfl 0 (by decide) (hts _ k_194) (fun _ h9 => h9) rfl d_CM_load_8 ?_
  refine lv_null hx hb d_CM_load_11 ?_
  refine lv_iconst (v := 1) hx hb d_CM_load_12 (by decide) ?_
  refine lv_iconst (v := 0) hx hb d_CM_load_13 (by decide) ?_
  have hPc := hP.sub (ws' := [(rd, .inr (3, [.ref tx, .ref co, .int 0, .int 0, .int 0, .int 0, .int 0, .int 0, .null]))]) [1] rfl
  have hDc := hD.sub (ws' := [(rd, .inr (3, [.ref tx, .ref co, .int 0, .int 0, .int 0, .int 0, .int 0, .int 0, .null]))]) [1] (by decide) rfl
  have hFc := va_free (wc := [(rd, .inr (3, [.ref tx, .ref co, .int 0, .int 0, .int 0, .int 0, .int 0, .int 0, .null]))]) hD hS hA [1] rfl
  refine va_calli (va_runVN (As := [.null, .int 1, .int 0]) (rest := []) ⟨hx, hb, hml, hown, hts⟩ (c_Reader_process l dC dI ar N0 z rd tx co H.size) ⟨va_cnB 3 hts (x_good k_333) rfl rfl rfl (hU.2.1 _ kn_330) (hts _ k_2) (by decide +kernel) ⟨Nat.le_of_ble_eq_true rfl, Nat.le_of_ble_eq_true rfl⟩, hts _ k_332, hts _ kp_1⟩ ⟨x_blind, va_recv hK hPc (ci := 3) (q0 := 0) rfl rfl, fun U hU9 hW => x_pre hU9 hW hPc hDc hU hZ hS hAN hN0⟩ rfl rfl hl.1 rfl (lv_room (Nat.le_of_ble_eq_true rfl)) d_CM_load_14 ⟨Nat.le_of_ble_eq_true rfl, Nat.le_of_ble_eq_true rfl⟩) hS (fun q _ h => hFc q h) hFc (fun r2 u3 t H1 locs ht hvm hw hB hz1 hk1 hS => ?_)
  obtain ⟨hP1, hD1⟩ := hB
  rw [ht] at hP1
  obtain ⟨hP, hD⟩ := va_join (wr := [(h0, .inr (5, [.ref rd, .ref mc, .int (-1)]))]) (w1 := [(rd, .inr (3, [.ref tx, .ref co, .int 0, .int 0, .int 0, .int 0, .int 0, .int 0, .null]))]) hP hD [1] [0] rfl rfl (by decide) (by decide) hk1 hFc hP1 hD1
  generalize H1 = H at hP hS ⊢
  have hP : va_P (dC, dI) x_cl [(h0, .inr (5, [.ref rd, .ref mc, .int (-1)])), (rd, .inr (3, [.ref tx, .ref co, .int 0, .int 0, .int 0, .int 0, .int 0, .int 0, .null]))] H := hP
  have hD : va_D A [(h0, .inr (5, [.ref rd, .ref mc, .int (-1)])), (rd, .inr (3, [.ref tx, .ref co, .int 0, .int 0, .int 0, .int 0, .int 0, .int 0, .null]))] := hD
  refine W.widen (k := 0) (n := 0) (Nat.le_of_ble_eq_true rfl) (Nat.le_of_ble_eq_true rfl) ?_
  obtain rfl := hw
  refine lv_if_eq (tgt := 34) hx hb d_CM_load_17 (by decide) (fun _ => ?_) (fun c4 => absurd (by decide) c4)
  refine lv_iconst (v := 0) hx hb d_CM_load_34 (by decide) ?_
  refine lv_istore_n (lv' := [(1, .int 0), (0, .ref h0)]) hx hb d_CM_load_35 rfl hl (by decide) rfl (fun ls hl => ?_)
  refine lv_aload_n hx hb d_CM_load_36 rfl (lv_at hl 1 rfl) ?_
  refine va_get (D := (dC, dI)) (ci := 5) (v := .ref rd) (C := "ChannelMachine") (T := F_CM) (N := 3) hx hb hts i_CM hown hK hP 0 rfl rfl 0 (by decide) (hts _ k_194) (fun _ h9 => h9) rfl d_CM_load_37 ?_
  refine lv_iconst (v := 0) hx hb d_CM_load_40 (by decide) ?_
  refine va_putN (D := (dC, dI)) (ci := 3) (v := .int 0) (ty := .int) (C := "ChannelMachine$Reader") (T := F_Reader) (N := 9) hx hb hts i_Reader t_Reader t_Reader_ok n_Reader hown hK hP hD hS 1 rfl rfl 2 (by decide) (hU.2.1 _ kn_46) (fun _ h9 => h9) rfl (by decide +kernel) rfl rfl (Nat.le_of_ble_eq_true rfl) d_CM_load_41 (fun H locs hP hD hS => ?_)
  have hP : va_P (dC, dI) x_cl [(h0, .inr (5, [.ref rd, .ref mc, .int (-1)])), (rd, .inr (3, [.ref tx, .ref co, .int 0, .int 0, .int 0, .int 0, .int 0, .int 0, .null]))] H := hP
  have hD : va_D A [(h0, .inr (5, [.ref rd, .ref mc, .int (-1)])), (rd, .inr (3, [.ref tx, .ref co, .int 0, .int 0, .int 0, .int 0, .int 0, .int 0, .null]))] := hD
  refine lv_iload_n hx hb d_CM_load_44 rfl (lv_at hl 0 rfl) ?_
  refine lv_if_ne (tgt := 69) hx hb d_CM_load_45 (by decide) (fun c5 => absurd rfl c5) (fun _ => ?_)
  refine lv_aload_n hx hb d_CM_load_48 rfl (lv_at hl 1 rfl) ?_
  refine lv_aload_n hx hb d_CM_load_49 rfl (lv_at hl 1 rfl) ?_
  refine va_get (D := (dC, dI)) (ci := 5) (v := .ref rd) (C := "ChannelMachine") (T := F_CM) (N := 3) hx hb hts i_CM hown hK hP 0 rfl rfl 0 (by decide) (hts _ k_194) (fun _ h9 => h9) rfl d_CM_load_50 ?_
  refine va_getN (D := (dC, dI)) (ci := 3) (v := .int 0) (C := "ChannelMachine$Reader") (T := F_Reader) (N := 9) hx hb hts i_Reader hown hK hP 1 rfl rfl 6 (by decide) (hU.2.1 _ kn_51) (fun _ h9 => h9) rfl d_CM_load_53 ?_
  refine va_put (D := (dC, dI)) (ci := 5) (v := .int 0) (ty := .int) (C := "ChannelMachine") (T := F_CM) (N := 3) hx hb hts i_CM t_CM t_CM_ok n_CM hown hK hP hD hS 0 rfl rfl 2 (by decide) (hts _ k_196) (fun _ h9 => h9) rfl (by decide +kernel) rfl rfl (Nat.le_of_ble_eq_true rfl) d_CM_load_56 (fun H locs hP hD hS => ?_)
  have hP : va_P (dC, dI) x_cl [(h0, .inr (5, [.ref rd, .ref mc, .int 0])), (rd, .inr (3, [.ref tx, .ref co, .int 0, .int 0, .int 0, .int 0, .int 0, .int 0, .null]))] H := hP
  have hD : va_D A [(h0, .inr (5, [.ref rd, .ref mc, .int 0])), (rd, .inr (3, [.ref tx, .ref co, .int 0, .int 0, .int 0, .int 0, .int 0, .int 0, .null]))] := hD
  exact x_throw (A := A) hx hb hst (own := "ChannelMachine") (cls := "java/lang/IllegalArgumentException") (text := "not a program") (ik := 31) (is := 62) (ic := 35) hown k_230 k_13 (by decide) x_tChannelMachine_35 (by decide +kernel) rfl hts hU hZ hAN hS (by rw [hml]; exact hl.1) d_CM_load_59 d_CM_load_62 d_CM_load_63 d_CM_load_65 d_CM_load_68 htb (Nat.le_of_ble_eq_true rfl) (Nat.le_of_ble_eq_true rfl) (Nat.le_of_ble_eq_true rfl) (Nat.le_of_ble_eq_true rfl) hlocks (fun t h1 h2 h3 h4 => ⟨(), trivial, rfl, h4⟩) hS.2.2 (Nat.le_of_ble_eq_true rfl) (Nat.le_of_ble_eq_true rfl)
set_option maxHeartbeats 4000000 in
set_option maxRecDepth 100000 in
theorem c_La_load (l : Launch) (hst : l.stackTraces = false) (dC : Nat → ClassId) (dI : Nat → Nat → Nat) (ar : Nat → ClassId) (N0 : Nat) (z : Nat → Nat) (ot : Nat) (h0 rd mc va ch gi bo qu sl sk : Nat) (tx co : Nat) (sz : Nat) : Met l ({ cls := "ChannelMachineLaw", name := "load", desc := "(LChannelMachine;[J)I" } : Jvm.MethodName) ((Jvm.Cond.codeWith ({ cls := "ChannelMachineLaw", name := "load", desc := "(LChannelMachine;[J)I" } : Jvm.MethodName) method_4_code (3 : Nat) (Option.some Jvm.ClassFile.FieldType.int) [((0 : Nat), (8 : Nat), (11 : Nat), (13 : Nat))]) :: x_T) ({ frames := 7, cells := 1, slots := 6, locals := 112 }) (x_Pc (dC, dI) ar N0 z [(ot, .inl (ar 2, 1, .inr (.inl (fun _ => 0)))), (h0, .inr (5, [.ref rd, .ref mc, .int (-1)])), (rd, .inr (3, [.ref tx, .ref co, .int 0, .int 0, .int 0, .int 0, .int 0, .int 0, .null]))] sz [.ref h0, .ref ot]) (va_Qi (fun (r : Int32) (u : Nat → Int64) => r = 1) (fun u t => va_P (dC, dI) x_cl [(ot, .inl (ar 2, 1, .inr (.inl u)))] t.heap ∧ va_D (va_A [(ot, .inl (ar 2, 1, .inr (.inl (fun _ => 0)))), (h0, .inr (5, [.ref rd, .ref mc, .int (-1)])), (rd, .inr (3, [.ref tx, .ref co, .int 0, .int 0, .int 0, .int 0, .int 0, .int 0, .null]))] sz) [(ot, .inl (ar 2, 1, .inr (.inl u)))]) (va_A [(ot, .inl (ar 2, 1, .inr (.inl (fun _ => 0)))), (h0, .inr (5, [.ref rd, .ref mc, .int (-1)])), (rd, .inr (3, [.ref tx, .ref co, .int 0, .int 0, .int 0, .int 0, .int 0, .int 0, .null]))] sz)) 1 6 (va_A [(ot, .inl (ar 2, 1, .inr (.inl (fun _ => 0)))), (h0, .inr (5, [.ref rd, .ref mc, .int (-1)])), (rd, .inr (3, [.ref tx, .ref co, .int 0, .int 0, .int 0, .int 0, .int 0, .int 0, .null]))] sz) := by
  refine va_MetW (cc := method_4_code) (maxL := 3) (ret := (some .int)) (by decide) rfl ?_
  intro p e s m args below meth c s₁ B hml hv
  obtain ⟨rfl, hsz, hN0, hP, hU, hZ, hD0⟩ := hv
  have hK := hU.1
  have hx := B.exec
  have hb := B.bytes
  have hr := B.returns
  have hts : ∀ w ∈ x_T, w.before ([.ref h0, .ref ot] : List Value).toArray s = true := fun w h => atoms_spec (ws := (Jvm.Cond.codeWith ({ cls := "ChannelMachineLaw", name := "load", desc := "(LChannelMachine;[J)I" } : Jvm.MethodName) method_4_code (3 : Nat) (Option.some Jvm.ClassFile.FieldType.int) [((0 : Nat), (8 : Nat), (11 : Nat), (13 : Nat))]) :: x_T) B.pre w (List.mem_cons_of_mem _ h)
  have hown : s.vm.findClass "ChannelMachineLaw" = some m.cls := findClass_of_methodNamed B.named
  have hlocks := B.notSynchronized
  subst hsz
  have hD := hD0.self (sz := s.heap.size)
  have hAN := x_AN hD0 hN0
  generalize hAe : va_A [(ot, .inl (ar 2, 1, .inr (.inl (fun _ => 0)))), (h0, .inr (5, [.ref rd, .ref mc, .int (-1)])), (rd, .inr (3, [.ref tx, .ref co, .int 0, .int 0, .int 0, .int 0, .int 0, .int 0, .null]))] s.heap.size = A at hD hAN ⊢
  have hA : ∀ q : Nat, s.heap.size ≤ q → A q := fun q h => by rw [← hAe]; exact Or.inr h
  have hS : va_S A s.heap s.heap [] := va_S.rf
  have hP : va_P (dC, dI) x_cl [(ot, .inl (ar 2, 1, .inr (.inl (fun _ => 0)))), (h0, .inr (5, [.ref rd, .ref mc, .int (-1)])), (rd, .inr (3, [.ref tx, .ref co, .int 0, .int 0, .int 0, .int 0, .int 0, .int 0, .null]))] s.heap := hP
  have hl := lv_entry ([.ref h0, .ref ot]) (n := 3) (Nat.le_of_ble_eq_true rfl)
  rw [lg_entry_eq]
  generalize (lg_sl ([.ref h0, .ref ot]) ++ List.replicate (3 - (lg_sl ([.ref h0, .ref ot])).length) Slot.unset).toArray = ls at hl ⊢
  have hl : lv_has ls 3 [(0, .ref h0), (1, .ref ot)] := hl
  have hH0 : s.heap.size ≤ s.heap.size := Nat.le_refl _
  have htab := vx_table (x := ({ cls := "ChannelMachineLaw", name := "load", desc := "(LChannelMachine;[J)I" } : Jvm.MethodName)) B (hts _ k_321)
  refine lv_aload_n hx hb d_La_load_0 rfl (lv_at hl 1 rfl) ?_
  refine lv_iconst (v := 0) hx hb d_La_load_1 (by decide) ?_
  refine lv_aload_n hx hb d_La_load_2 rfl (lv_at hl 0 rfl) ?_
  have hPc := hP.sub (ws' := [(h0, .inr (5, [.ref rd, .ref mc, .int (-1)])), (rd, .inr (3, [.ref tx, .ref co, .int 0, .int 0, .int 0, .int 0, .int 0, .int 0, .null]))]) [1, 2] rfl
  have hDc := hD.sub (ws' := [(h0, .inr (5, [.ref rd, .ref mc, .int (-1)])), (rd, .inr (3, [.ref tx, .ref co, .int 0, .int 0, .int 0, .int 0, .int 0, .int 0, .null]))]) [1, 2] (by decide) rfl
  have hFc := va_free (wc := [(h0, .inr (5, [.ref rd, .ref mc, .int (-1)])), (rd, .inr (3, [.ref tx, .ref co, .int 0, .int 0, .int 0, .int 0, .int 0, .int 0, .null]))]) hD hS hA [1, 2] rfl
  refine vx_calli (vx_runV (As := []) (rest := [.int 0, .ref ot]) ⟨hx, hb, hml, hown, hts⟩ (c_CM_load l hst dC dI ar N0 z h0 rd mc va ch gi bo qu sl sk tx co s.heap.size) (cwV 0 hts (x_goodV k_322 k_323 k_324 k_1 k_325) rfl rfl rfl (by decide +kernel) ⟨Nat.le_of_ble_eq_true rfl, Nat.le_of_ble_eq_true rfl⟩) ⟨x_blind, va_recv hK hPc (ci := 5) (q0 := 0) rfl rfl, fun U hU9 hW => x_pre hU9 hW hPc hDc hU hZ hS hAN hN0⟩ rfl rfl hl.1 rfl (lv_room (Nat.le_of_ble_eq_true rfl)) d_La_load_3 ⟨Nat.le_of_ble_eq_true rfl, Nat.le_of_ble_eq_true rfl⟩) hS (fun q _ h => hFc q h) hFc (fun q h1 h2 => hFc q h2) (fun E ce q9 u t H1 locs ht hvm hpx hbx hz1 hk1 hS hce hcv hcl => ?_) (fun r1 u2 t H1 locs ht hvm hw hB hz1 hk1 hS => ?_)
  · have hP1 : va_P (dC, dI) x_cl [] H1 := fun k q h => by simp at h
    have hD1 : va_D (va_A [(h0, .inr (5, [.ref rd, .ref mc, .int (-1)])), (rd, .inr (3, [.ref tx, .ref co, .int 0, .int 0, .int 0, .int 0, .int 0, .int 0, .null]))] s.heap.size) [] := ⟨fun i j p q h => by simp at h, fun k q h => by simp at h⟩
    obtain ⟨hP, hD⟩ := va_join (wr := [(ot, .inl (ar 2, 1, .inr (.inl (fun _ => 0))))]) (w1 := []) hP hD [1, 2] [0] rfl rfl (by decide) (by decide) hk1 hFc hP1 hD1
    generalize H1 = H at hP hS hce ⊢
    have hP : va_P (dC, dI) x_cl [(ot, .inl (ar 2, 1, .inr (.inl (fun _ => 0))))] H := hP
    have hD : va_D A [(ot, .inl (ar 2, 1, .inr (.inl (fun _ => 0))))] := hD
    refine vx_widen (k := 1) (n := 6) (Nat.le_of_ble_eq_true rfl) (Nat.le_of_ble_eq_true rfl) ?_
    obtain rfl := hbx
    refine vx_catch hown [] ⟨0, 8, 11, 13⟩ [] htab (fun z h => by cases h) (by decide) (by decide) (hts _ k_221) (va_Nw.use rfl (hU.2.1 _ kn_232)) hce hcv hcl ?_
    refine lv_astore_n (lv' := [(2, .ref q9), (0, .ref h0), (1, .ref ot)]) hx hb d_La_load_11 rfl hl (by decide) rfl (fun ls hl => ?_)
    refine lv_iconst (v := 1) hx hb d_La_load_12 (by decide) ?_
    refine W.widen (k := 1) (n := 6) (Nat.le_of_ble_eq_true rfl) (Nat.le_of_ble_eq_true rfl) ?_
    exact W.iret (v := 1) hx hb hr (fun t ht hW => ⟨⟨1, (fun _ => 0), rfl, rfl, ⟨by rw [ht]; exact hP.sub (ws' := [(ot, .inl (ar 2, 1, .inr (.inl (fun _ => 0))))]) [0] rfl, hD.sub (ws' := [(ot, .inl (ar 2, 1, .inr (.inl (fun _ => 0))))]) [0] (by decide) rfl⟩⟩, hS.F ht⟩) hS.2.2 d_La_load_13
  · exact hw.elim
set_option maxHeartbeats 4000000 in
set_option maxRecDepth 100000 in
theorem c_Mo_look (l : Launch) (dC : Nat → ClassId) (dI : Nat → Nat → Nat) (ar : Nat → ClassId) (N0 : Nat) (z : Nat → Nat) (h0 : Nat) (fs : List Value) (sz : Nat) (g_pos : fs[6]? = some (.int 0)) (g_size : fs[4]? = some (.int 0)) : Met l ({ cls := "ChannelMachineModel", name := "look", desc := "()I" } : Jvm.MethodName) ((Jvm.Cond.code ({ cls := "ChannelMachineModel", name := "look", desc := "()I" } : Jvm.MethodName) prog_12_method_7_code (1 : Nat) (Option.some Jvm.ClassFile.FieldType.int)) :: x_T) ({ frames := 0, cells := 0, slots := 0, locals := 0 }) (x_Pc (dC, dI) ar N0 z [(h0, .inr (6, fs))] sz [.ref h0]) (va_Qi (fun (r : Int32) (u : Unit) => r = 0) (fun u t => va_P (dC, dI) x_cl [(h0, .inr (6, fs))] t.heap ∧ va_D (va_A [(h0, .inr (6, fs))] sz) [(h0, .inr (6, fs))]) (va_A [(h0, .inr (6, fs))] sz)) 0 0 (va_A [(h0, .inr (6, fs))] sz) := by
  refine Met.ofW (cc := prog_12_method_7_code) (maxL := 1) (ret := (some .int)) (by decide) rfl ?_
  intro p e s m args below meth c s₁ B hml hv
  obtain ⟨rfl, hsz, hN0, hP, hU, hZ, hD0⟩ := hv
  have hK := hU.1
  have hx := B.exec
  have hb := B.bytes
  have hr := B.returns
  have hts : ∀ w ∈ x_T, w.before ([.ref h0] : List Value).toArray s = true := fun w h => atoms_spec (ws := (Jvm.Cond.code ({ cls := "ChannelMachineModel", name := "look", desc := "()I" } : Jvm.MethodName) prog_12_method_7_code (1 : Nat) (Option.some Jvm.ClassFile.FieldType.int)) :: x_T) B.pre w (List.mem_cons_of_mem _ h)
  have hown : s.vm.findClass "ChannelMachineModel" = some m.cls := findClass_of_methodNamed B.named
  have hlocks := B.notSynchronized
  subst hsz
  have hD := hD0.self (sz := s.heap.size)
  have hAN := x_AN hD0 hN0
  generalize hAe : va_A [(h0, .inr (6, fs))] s.heap.size = A at hD hAN ⊢
  have hA : ∀ q : Nat, s.heap.size ≤ q → A q := fun q h => by rw [← hAe]; exact Or.inr h
  have hS : va_S A s.heap s.heap [] := va_S.rf
  have hP : va_P (dC, dI) x_cl [(h0, .inr (6, fs))] s.heap := hP
  have hl := lv_entry ([.ref h0]) (n := 1) (Nat.le_of_ble_eq_true rfl)
  rw [lg_entry_eq]
  generalize (lg_sl ([.ref h0]) ++ List.replicate (1 - (lg_sl ([.ref h0])).length) Slot.unset).toArray = ls at hl ⊢
  have hl : lv_has ls 1 [(0, .ref h0)] := hl
  have hH0 : s.heap.size ≤ s.heap.size := Nat.le_refl _
  refine lv_aload_n hx hb d_Mo_look_0 rfl (lv_at hl 0 rfl) ?_
  refine va_get (D := (dC, dI)) (ci := 6) (v := .int 0) (C := "ChannelMachineModel") (T := F_Mo) (N := 45) hx hb hts i_Mo hown hK hP 0 rfl rfl 6 (by decide) (hts _ k_973) (fun _ h9 => h9) g_pos d_Mo_look_1 ?_
  refine lv_aload_n hx hb d_Mo_look_4 rfl (lv_at hl 0 rfl) ?_
  refine va_get (D := (dC, dI)) (ci := 6) (v := .int 0) (C := "ChannelMachineModel") (T := F_Mo) (N := 45) hx hb hts i_Mo hown hK hP 0 rfl rfl 4 (by decide) (hts _ k_971) (fun _ h9 => h9) g_size d_Mo_look_5 ?_
  refine lv_icmp_ge (tgt := 23) hx hb d_Mo_look_8 (by decide) (fun _ => ?_) (fun c1 => absurd (by decide) c1)
  refine lv_iconst (v := 0) hx hb d_Mo_look_23 (by decide) ?_
  refine W.widen (k := 0) (n := 0) (Nat.le_of_ble_eq_true rfl) (Nat.le_of_ble_eq_true rfl) ?_
  exact W.iret (v := 0) hx hb hr (fun t ht hW => ⟨⟨0, (), rfl, rfl, ⟨by rw [ht]; exact hP, hD⟩⟩, hS.F ht⟩) hS.2.2 d_Mo_look_24
set_option maxHeartbeats 4000000 in
set_option maxRecDepth 100000 in
theorem c_Mo_channelOf (l : Launch) (dC : Nat → ClassId) (dI : Nat → Nat → Nat) (ar : Nat → ClassId) (N0 : Nat) (z : Nat → Nat)  (sz : Nat) : Met l ({ cls := "ChannelMachineModel", name := "channelOf", desc := "(I)I" } : Jvm.MethodName) ((Jvm.Cond.code ({ cls := "ChannelMachineModel", name := "channelOf", desc := "(I)I" } : Jvm.MethodName) prog_12_method_17_code (1 : Nat) (Option.some Jvm.ClassFile.FieldType.int)) :: x_T) ({ frames := 1, cells := 0, slots := 0, locals := 22 }) (x_Pc (dC, dI) ar N0 z [] sz [.int 0]) (va_Qi (fun (r : Int32) (u : Unit) => r = -1) (fun u t => va_P (dC, dI) x_cl [] t.heap ∧ va_D (va_A [] sz) []) (va_A [] sz)) 0 0 (va_A [] sz) := by
  refine Met.ofW (cc := prog_12_method_17_code) (maxL := 1) (ret := (some .int)) (by decide) rfl ?_
  intro p e s m args below meth c s₁ B hml hv
  obtain ⟨rfl, hsz, hN0, hP, hU, hZ, hD0⟩ := hv
  have hK := hU.1
  have hx := B.exec
  have hb := B.bytes
  have hr := B.returns
  have hts : ∀ w ∈ x_T, w.before ([.int 0] : List Value).toArray s = true := fun w h => atoms_spec (ws := (Jvm.Cond.code ({ cls := "ChannelMachineModel", name := "channelOf", desc := "(I)I" } : Jvm.MethodName) prog_12_method_17_code (1 : Nat) (Option.some Jvm.ClassFile.FieldType.int)) :: x_T) B.pre w (List.mem_cons_of_mem _ h)
  have hown : s.vm.findClass "ChannelMachineModel" = some m.cls := findClass_of_methodNamed B.named
  have hlocks := B.notSynchronized
  subst hsz
  have hD := hD0.self (sz := s.heap.size)
  have hAN := x_AN hD0 hN0
  generalize hAe : va_A [] s.heap.size = A at hD hAN ⊢
  have hA : ∀ q : Nat, s.heap.size ≤ q → A q := fun q h => by rw [← hAe]; exact Or.inr h
  have hS : va_S A s.heap s.heap [] := va_S.rf
  have hP : va_P (dC, dI) x_cl [] s.heap := hP
  have hl := lv_entry ([.int 0]) (n := 1) (Nat.le_of_ble_eq_true rfl)
  rw [lg_entry_eq]
  generalize (lg_sl ([.int 0]) ++ List.replicate (1 - (lg_sl ([.int 0])).length) Slot.unset).toArray = ls at hl ⊢
  have hl : lv_has ls 1 [(0, .int 0)] := hl
  have hH0 : s.heap.size ≤ s.heap.size := Nat.le_refl _
  refine lv_iload_n hx hb d_Mo_channelOf_0 rfl (lv_at hl 0 rfl) ?_
  refine lv_bipush (v := 73) hx hb d_Mo_channelOf_1 (by decide) ?_
  refine lv_icmp_ne (tgt := 10) hx hb d_Mo_channelOf_3 (by decide) (fun _ => ?_) (fun c1 => absurd c1 (by decide))
  refine lv_iload_n hx hb d_Mo_channelOf_10 rfl (lv_at hl 0 rfl) ?_
  refine lv_bipush (v := 79) hx hb d_Mo_channelOf_11 (by decide) ?_
  refine lv_icmp_ne (tgt := 20) hx hb d_Mo_channelOf_13 (by decide) (fun _ => ?_) (fun c2 => absurd c2 (by decide))
  refine lv_iload_n hx hb d_Mo_channelOf_20 rfl (lv_at hl 0 rfl) ?_
  refine lv_bipush (v := 65) hx hb d_Mo_channelOf_21 (by decide) ?_
  refine lv_bipush (v := 68) hx hb d_Mo_channelOf_23 (by decide) ?_
  have hPc := hP.sub (ws' := []) [] rfl
  have hDc := hD.sub (ws' := []) [] (by decide) rfl
  have hFc := va_free (wc := []) hD hS hA [] rfl
  refine va_calli (va_runS (As := [.int 0, .int 65, .int 68]) (rest := []) ⟨hx, hb, hml, hown, hts⟩ (c_Mo_in l dC dI ar N0 z 0 65 68 s.heap.size) (cwS 3 hts (x_goodS k_1113 k_1114 k_9 k_1115) rfl rfl rfl (by decide +kernel) ⟨Nat.le_of_ble_eq_true rfl, Nat.le_of_ble_eq_true rfl⟩) ⟨x_blind, fun U hU9 hW => x_pre hU9 hW hPc hDc hU hZ hS hAN hN0⟩ rfl rfl hl.1 rfl (lv_room (Nat.le_of_ble_eq_true rfl)) d_Mo_channelOf_25 ⟨Nat.le_of_ble_eq_true rfl, Nat.le_of_ble_eq_true rfl⟩) hS (fun q _ h => hFc q h) hFc (fun r3 u4 t H1 locs ht hvm hw hB hz1 hk1 hS => ?_)
  obtain ⟨hP1, hD1⟩ := hB
  rw [ht] at hP1
  obtain ⟨hP, hD⟩ := va_join (wr := []) (w1 := []) hP hD [] [] rfl rfl (by decide) (by decide) hk1 hFc hP1 hD1
  generalize H1 = H at hP hS ⊢
  have hP : va_P (dC, dI) x_cl [] H := hP
  have hD : va_D A [] := hD
  refine W.widen (k := 0) (n := 0) (Nat.le_of_ble_eq_true rfl) (Nat.le_of_ble_eq_true rfl) ?_
  rcases hw with ⟨i5, i5', rfl⟩ | ⟨i5, rfl⟩
  · exact absurd (by decide) i5
  · refine lv_if_eq (tgt := 38) hx hb d_Mo_channelOf_28 (by decide) (fun _ => ?_) (fun c6 => absurd (by decide) c6)
    refine lv_iconst (v := (-1)) hx hb d_Mo_channelOf_38 (by decide) ?_
    refine W.widen (k := 0) (n := 0) (Nat.le_of_ble_eq_true rfl) (Nat.le_of_ble_eq_true rfl) ?_
    exact W.iret (v := (-1)) hx hb hr (fun t ht hW => ⟨⟨(-1), (), rfl, rfl, ⟨by rw [ht]; exact hP, hD⟩⟩, hS.F ht⟩) hS.2.2 d_Mo_channelOf_39
set_option maxHeartbeats 4000000 in
set_option maxRecDepth 100000 in
theorem c_Mo_isVariable (l : Launch) (dC : Nat → ClassId) (dI : Nat → Nat → Nat) (ar : Nat → ClassId) (N0 : Nat) (z : Nat → Nat) (h0 : Nat) (fs : List Value) (sz : Nat) (g_pos : fs[6]? = some (.int 0)) (g_size : fs[4]? = some (.int 0)) : Met l ({ cls := "ChannelMachineModel", name := "isVariable", desc := "()Z" } : Jvm.MethodName) ((Jvm.Cond.code ({ cls := "ChannelMachineModel", name := "isVariable", desc := "()Z" } : Jvm.MethodName) prog_12_method_11_code (1 : Nat) (Option.some Jvm.ClassFile.FieldType.boolean)) :: x_T) ({ frames := 1, cells := 0, slots := 0, locals := 22 }) (x_Pc (dC, dI) ar N0 z [(h0, .inr (6, fs))] sz [.ref h0]) (va_Qi (fun (r : Int32) (u : Unit) => r = 0) (fun u t => va_P (dC, dI) x_cl [(h0, .inr (6, fs))] t.heap ∧ va_D (va_A [(h0, .inr (6, fs))] sz) [(h0, .inr (6, fs))]) (va_A [(h0, .inr (6, fs))] sz)) 0 0 (va_A [(h0, .inr (6, fs))] sz) := by
  refine Met.ofW (cc := prog_12_method_11_code) (maxL := 1) (ret := (some .boolean)) (by decide) rfl ?_
  intro p e s m args below meth c s₁ B hml hv
  obtain ⟨rfl, hsz, hN0, hP, hU, hZ, hD0⟩ := hv
  have hK := hU.1
  have hx := B.exec
  have hb := B.bytes
  have hr := B.returns
  have hts : ∀ w ∈ x_T, w.before ([.ref h0] : List Value).toArray s = true := fun w h => atoms_spec (ws := (Jvm.Cond.code ({ cls := "ChannelMachineModel", name := "isVariable", desc := "()Z" } : Jvm.MethodName) prog_12_method_11_code (1 : Nat) (Option.some Jvm.ClassFile.FieldType.boolean)) :: x_T) B.pre w (List.mem_cons_of_mem _ h)
  have hown : s.vm.findClass "ChannelMachineModel" = some m.cls := findClass_of_methodNamed B.named
  have hlocks := B.notSynchronized
  subst hsz
  have hD := hD0.self (sz := s.heap.size)
  have hAN := x_AN hD0 hN0
  generalize hAe : va_A [(h0, .inr (6, fs))] s.heap.size = A at hD hAN ⊢
  have hA : ∀ q : Nat, s.heap.size ≤ q → A q := fun q h => by rw [← hAe]; exact Or.inr h
  have hS : va_S A s.heap s.heap [] := va_S.rf
  have hP : va_P (dC, dI) x_cl [(h0, .inr (6, fs))] s.heap := hP
  have hl := lv_entry ([.ref h0]) (n := 1) (Nat.le_of_ble_eq_true rfl)
  rw [lg_entry_eq]
  generalize (lg_sl ([.ref h0]) ++ List.replicate (1 - (lg_sl ([.ref h0])).length) Slot.unset).toArray = ls at hl ⊢
  have hl : lv_has ls 1 [(0, .ref h0)] := hl
  have hH0 : s.heap.size ≤ s.heap.size := Nat.le_refl _
  refine lv_aload_n hx hb d_Mo_isVariable_0 rfl (lv_at hl 0 rfl) ?_
  have hPc := hP.sub (ws' := [(h0, .inr (6, fs))]) [0] rfl
  have hDc := hD.sub (ws' := [(h0, .inr (6, fs))]) [0] (by decide) rfl
  have hFc := va_free (wc := [(h0, .inr (6, fs))]) hD hS hA [0] rfl
  refine va_calli (va_runV (As := []) (rest := []) ⟨hx, hb, hml, hown, hts⟩ (c_Mo_look l dC dI ar N0 z h0 fs s.heap.size g_pos g_size) (cwV 0 hts (x_goodV k_1140 k_1142 kp_53 k_9 k_1143) rfl rfl rfl (by decide +kernel) ⟨Nat.le_of_ble_eq_true rfl, Nat.le_of_ble_eq_true rfl⟩) ⟨x_blind, va_recv hK hPc (ci := 6) (q0 := 0) rfl rfl, fun U hU9 hW => x_pre hU9 hW hPc hDc hU hZ hS hAN hN0⟩ rfl rfl hl.1 rfl (lv_room (Nat.le_of_ble_eq_true rfl)) d_Mo_isVariable_1 ⟨Nat.le_of_ble_eq_true rfl, Nat.le_of_ble_eq_true rfl⟩) hS (fun q _ h => hFc q h) hFc (fun r1 u2 t H1 locs ht hvm hw hB hz1 hk1 hS => ?_)
  obtain ⟨hP1, hD1⟩ := hB
  rw [ht] at hP1
  obtain ⟨hP, hD⟩ := va_join (wr := []) (w1 := [(h0, .inr (6, fs))]) hP hD [0] [] rfl rfl (by decide) (by decide) hk1 hFc hP1 hD1
  generalize H1 = H at hP hS ⊢
  have hP : va_P (dC, dI) x_cl [(h0, .inr (6, fs))] H := hP
  have hD : va_D A [(h0, .inr (6, fs))] := hD
  refine W.widen (k := 0) (n := 0) (Nat.le_of_ble_eq_true rfl) (Nat.le_of_ble_eq_true rfl) ?_
  obtain rfl := hw
  refine lv_bipush (v := 97) hx hb d_Mo_isVariable_4 (by decide) ?_
  refine lv_bipush (v := 102) hx hb d_Mo_isVariable_6 (by decide) ?_
  have hPc := hP.sub (ws' := []) [] rfl
  have hDc := hD.sub (ws' := []) [] (by decide) rfl
  have hFc := va_free (wc := []) hD hS hA [] rfl
  refine va_calli (va_runS (As := [.int 0, .int 97, .int 102]) (rest := []) ⟨hx, hb, hml, hown, hts⟩ (c_Mo_in l dC dI ar N0 z 0 97 102 H.size) (cwS 3 hts (x_goodS k_1113 k_1114 k_9 k_1115) rfl rfl rfl (by decide +kernel) ⟨Nat.le_of_ble_eq_true rfl, Nat.le_of_ble_eq_true rfl⟩) ⟨x_blind, fun U hU9 hW => x_pre hU9 hW hPc hDc hU hZ hS hAN hN0⟩ rfl rfl hl.1 rfl (lv_room (Nat.le_of_ble_eq_true rfl)) d_Mo_isVariable_8 ⟨Nat.le_of_ble_eq_true rfl, Nat.le_of_ble_eq_true rfl⟩) hS (fun q _ h => hFc q h) hFc (fun r3 u4 t H1 locs ht hvm hw hB hz1 hk1 hS => ?_)
  obtain ⟨hP1, hD1⟩ := hB
  rw [ht] at hP1
  obtain ⟨hP, hD⟩ := va_join (wr := [(h0, .inr (6, fs))]) (w1 := []) hP hD [] [0] rfl rfl (by decide) (by decide) hk1 hFc hP1 hD1
  generalize H1 = H at hP hS ⊢
  have hP : va_P (dC, dI) x_cl [(h0, .inr (6, fs))] H := hP
  have hD : va_D A [(h0, .inr (6, fs))] := hD
  refine W.widen (k := 0) (n := 0) (Nat.le_of_ble_eq_true rfl) (Nat.le_of_ble_eq_true rfl) ?_
  rcases hw with ⟨i5, i5', rfl⟩ | ⟨i5, rfl⟩
  · exact absurd (by decide) i5
  · refine W.widen (k := 0) (n := 0) (Nat.le_of_ble_eq_true rfl) (Nat.le_of_ble_eq_true rfl) ?_
    exact W.zret (v := 0) hx hb hr (rfl) (fun t ht hW => ⟨⟨0, (), rfl, rfl, ⟨by rw [ht]; exact hP, hD⟩⟩, hS.F ht⟩) hS.2.2 d_Mo_isVariable_11
set_option maxHeartbeats 4000000 in
set_option maxRecDepth 100000 in
theorem c_Mo_start (l : Launch) (dC : Nat → ClassId) (dI : Nat → Nat → Nat) (ar : Nat → ClassId) (N0 : Nat) (z : Nat → Nat) (h0 : Nat) (fs : List Value) (sz : Nat) (g_pos : fs[6]? = some (.int 0)) (g_size : fs[4]? = some (.int 0)) (g_at : fs[7]? = some (.int 0)) : Met l ({ cls := "ChannelMachineModel", name := "start", desc := "(I)I" } : Jvm.MethodName) ((Jvm.Cond.code ({ cls := "ChannelMachineModel", name := "start", desc := "(I)I" } : Jvm.MethodName) prog_12_method_18_code (6 : Nat) (Option.some Jvm.ClassFile.FieldType.int)) :: x_T) ({ frames := 2, cells := 0, slots := 0, locals := 42 }) (x_Pc (dC, dI) ar N0 z [(h0, .inr (6, fs))] sz [.ref h0, .int 1]) (va_Qi (fun (r : Int32) (u : Unit) => r = -1) (fun u t => va_P (dC, dI) x_cl [(h0, .inr (6, fs))] t.heap ∧ va_D (va_A [(h0, .inr (6, fs))] sz) [(h0, .inr (6, fs))]) (va_A [(h0, .inr (6, fs))] sz)) 0 0 (va_A [(h0, .inr (6, fs))] sz) := by
  refine Met.ofW (cc := prog_12_method_18_code) (maxL := 6) (ret := (some .int)) (by decide) rfl ?_
  intro p e s m args below meth c s₁ B hml hv
  obtain ⟨rfl, hsz, hN0, hP, hU, hZ, hD0⟩ := hv
  have hK := hU.1
  have hx := B.exec
  have hb := B.bytes
  have hr := B.returns
  have hts : ∀ w ∈ x_T, w.before ([.ref h0, .int 1] : List Value).toArray s = true := fun w h => atoms_spec (ws := (Jvm.Cond.code ({ cls := "ChannelMachineModel", name := "start", desc := "(I)I" } : Jvm.MethodName) prog_12_method_18_code (6 : Nat) (Option.some Jvm.ClassFile.FieldType.int)) :: x_T) B.pre w (List.mem_cons_of_mem _ h)
  have hown : s.vm.findClass "ChannelMachineModel" = some m.cls := findClass_of_methodNamed B.named
  have hlocks := B.notSynchronized
  subst hsz
  have hD := hD0.self (sz := s.heap.size)
  have hAN := x_AN hD0 hN0
  generalize hAe : va_A [(h0, .inr (6, fs))] s.heap.size = A at hD hAN ⊢
  have hA : ∀ q : Nat, s.heap.size ≤ q → A q := fun q h => by rw [← hAe]; exact Or.inr h
  have hS : va_S A s.heap s.heap [] := va_S.rf
  have hP : va_P (dC, dI) x_cl [(h0, .inr (6, fs))] s.heap := hP
  have hl := lv_entry ([.ref h0, .int 1]) (n := 6) (Nat.le_of_ble_eq_true rfl)
  rw [lg_entry_eq]
  generalize (lg_sl ([.ref h0, .int 1]) ++ List.replicate (6 - (lg_sl ([.ref h0, .int 1])).length) Slot.unset).toArray = ls at hl ⊢
  have hl : lv_has ls 6 [(0, .ref h0), (1, .int 1)] := hl
  have hH0 : s.heap.size ≤ s.heap.size := Nat.le_refl _
  refine lv_aload_n hx hb d_Mo_start_0 rfl (lv_at hl 0 rfl) ?_
  have hPc := hP.sub (ws' := [(h0, .inr (6, fs))]) [0] rfl
  have hDc := hD.sub (ws' := [(h0, .inr (6, fs))]) [0] (by decide) rfl
  have hFc := va_free (wc := [(h0, .inr (6, fs))]) hD hS hA [0] rfl
  refine va_calli (va_runV (As := []) (rest := []) ⟨hx, hb, hml, hown, hts⟩ (c_Mo_look l dC dI ar N0 z h0 fs s.heap.size g_pos g_size) (cwV 0 hts (x_goodV k_1140 k_1142 kp_53 k_9 k_1143) rfl rfl rfl (by decide +kernel) ⟨Nat.le_of_ble_eq_true rfl, Nat.le_of_ble_eq_true rfl⟩) ⟨x_blind, va_recv hK hPc (ci := 6) (q0 := 0) rfl rfl, fun U hU9 hW => x_pre hU9 hW hPc hDc hU hZ hS hAN hN0⟩ rfl rfl hl.1 rfl (lv_room (Nat.le_of_ble_eq_true rfl)) d_Mo_start_1 ⟨Nat.le_of_ble_eq_true rfl, Nat.le_of_ble_eq_true rfl⟩) hS (fun q _ h => hFc q h) hFc (fun r1 u2 t H1 locs ht hvm hw hB hz1 hk1 hS => ?_)
  obtain ⟨hP1, hD1⟩ := hB
  rw [ht] at hP1
  obtain ⟨hP, hD⟩ := va_join (wr := []) (w1 := [(h0, .inr (6, fs))]) hP hD [0] [] rfl rfl (by decide) (by decide) hk1 hFc hP1 hD1
  generalize H1 = H at hP hS ⊢
  have hP : va_P (dC, dI) x_cl [(h0, .inr (6, fs))] H := hP
  have hD : va_D A [(h0, .inr (6, fs))] := hD
  refine W.widen (k := 0) (n := 0) (Nat.le_of_ble_eq_true rfl) (Nat.le_of_ble_eq_true rfl) ?_
  obtain rfl := hw
  refine lv_istore_n (lv' := [(2, .int 0), (0, .ref h0), (1, .int 1)]) hx hb d_Mo_start_4 rfl hl (by decide) rfl (fun ls hl => ?_)
  refine lv_aload_n hx hb d_Mo_start_5 rfl (lv_at hl 1 rfl) ?_
  refine va_get (D := (dC, dI)) (ci := 6) (v := .int 0) (C := "ChannelMachineModel") (T := F_Mo) (N := 45) hx hb hts i_Mo hown hK hP 0 rfl rfl 7 (by decide) (hts _ k_974) (fun _ h9 => h9) g_at d_Mo_start_6 ?_
  refine lv_istore_n (lv' := [(3, .int 0), (2, .int 0), (0, .ref h0), (1, .int 1)]) hx hb d_Mo_start_9 rfl hl (by decide) rfl (fun ls hl => ?_)
  refine lv_iload_n hx hb d_Mo_start_10 rfl (lv_at hl 1 rfl) ?_
  have hPc := hP.sub (ws' := []) [] rfl
  have hDc := hD.sub (ws' := []) [] (by decide) rfl
  have hFc := va_free (wc := []) hD hS hA [] rfl
  refine va_calli (va_runS (As := [.int 0]) (rest := []) ⟨hx, hb, hml, hown, hts⟩ (c_Mo_channelOf l dC dI ar N0 z H.size) (cwS 1 hts (x_goodS k_1179 k_1180 k_9 k_1181) rfl rfl rfl (by decide +kernel) ⟨Nat.le_of_ble_eq_true rfl, Nat.le_of_ble_eq_true rfl⟩) ⟨x_blind, fun U hU9 hW => x_pre hU9 hW hPc hDc hU hZ hS hAN hN0⟩ rfl rfl hl.1 rfl (lv_room (Nat.le_of_ble_eq_true rfl)) d_Mo_start_11 ⟨Nat.le_of_ble_eq_true rfl, Nat.le_of_ble_eq_true rfl⟩) hS (fun q _ h => hFc q h) hFc (fun r3 u4 t H1 locs ht hvm hw hB hz1 hk1 hS => ?_)
  obtain ⟨hP1, hD1⟩ := hB
  rw [ht] at hP1
  obtain ⟨hP, hD⟩ := va_join (wr := [(h0, .inr (6, fs))]) (w1 := []) hP hD [] [0] rfl rfl (by decide) (by decide) hk1 hFc hP1 hD1
  generalize H1 = H at hP hS ⊢
  have hP : va_P (dC, dI) x_cl [(h0, .inr (6, fs))] H := hP
  have hD : va_D A [(h0, .inr (6, fs))] := hD
  refine W.widen (k := 0) (n := 0) (Nat.le_of_ble_eq_true rfl) (Nat.le_of_ble_eq_true rfl) ?_
  obtain rfl := hw
  refine lv_istore (lv' := [(4, .int (-1)), (3, .int 0), (2, .int 0), (0, .ref h0), (1, .int 1)]) hx hb d_Mo_start_14 hl (by decide) rfl (fun ls hl => ?_)
  refine lv_iload_n hx hb d_Mo_start_16 rfl (lv_at hl 4 rfl) ?_
  refine lv_bipush (v := 7) hx hb d_Mo_start_17 (by decide) ?_
  refine lv_icmp_gt (tgt := 40) hx hb d_Mo_start_19 (by decide) (fun c5 => absurd c5 (by decide)) (fun _ => ?_)
  refine lv_iload_n hx hb d_Mo_start_22 rfl (lv_at hl 4 rfl) ?_
  refine lv_bipush (v := 7) hx hb d_Mo_start_23 (by decide) ?_
  refine lv_icmp_ne (tgt := 42) hx hb d_Mo_start_25 (by decide) (fun _ => ?_) (fun c6 => absurd c6 (by decide))
  refine lv_aload_n hx hb d_Mo_start_42 rfl (lv_at hl 3 rfl) ?_
  have hPc := hP.sub (ws' := [(h0, .inr (6, fs))]) [0] rfl
  have hDc := hD.sub (ws' := [(h0, .inr (6, fs))]) [0] (by decide) rfl
  have hFc := va_free (wc := [(h0, .inr (6, fs))]) hD hS hA [0] rfl
  refine va_calli (va_runV (As := []) (rest := []) ⟨hx, hb, hml, hown, hts⟩ (c_Mo_isVariable l dC dI ar N0 z h0 fs H.size g_pos g_size) (cwV 0 hts (x_goodV k_1164 k_1166 kp_59 k_9 k_1167) rfl rfl rfl (by decide +kernel) ⟨Nat.le_of_ble_eq_true rfl, Nat.le_of_ble_eq_true rfl⟩) ⟨x_blind, va_recv hK hPc (ci := 6) (q0 := 0) rfl rfl, fun U hU9 hW => x_pre hU9 hW hPc hDc hU hZ hS hAN hN0⟩ rfl rfl hl.1 rfl (lv_room (Nat.le_of_ble_eq_true rfl)) d_Mo_start_43 ⟨Nat.le_of_ble_eq_true rfl, Nat.le_of_ble_eq_true rfl⟩) hS (fun q _ h => hFc q h) hFc (fun r7 u8 t H1 locs ht hvm hw hB hz1 hk1 hS => ?_)
  obtain ⟨hP1, hD1⟩ := hB
  rw [ht] at hP1
  obtain ⟨hP, hD⟩ := va_join (wr := []) (w1 := [(h0, .inr (6, fs))]) hP hD [0] [] rfl rfl (by decide) (by decide) hk1 hFc hP1 hD1
  generalize H1 = H at hP hS ⊢
  have hP : va_P (dC, dI) x_cl [(h0, .inr (6, fs))] H := hP
  have hD : va_D A [(h0, .inr (6, fs))] := hD
  refine W.widen (k := 0) (n := 0) (Nat.le_of_ble_eq_true rfl) (Nat.le_of_ble_eq_true rfl) ?_
  obtain rfl := hw
  refine lv_if_eq (tgt := 90) hx hb d_Mo_start_46 (by decide) (fun _ => ?_) (fun c9 => absurd (by decide) c9)
  refine lv_iload hx hb d_Mo_start_90 (lv_at hl 0 rfl) ?_
  refine lv_if_lt (tgt := 196) hx hb d_Mo_start_92 (by decide) (fun _ => ?_) (fun c10 => absurd (by decide) c10)
  refine lv_iload_n hx hb d_Mo_start_196 rfl (lv_at hl 2 rfl) ?_
  refine lv_if_eq (tgt := 248) hx hb d_Mo_start_197 (by decide) (fun _ => ?_) (fun c11 => absurd (by decide) c11)
  refine lv_iconst (v := (-1)) hx hb d_Mo_start_248 (by decide) ?_
  refine W.widen (k := 0) (n := 0) (Nat.le_of_ble_eq_true rfl) (Nat.le_of_ble_eq_true rfl) ?_
  exact W.iret (v := (-1)) hx hb hr (fun t ht hW => ⟨⟨(-1), (), rfl, rfl, ⟨by rw [ht]; exact hP, hD⟩⟩, hS.F ht⟩) hS.2.2 d_Mo_start_249
