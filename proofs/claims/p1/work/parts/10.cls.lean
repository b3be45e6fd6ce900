-- ===== 10.cls: calls of the class on a new object; small methods of the reference, by program =====
theorem k_9 : (Jvm.Cond.initialized "ChannelMachineModel") ∈ x_T := x_at 9 (by decide +kernel) (by decide +kernel)
theorem k_13 : (Jvm.Cond.initialized "java/lang/IllegalArgumentException") ∈ x_T := x_at 13 (by decide +kernel) (by decide +kernel)
theorem k_14 : (Jvm.Cond.initialized "java/lang/IllegalStateException") ∈ x_T := x_at 14 (by decide +kernel) (by decide +kernel)
theorem k_115 : (Jvm.Cond.fieldLink "java/util/ArrayList" (48 : Nat) "java/util/ArrayList" "size" "I") ∈ x_T := x_at 115 (by decide +kernel) (by decide +kernel)
theorem k_209 : (Jvm.Cond.methodLink "ChannelMachine" (150 : Nat) ({ cls := "java/util/List", name := "size", desc := "()I" } : Jvm.MethodName)) ∈ x_T := x_at 209 (by decide +kernel) (by decide +kernel)
theorem k_213 : (Jvm.Cond.selects "java/util/ArrayList" ({ cls := "java/util/List", name := "size", desc := "()I" } : Jvm.MethodName) ({ cls := "java/util/ArrayList", name := "size", desc := "()I" } : Jvm.MethodName)) ∈ x_T := x_at 213 (by decide +kernel) (by decide +kernel)
theorem k_215 : (Jvm.Cond.instanceMethod ({ cls := "java/util/ArrayList", name := "size", desc := "()I" } : Jvm.MethodName)) ∈ x_T := x_at 215 (by decide +kernel) (by decide +kernel)
theorem k_217 : (Jvm.Cond.code ({ cls := "java/util/ArrayList", name := "size", desc := "()I" } : Jvm.MethodName) prog_28_method_8_code (1 : Nat) (Option.some Jvm.ClassFile.FieldType.int)) ∈ x_T := x_at 217 (by decide +kernel) (by decide +kernel)
theorem k_230 : (Jvm.Cond.classLink "ChannelMachine" (31 : Nat) "java/lang/IllegalArgumentException") ∈ x_T := x_at 230 (by decide +kernel) (by decide +kernel)
theorem k_299 : (Jvm.Cond.classLink "ChannelMachine" (41 : Nat) "java/lang/IllegalStateException") ∈ x_T := x_at 299 (by decide +kernel) (by decide +kernel)
theorem k_976 : (Jvm.Cond.fieldLink "ChannelMachineModel" (208 : Nat) "ChannelMachineModel" "status" "I") ∈ x_T := x_at 976 (by decide +kernel) (by decide +kernel)
theorem k_1000 : (Jvm.Cond.fieldLink "ChannelMachineModel" (103 : Nat) "ChannelMachineModel" "thrown" "I") ∈ x_T := x_at 1000 (by decide +kernel) (by decide +kernel)
theorem k_1010 : (Jvm.Cond.fieldLink "ChannelMachineModel" (195 : Nat) "ChannelMachineModel" "boxed" "I") ∈ x_T := x_at 1010 (by decide +kernel) (by decide +kernel)
theorem k_1113 : (Jvm.Cond.methodLink "ChannelMachineModel" (106 : Nat) ({ cls := "ChannelMachineModel", name := "in", desc := "(III)Z" } : Jvm.MethodName)) ∈ x_T := x_at 1113 (by decide +kernel) (by decide +kernel)
theorem k_1114 : (Jvm.Cond.static ({ cls := "ChannelMachineModel", name := "in", desc := "(III)Z" } : Jvm.MethodName)) ∈ x_T := x_at 1114 (by decide +kernel) (by decide +kernel)
theorem k_1115 : (Jvm.Cond.code ({ cls := "ChannelMachineModel", name := "in", desc := "(III)Z" } : Jvm.MethodName) prog_12_method_3_code (3 : Nat) (Option.some Jvm.ClassFile.FieldType.boolean)) ∈ x_T := x_at 1115 (by decide +kernel) (by decide +kernel)
theorem k_1116 : (Jvm.Cond.methodLink "ChannelMachineModel" (110 : Nat) ({ cls := "ChannelMachineModel", name := "bad", desc := "(Z)Z" } : Jvm.MethodName)) ∈ x_T := x_at 1116 (by decide +kernel) (by decide +kernel)
theorem k_1118 : (Jvm.Cond.instanceMethod ({ cls := "ChannelMachineModel", name := "bad", desc := "(Z)Z" } : Jvm.MethodName)) ∈ x_T := x_at 1118 (by decide +kernel) (by decide +kernel)
theorem k_1119 : (Jvm.Cond.code ({ cls := "ChannelMachineModel", name := "bad", desc := "(Z)Z" } : Jvm.MethodName) prog_12_method_4_code (2 : Nat) (Option.some Jvm.ClassFile.FieldType.boolean)) ∈ x_T := x_at 1119 (by decide +kernel) (by decide +kernel)
theorem k_1120 : (Jvm.Cond.methodLink "ChannelMachineModel" (117 : Nat) ({ cls := "ChannelMachineModel", name := "fail", desc := "(I)I" } : Jvm.MethodName)) ∈ x_T := x_at 1120 (by decide +kernel) (by decide +kernel)
theorem k_1122 : (Jvm.Cond.instanceMethod ({ cls := "ChannelMachineModel", name := "fail", desc := "(I)I" } : Jvm.MethodName)) ∈ x_T := x_at 1122 (by decide +kernel) (by decide +kernel)
theorem k_1123 : (Jvm.Cond.code ({ cls := "ChannelMachineModel", name := "fail", desc := "(I)I" } : Jvm.MethodName) prog_12_method_5_code (2 : Nat) (Option.some Jvm.ClassFile.FieldType.int)) ∈ x_T := x_at 1123 (by decide +kernel) (by decide +kernel)
theorem kn_94 : (Jvm.Cond.fieldLinkNest "ChannelMachine" (107 : Nat) "ChannelMachine$Row" "size" "I" "ChannelMachine") ∈ x_nest := x_nest_at 94 (by decide +kernel) (by decide +kernel)
theorem kn_151 : (Jvm.Cond.fieldLinkNest "ChannelMachine" (124 : Nat) "ChannelMachine$Machine" "variables" "[I" "ChannelMachine") ∈ x_nest := x_nest_at 151 (by decide +kernel) (by decide +kernel)
theorem kn_155 : (Jvm.Cond.fieldLinkNest "ChannelMachine" (92 : Nat) "ChannelMachine$Machine" "gifts" "LChannelMachine$Row;" "ChannelMachine") ∈ x_nest := x_nest_at 155 (by decide +kernel) (by decide +kernel)
theorem kn_157 : (Jvm.Cond.fieldLinkNest "ChannelMachine" (110 : Nat) "ChannelMachine$Machine" "box" "LChannelMachine$Row;" "ChannelMachine") ∈ x_nest := x_nest_at 157 (by decide +kernel) (by decide +kernel)
theorem kn_159 : (Jvm.Cond.fieldLinkNest "ChannelMachine" (146 : Nat) "ChannelMachine$Machine" "queue" "Ljava/util/List;" "ChannelMachine") ∈ x_nest := x_nest_at 159 (by decide +kernel) (by decide +kernel)
theorem kn_161 : (Jvm.Cond.fieldLinkNest "ChannelMachine" (160 : Nat) "ChannelMachine$Machine" "sleepers" "Ljava/util/List;" "ChannelMachine") ∈ x_nest := x_nest_at 161 (by decide +kernel) (by decide +kernel)
theorem kn_164 : (Jvm.Cond.fieldLinkNest "ChannelMachine" (83 : Nat) "ChannelMachine$Machine" "state" "I" "ChannelMachine") ∈ x_nest := x_nest_at 164 (by decide +kernel) (by decide +kernel)
theorem kn_166 : (Jvm.Cond.fieldLinkNest "ChannelMachine" (154 : Nat) "ChannelMachine$Machine" "tasks" "I" "ChannelMachine") ∈ x_nest := x_nest_at 166 (by decide +kernel) (by decide +kernel)
theorem kn_168 : (Jvm.Cond.fieldLinkNest "ChannelMachine" (157 : Nat) "ChannelMachine$Machine" "acts" "I" "ChannelMachine") ∈ x_nest := x_nest_at 168 (by decide +kernel) (by decide +kernel)
theorem kn_170 : (Jvm.Cond.fieldLinkNest "ChannelMachine" (142 : Nat) "ChannelMachine$Machine" "time" "J" "ChannelMachine") ∈ x_nest := x_nest_at 170 (by decide +kernel) (by decide +kernel)
theorem kp_48 : (Jvm.Cond.selects "ChannelMachineModel" ({ cls := "ChannelMachineModel", name := "bad", desc := "(Z)Z" } : Jvm.MethodName) ({ cls := "ChannelMachineModel", name := "bad", desc := "(Z)Z" } : Jvm.MethodName)) ∈ x_T := x_sel (q := (({ cls := "ChannelMachineModel", name := "bad", desc := "(Z)Z" } : Jvm.MethodName), 45)) 48 (by decide +kernel) (by decide +kernel)
theorem kp_49 : (Jvm.Cond.selects "ChannelMachineModel" ({ cls := "ChannelMachineModel", name := "fail", desc := "(I)I" } : Jvm.MethodName) ({ cls := "ChannelMachineModel", name := "fail", desc := "(I)I" } : Jvm.MethodName)) ∈ x_T := x_sel (q := (({ cls := "ChannelMachineModel", name := "fail", desc := "(I)I" } : Jvm.MethodName), 45)) 49 (by decide +kernel) (by decide +kernel)
theorem x_tChannelMachine_35 : x_okT (vx_atS "ChannelMachine" 35 "java/lang/IllegalArgumentException" x_up2) = true := by decide +kernel
theorem x_tChannelMachine_45 : x_okT (vx_atS "ChannelMachine" 45 "java/lang/IllegalStateException" x_up2) = true := by decide +kernel
theorem d_CM_variable_0 : decode prog_1_method_8_code 0 = .ok (.iload_n 1, 1) := by decide +kernel
theorem d_CM_variable_1 : decode prog_1_method_8_code 1 = .ok (.ifCond .lt 9, 3) := by decide +kernel
theorem d_CM_variable_4 : decode prog_1_method_8_code 4 = .ok (.iload_n 1, 1) := by decide +kernel
theorem d_CM_variable_5 : decode prog_1_method_8_code 5 = .ok (.bipush 6, 2) := by decide +kernel
theorem d_CM_variable_7 : decode prog_1_method_8_code 7 = .ok (.if_icmp .lt 13, 3) := by decide +kernel
theorem d_CM_variable_10 : decode prog_1_method_8_code 10 = .ok (.new 31, 3) := by decide +kernel
theorem d_CM_variable_13 : decode prog_1_method_8_code 13 = .ok (.dup, 1) := by decide +kernel
theorem d_CM_variable_14 : decode prog_1_method_8_code 14 = .ok (.ldc 122, 2) := by decide +kernel
theorem d_CM_variable_16 : decode prog_1_method_8_code 16 = .ok (.invokespecial 35, 3) := by decide +kernel
theorem d_CM_variable_19 : decode prog_1_method_8_code 19 = .ok (.athrow, 1) := by decide +kernel
theorem d_CM_variable_20 : decode prog_1_method_8_code 20 = .ok (.aload_n 0, 1) := by decide +kernel
theorem d_CM_variable_21 : decode prog_1_method_8_code 21 = .ok (.getfield 19, 3) := by decide +kernel
theorem d_CM_variable_24 : decode prog_1_method_8_code 24 = .ok (.getfield 124, 3) := by decide +kernel
theorem d_CM_variable_27 : decode prog_1_method_8_code 27 = .ok (.iload_n 1, 1) := by decide +kernel
theorem d_CM_variable_28 : decode prog_1_method_8_code 28 = .ok (.iaload, 1) := by decide +kernel
theorem d_CM_variable_29 : decode prog_1_method_8_code 29 = .ok (.ireturn, 1) := by decide +kernel
theorem d_CM_set_0 : decode prog_1_method_9_code 0 = .ok (.iload_n 1, 1) := by decide +kernel
theorem d_CM_set_1 : decode prog_1_method_9_code 1 = .ok (.ifCond .lt 9, 3) := by decide +kernel
theorem d_CM_set_4 : decode prog_1_method_9_code 4 = .ok (.iload_n 1, 1) := by decide +kernel
theorem d_CM_set_5 : decode prog_1_method_9_code 5 = .ok (.bipush 6, 2) := by decide +kernel
theorem d_CM_set_7 : decode prog_1_method_9_code 7 = .ok (.if_icmp .lt 13, 3) := by decide +kernel
theorem d_CM_set_10 : decode prog_1_method_9_code 10 = .ok (.new 31, 3) := by decide +kernel
theorem d_CM_set_13 : decode prog_1_method_9_code 13 = .ok (.dup, 1) := by decide +kernel
theorem d_CM_set_14 : decode prog_1_method_9_code 14 = .ok (.ldc 122, 2) := by decide +kernel
theorem d_CM_set_16 : decode prog_1_method_9_code 16 = .ok (.invokespecial 35, 3) := by decide +kernel
theorem d_CM_set_19 : decode prog_1_method_9_code 19 = .ok (.athrow, 1) := by decide +kernel
theorem d_CM_set_20 : decode prog_1_method_9_code 20 = .ok (.aload_n 0, 1) := by decide +kernel
theorem d_CM_set_21 : decode prog_1_method_9_code 21 = .ok (.getfield 19, 3) := by decide +kernel
theorem d_CM_set_24 : decode prog_1_method_9_code 24 = .ok (.getfield 124, 3) := by decide +kernel
theorem d_CM_set_27 : decode prog_1_method_9_code 27 = .ok (.iload_n 1, 1) := by decide +kernel
theorem d_CM_set_28 : decode prog_1_method_9_code 28 = .ok (.iload_n 2, 1) := by decide +kernel
theorem d_CM_set_29 : decode prog_1_method_9_code 29 = .ok (.iastore, 1) := by decide +kernel
theorem d_CM_set_30 : decode prog_1_method_9_code 30 = .ok (.return_, 1) := by decide +kernel
theorem d_CM_give_0 : decode prog_1_method_6_code 0 = .ok (.aload_n 0, 1) := by decide +kernel
theorem d_CM_give_1 : decode prog_1_method_6_code 1 = .ok (.getfield 19, 3) := by decide +kernel
theorem d_CM_give_4 : decode prog_1_method_6_code 4 = .ok (.getfield 83, 3) := by decide +kernel
theorem d_CM_give_7 : decode prog_1_method_6_code 7 = .ok (.iconst 1, 1) := by decide +kernel
theorem d_CM_give_8 : decode prog_1_method_6_code 8 = .ok (.if_icmp .eq 13, 3) := by decide +kernel
theorem d_CM_give_11 : decode prog_1_method_6_code 11 = .ok (.new 41, 3) := by decide +kernel
theorem d_CM_give_14 : decode prog_1_method_6_code 14 = .ok (.dup, 1) := by decide +kernel
theorem d_CM_give_15 : decode prog_1_method_6_code 15 = .ok (.ldc 86, 2) := by decide +kernel
theorem d_CM_give_17 : decode prog_1_method_6_code 17 = .ok (.invokespecial 45, 3) := by decide +kernel
theorem d_CM_give_20 : decode prog_1_method_6_code 20 = .ok (.athrow, 1) := by decide +kernel
theorem d_CM_give_21 : decode prog_1_method_6_code 21 = .ok (.aload_n 0, 1) := by decide +kernel
theorem d_CM_give_22 : decode prog_1_method_6_code 22 = .ok (.getfield 19, 3) := by decide +kernel
theorem d_CM_give_25 : decode prog_1_method_6_code 25 = .ok (.getfield 92, 3) := by decide +kernel
theorem d_CM_give_28 : decode prog_1_method_6_code 28 = .ok (.invokevirtual 96, 3) := by decide +kernel
theorem d_CM_give_31 : decode prog_1_method_6_code 31 = .ok (.ifCond .eq 13, 3) := by decide +kernel
theorem d_CM_give_34 : decode prog_1_method_6_code 34 = .ok (.new 41, 3) := by decide +kernel
theorem d_CM_give_37 : decode prog_1_method_6_code 37 = .ok (.dup, 1) := by decide +kernel
theorem d_CM_give_38 : decode prog_1_method_6_code 38 = .ok (.ldc 101, 2) := by decide +kernel
theorem d_CM_give_40 : decode prog_1_method_6_code 40 = .ok (.invokespecial 45, 3) := by decide +kernel
theorem d_CM_give_43 : decode prog_1_method_6_code 43 = .ok (.athrow, 1) := by decide +kernel
theorem d_CM_give_44 : decode prog_1_method_6_code 44 = .ok (.aload_n 0, 1) := by decide +kernel
theorem d_CM_give_45 : decode prog_1_method_6_code 45 = .ok (.getfield 19, 3) := by decide +kernel
theorem d_CM_give_48 : decode prog_1_method_6_code 48 = .ok (.iload_n 1, 1) := by decide +kernel
theorem d_CM_give_49 : decode prog_1_method_6_code 49 = .ok (.invokevirtual 103, 3) := by decide +kernel
theorem d_CM_give_52 : decode prog_1_method_6_code 52 = .ok (.aload_n 0, 1) := by decide +kernel
theorem d_CM_give_53 : decode prog_1_method_6_code 53 = .ok (.getfield 19, 3) := by decide +kernel
theorem d_CM_give_56 : decode prog_1_method_6_code 56 = .ok (.getfield 92, 3) := by decide +kernel
theorem d_CM_give_59 : decode prog_1_method_6_code 59 = .ok (.getfield 107, 3) := by decide +kernel
theorem d_CM_give_62 : decode prog_1_method_6_code 62 = .ok (.ireturn, 1) := by decide +kernel
theorem d_CM_run_0 : decode prog_1_method_5_code 0 = .ok (.iload_n 1, 1) := by decide +kernel
theorem d_CM_run_1 : decode prog_1_method_5_code 1 = .ok (.iconst 1, 1) := by decide +kernel
theorem d_CM_run_2 : decode prog_1_method_5_code 2 = .ok (.if_icmp .lt 10, 3) := by decide +kernel
theorem d_CM_run_5 : decode prog_1_method_5_code 5 = .ok (.iload_n 1, 1) := by decide +kernel
theorem d_CM_run_6 : decode prog_1_method_5_code 6 = .ok (.sipush 200, 3) := by decide +kernel
theorem d_CM_run_9 : decode prog_1_method_5_code 9 = .ok (.if_icmp .le 13, 3) := by decide +kernel
theorem d_CM_run_12 : decode prog_1_method_5_code 12 = .ok (.new 31, 3) := by decide +kernel
theorem d_CM_run_15 : decode prog_1_method_5_code 15 = .ok (.dup, 1) := by decide +kernel
theorem d_CM_run_16 : decode prog_1_method_5_code 16 = .ok (.ldc 81, 2) := by decide +kernel
theorem d_CM_run_18 : decode prog_1_method_5_code 18 = .ok (.invokespecial 35, 3) := by decide +kernel
theorem d_CM_run_21 : decode prog_1_method_5_code 21 = .ok (.athrow, 1) := by decide +kernel
theorem d_CM_run_22 : decode prog_1_method_5_code 22 = .ok (.aload_n 0, 1) := by decide +kernel
theorem d_CM_run_23 : decode prog_1_method_5_code 23 = .ok (.getfield 19, 3) := by decide +kernel
theorem d_CM_run_26 : decode prog_1_method_5_code 26 = .ok (.getfield 83, 3) := by decide +kernel
theorem d_CM_run_29 : decode prog_1_method_5_code 29 = .ok (.iconst 1, 1) := by decide +kernel
theorem d_CM_run_30 : decode prog_1_method_5_code 30 = .ok (.if_icmp .eq 13, 3) := by decide +kernel
theorem d_CM_run_33 : decode prog_1_method_5_code 33 = .ok (.new 41, 3) := by decide +kernel
theorem d_CM_run_36 : decode prog_1_method_5_code 36 = .ok (.dup, 1) := by decide +kernel
theorem d_CM_run_37 : decode prog_1_method_5_code 37 = .ok (.ldc 86, 2) := by decide +kernel
theorem d_CM_run_39 : decode prog_1_method_5_code 39 = .ok (.invokespecial 45, 3) := by decide +kernel
theorem d_CM_run_42 : decode prog_1_method_5_code 42 = .ok (.athrow, 1) := by decide +kernel
theorem d_CM_run_43 : decode prog_1_method_5_code 43 = .ok (.aload_n 0, 1) := by decide +kernel
theorem d_CM_run_44 : decode prog_1_method_5_code 44 = .ok (.getfield 19, 3) := by decide +kernel
theorem d_CM_run_47 : decode prog_1_method_5_code 47 = .ok (.iload_n 1, 1) := by decide +kernel
theorem d_CM_run_48 : decode prog_1_method_5_code 48 = .ok (.invokevirtual 88, 3) := by decide +kernel
theorem d_CM_run_51 : decode prog_1_method_5_code 51 = .ok (.ireturn, 1) := by decide +kernel
theorem d_Mo_in_0 : decode prog_12_method_3_code 0 = .ok (.iload_n 0, 1) := by decide +kernel
theorem d_Mo_in_1 : decode prog_12_method_3_code 1 = .ok (.iload_n 1, 1) := by decide +kernel
theorem d_Mo_in_2 : decode prog_12_method_3_code 2 = .ok (.if_icmp .lt 12, 3) := by decide +kernel
theorem d_Mo_in_5 : decode prog_12_method_3_code 5 = .ok (.iload_n 0, 1) := by decide +kernel
theorem d_Mo_in_6 : decode prog_12_method_3_code 6 = .ok (.iload_n 2, 1) := by decide +kernel
theorem d_Mo_in_7 : decode prog_12_method_3_code 7 = .ok (.if_icmp .gt 7, 3) := by decide +kernel
theorem d_Mo_in_10 : decode prog_12_method_3_code 10 = .ok (.iconst 1, 1) := by decide +kernel
theorem d_Mo_in_11 : decode prog_12_method_3_code 11 = .ok (.goto 4, 3) := by decide +kernel
theorem d_Mo_in_14 : decode prog_12_method_3_code 14 = .ok (.iconst 0, 1) := by decide +kernel
theorem d_Mo_in_15 : decode prog_12_method_3_code 15 = .ok (.ireturn, 1) := by decide +kernel
theorem d_Mo_bad_0 : decode prog_12_method_4_code 0 = .ok (.aload_n 0, 1) := by decide +kernel
theorem d_Mo_bad_1 : decode prog_12_method_4_code 1 = .ok (.iload_n 1, 1) := by decide +kernel
theorem d_Mo_bad_2 : decode prog_12_method_4_code 2 = .ok (.ifCond .eq 7, 3) := by decide +kernel
theorem d_Mo_bad_5 : decode prog_12_method_4_code 5 = .ok (.iconst 0, 1) := by decide +kernel
theorem d_Mo_bad_6 : decode prog_12_method_4_code 6 = .ok (.goto 4, 3) := by decide +kernel
theorem d_Mo_bad_9 : decode prog_12_method_4_code 9 = .ok (.iconst 1, 1) := by decide +kernel
theorem d_Mo_bad_10 : decode prog_12_method_4_code 10 = .ok (.putfield 103, 3) := by decide +kernel
theorem d_Mo_bad_13 : decode prog_12_method_4_code 13 = .ok (.iload_n 1, 1) := by decide +kernel
theorem d_Mo_bad_14 : decode prog_12_method_4_code 14 = .ok (.ifCond .ne 7, 3) := by decide +kernel
theorem d_Mo_bad_17 : decode prog_12_method_4_code 17 = .ok (.iconst 1, 1) := by decide +kernel
theorem d_Mo_bad_18 : decode prog_12_method_4_code 18 = .ok (.goto 4, 3) := by decide +kernel
theorem d_Mo_bad_21 : decode prog_12_method_4_code 21 = .ok (.iconst 0, 1) := by decide +kernel
theorem d_Mo_bad_22 : decode prog_12_method_4_code 22 = .ok (.ireturn, 1) := by decide +kernel
theorem d_Mo_fail_0 : decode prog_12_method_5_code 0 = .ok (.aload_n 0, 1) := by decide +kernel
theorem d_Mo_fail_1 : decode prog_12_method_5_code 1 = .ok (.iload_n 1, 1) := by decide +kernel
theorem d_Mo_fail_2 : decode prog_12_method_5_code 2 = .ok (.putfield 103, 3) := by decide +kernel
theorem d_Mo_fail_5 : decode prog_12_method_5_code 5 = .ok (.iconst 0, 1) := by decide +kernel
theorem d_Mo_fail_6 : decode prog_12_method_5_code 6 = .ok (.ireturn, 1) := by decide +kernel
theorem d_Mo_variable_0 : decode prog_12_method_45_code 0 = .ok (.aload_n 0, 1) := by decide +kernel
theorem d_Mo_variable_1 : decode prog_12_method_45_code 1 = .ok (.iload_n 1, 1) := by decide +kernel
theorem d_Mo_variable_2 : decode prog_12_method_45_code 2 = .ok (.iconst 0, 1) := by decide +kernel
theorem d_Mo_variable_3 : decode prog_12_method_45_code 3 = .ok (.iconst 5, 1) := by decide +kernel
theorem d_Mo_variable_4 : decode prog_12_method_45_code 4 = .ok (.invokestatic 106, 3) := by decide +kernel
theorem d_Mo_variable_7 : decode prog_12_method_45_code 7 = .ok (.invokevirtual 110, 3) := by decide +kernel
theorem d_Mo_variable_10 : decode prog_12_method_45_code 10 = .ok (.ifCond .eq 5, 3) := by decide +kernel
theorem d_Mo_variable_13 : decode prog_12_method_45_code 13 = .ok (.iconst 0, 1) := by decide +kernel
theorem d_Mo_variable_14 : decode prog_12_method_45_code 14 = .ok (.ireturn, 1) := by decide +kernel
theorem d_Mo_variable_15 : decode prog_12_method_45_code 15 = .ok (.aload_n 0, 1) := by decide +kernel
theorem d_Mo_variable_16 : decode prog_12_method_45_code 16 = .ok (.getfield 19, 3) := by decide +kernel
theorem d_Mo_variable_19 : decode prog_12_method_45_code 19 = .ok (.iload_n 1, 1) := by decide +kernel
theorem d_Mo_variable_20 : decode prog_12_method_45_code 20 = .ok (.iaload, 1) := by decide +kernel
theorem d_Mo_variable_21 : decode prog_12_method_45_code 21 = .ok (.ireturn, 1) := by decide +kernel
theorem d_Mo_set_0 : decode prog_12_method_46_code 0 = .ok (.aload_n 0, 1) := by decide +kernel
theorem d_Mo_set_1 : decode prog_12_method_46_code 1 = .ok (.iload_n 1, 1) := by decide +kernel
theorem d_Mo_set_2 : decode prog_12_method_46_code 2 = .ok (.iconst 0, 1) := by decide +kernel
theorem d_Mo_set_3 : decode prog_12_method_46_code 3 = .ok (.iconst 5, 1) := by decide +kernel
theorem d_Mo_set_4 : decode prog_12_method_46_code 4 = .ok (.invokestatic 106, 3) := by decide +kernel
theorem d_Mo_set_7 : decode prog_12_method_46_code 7 = .ok (.invokevirtual 110, 3) := by decide +kernel
theorem d_Mo_set_10 : decode prog_12_method_46_code 10 = .ok (.ifCond .eq 4, 3) := by decide +kernel
theorem d_Mo_set_13 : decode prog_12_method_46_code 13 = .ok (.return_, 1) := by decide +kernel
theorem d_Mo_set_14 : decode prog_12_method_46_code 14 = .ok (.aload_n 0, 1) := by decide +kernel
theorem d_Mo_set_15 : decode prog_12_method_46_code 15 = .ok (.getfield 19, 3) := by decide +kernel
theorem d_Mo_set_18 : decode prog_12_method_46_code 18 = .ok (.iload_n 1, 1) := by decide +kernel
theorem d_Mo_set_19 : decode prog_12_method_46_code 19 = .ok (.iload_n 2, 1) := by decide +kernel
theorem d_Mo_set_20 : decode prog_12_method_46_code 20 = .ok (.iastore, 1) := by decide +kernel
theorem d_Mo_set_21 : decode prog_12_method_46_code 21 = .ok (.return_, 1) := by decide +kernel
theorem d_Mo_channel_0 : decode prog_12_method_47_code 0 = .ok (.aload_n 0, 1) := by decide +kernel
theorem d_Mo_channel_1 : decode prog_12_method_47_code 1 = .ok (.iload_n 1, 1) := by decide +kernel
theorem d_Mo_channel_2 : decode prog_12_method_47_code 2 = .ok (.iconst 0, 1) := by decide +kernel
theorem d_Mo_channel_3 : decode prog_12_method_47_code 3 = .ok (.iconst 5, 1) := by decide +kernel
theorem d_Mo_channel_4 : decode prog_12_method_47_code 4 = .ok (.invokestatic 106, 3) := by decide +kernel
theorem d_Mo_channel_7 : decode prog_12_method_47_code 7 = .ok (.invokevirtual 110, 3) := by decide +kernel
theorem d_Mo_channel_10 : decode prog_12_method_47_code 10 = .ok (.ifCond .ne 11, 3) := by decide +kernel
theorem d_Mo_channel_13 : decode prog_12_method_47_code 13 = .ok (.aload_n 0, 1) := by decide +kernel
theorem d_Mo_channel_14 : decode prog_12_method_47_code 14 = .ok (.getfield 208, 3) := by decide +kernel
theorem d_Mo_channel_17 : decode prog_12_method_47_code 17 = .ok (.iconst 1, 1) := by decide +kernel
theorem d_Mo_channel_18 : decode prog_12_method_47_code 18 = .ok (.if_icmp .eq 5, 3) := by decide +kernel
theorem d_Mo_channel_21 : decode prog_12_method_47_code 21 = .ok (.iconst 0, 1) := by decide +kernel
theorem d_Mo_channel_22 : decode prog_12_method_47_code 22 = .ok (.ireturn, 1) := by decide +kernel
theorem d_Mo_channel_23 : decode prog_12_method_47_code 23 = .ok (.aload_n 0, 1) := by decide +kernel
theorem d_Mo_channel_24 : decode prog_12_method_47_code 24 = .ok (.getfield 82, 3) := by decide +kernel
theorem d_Mo_channel_27 : decode prog_12_method_47_code 27 = .ok (.iload_n 1, 1) := by decide +kernel
theorem d_Mo_channel_28 : decode prog_12_method_47_code 28 = .ok (.iaload, 1) := by decide +kernel
theorem d_Mo_channel_29 : decode prog_12_method_47_code 29 = .ok (.ifCond .lt 7, 3) := by decide +kernel
theorem d_Mo_channel_32 : decode prog_12_method_47_code 32 = .ok (.iconst 1, 1) := by decide +kernel
theorem d_Mo_channel_33 : decode prog_12_method_47_code 33 = .ok (.goto 17, 3) := by decide +kernel
theorem d_Mo_channel_36 : decode prog_12_method_47_code 36 = .ok (.aload_n 0, 1) := by decide +kernel
theorem d_Mo_channel_37 : decode prog_12_method_47_code 37 = .ok (.getfield 91, 3) := by decide +kernel
theorem d_Mo_channel_40 : decode prog_12_method_47_code 40 = .ok (.iload_n 1, 1) := by decide +kernel
theorem d_Mo_channel_41 : decode prog_12_method_47_code 41 = .ok (.iaload, 1) := by decide +kernel
theorem d_Mo_channel_42 : decode prog_12_method_47_code 42 = .ok (.ifCond .lt 7, 3) := by decide +kernel
theorem d_Mo_channel_45 : decode prog_12_method_47_code 45 = .ok (.iconst 2, 1) := by decide +kernel
theorem d_Mo_channel_46 : decode prog_12_method_47_code 46 = .ok (.goto 4, 3) := by decide +kernel
theorem d_Mo_channel_49 : decode prog_12_method_47_code 49 = .ok (.iconst 0, 1) := by decide +kernel
theorem d_Mo_channel_50 : decode prog_12_method_47_code 50 = .ok (.ireturn, 1) := by decide +kernel
theorem d_Mo_take_0 : decode prog_12_method_44_code 0 = .ok (.aload_n 0, 1) := by decide +kernel
theorem d_Mo_take_1 : decode prog_12_method_44_code 1 = .ok (.iconst 0, 1) := by decide +kernel
theorem d_Mo_take_2 : decode prog_12_method_44_code 2 = .ok (.putfield 103, 3) := by decide +kernel
theorem d_Mo_take_5 : decode prog_12_method_44_code 5 = .ok (.aload_n 0, 1) := by decide +kernel
theorem d_Mo_take_6 : decode prog_12_method_44_code 6 = .ok (.getfield 195, 3) := by decide +kernel
theorem d_Mo_take_9 : decode prog_12_method_44_code 9 = .ok (.ifCond .ne 9, 3) := by decide +kernel
theorem d_Mo_take_12 : decode prog_12_method_44_code 12 = .ok (.aload_n 0, 1) := by decide +kernel
theorem d_Mo_take_13 : decode prog_12_method_44_code 13 = .ok (.iconst 1, 1) := by decide +kernel
theorem d_Mo_take_14 : decode prog_12_method_44_code 14 = .ok (.invokevirtual 117, 3) := by decide +kernel
theorem d_Mo_take_17 : decode prog_12_method_44_code 17 = .ok (.ireturn, 1) := by decide +kernel
theorem d_Mo_take_18 : decode prog_12_method_44_code 18 = .ok (.aload_n 0, 1) := by decide +kernel
theorem d_Mo_take_19 : decode prog_12_method_44_code 19 = .ok (.getfield 100, 3) := by decide +kernel
theorem d_Mo_take_22 : decode prog_12_method_44_code 22 = .ok (.aload_n 0, 1) := by decide +kernel
theorem d_Mo_take_23 : decode prog_12_method_44_code 23 = .ok (.getfield 195, 3) := by decide +kernel
theorem d_Mo_take_26 : decode prog_12_method_44_code 26 = .ok (.invokestatic 217, 3) := by decide +kernel
theorem d_Mo_take_29 : decode prog_12_method_44_code 29 = .ok (.istore_n 1, 1) := by decide +kernel
theorem d_Mo_take_30 : decode prog_12_method_44_code 30 = .ok (.aload_n 0, 1) := by decide +kernel
theorem d_Mo_take_31 : decode prog_12_method_44_code 31 = .ok (.dup, 1) := by decide +kernel
theorem d_Mo_take_32 : decode prog_12_method_44_code 32 = .ok (.getfield 195, 3) := by decide +kernel
theorem d_Mo_take_35 : decode prog_12_method_44_code 35 = .ok (.iconst 1, 1) := by decide +kernel
theorem d_Mo_take_36 : decode prog_12_method_44_code 36 = .ok (.isub, 1) := by decide +kernel
theorem d_Mo_take_37 : decode prog_12_method_44_code 37 = .ok (.putfield 195, 3) := by decide +kernel
theorem d_Mo_take_40 : decode prog_12_method_44_code 40 = .ok (.aload_n 0, 1) := by decide +kernel
theorem d_Mo_take_41 : decode prog_12_method_44_code 41 = .ok (.getfield 208, 3) := by decide +kernel
theorem d_Mo_take_44 : decode prog_12_method_44_code 44 = .ok (.iconst 1, 1) := by decide +kernel
theorem d_Mo_take_45 : decode prog_12_method_44_code 45 = .ok (.if_icmp .ne 12, 3) := by decide +kernel
theorem d_Mo_take_48 : decode prog_12_method_44_code 48 = .ok (.aload_n 0, 1) := by decide +kernel
theorem d_Mo_take_49 : decode prog_12_method_44_code 49 = .ok (.getfield 91, 3) := by decide +kernel
theorem d_Mo_take_52 : decode prog_12_method_44_code 52 = .ok (.iconst 5, 1) := by decide +kernel
theorem d_Mo_take_53 : decode prog_12_method_44_code 53 = .ok (.iaload, 1) := by decide +kernel
theorem d_Mo_take_54 : decode prog_12_method_44_code 54 = .ok (.ifCond .ge 5, 3) := by decide +kernel
theorem d_Mo_take_57 : decode prog_12_method_44_code 57 = .ok (.iload_n 1, 1) := by decide +kernel
theorem d_Mo_take_58 : decode prog_12_method_44_code 58 = .ok (.ireturn, 1) := by decide +kernel
theorem d_Mo_take_59 : decode prog_12_method_44_code 59 = .ok (.aload_n 0, 1) := by decide +kernel
theorem d_Mo_take_60 : decode prog_12_method_44_code 60 = .ok (.getfield 100, 3) := by decide +kernel
theorem d_Mo_take_63 : decode prog_12_method_44_code 63 = .ok (.aload_n 0, 1) := by decide +kernel
theorem d_Mo_take_64 : decode prog_12_method_44_code 64 = .ok (.getfield 195, 3) := by decide +kernel
theorem d_Mo_take_67 : decode prog_12_method_44_code 67 = .ok (.aload_n 0, 1) := by decide +kernel
theorem d_Mo_take_68 : decode prog_12_method_44_code 68 = .ok (.getfield 94, 3) := by decide +kernel
theorem d_Mo_take_71 : decode prog_12_method_44_code 71 = .ok (.iconst 5, 1) := by decide +kernel
theorem d_Mo_take_72 : decode prog_12_method_44_code 72 = .ok (.iaload, 1) := by decide +kernel
theorem d_Mo_take_73 : decode prog_12_method_44_code 73 = .ok (.iastore, 1) := by decide +kernel
theorem d_Mo_take_74 : decode prog_12_method_44_code 74 = .ok (.aload_n 0, 1) := by decide +kernel
theorem d_Mo_take_75 : decode prog_12_method_44_code 75 = .ok (.dup, 1) := by decide +kernel
theorem d_Mo_take_76 : decode prog_12_method_44_code 76 = .ok (.getfield 195, 3) := by decide +kernel
theorem d_Mo_take_79 : decode prog_12_method_44_code 79 = .ok (.iconst 1, 1) := by decide +kernel
theorem d_Mo_take_80 : decode prog_12_method_44_code 80 = .ok (.iadd, 1) := by decide +kernel
theorem d_Mo_take_81 : decode prog_12_method_44_code 81 = .ok (.putfield 195, 3) := by decide +kernel
theorem d_Mo_take_84 : decode prog_12_method_44_code 84 = .ok (.aload_n 0, 1) := by decide +kernel
theorem d_Mo_take_85 : decode prog_12_method_44_code 85 = .ok (.aload_n 0, 1) := by decide +kernel
theorem d_Mo_take_86 : decode prog_12_method_44_code 86 = .ok (.getfield 91, 3) := by decide +kernel
theorem d_Mo_take_89 : decode prog_12_method_44_code 89 = .ok (.iconst 5, 1) := by decide +kernel
theorem d_Mo_take_90 : decode prog_12_method_44_code 90 = .ok (.iaload, 1) := by decide +kernel
theorem d_Mo_take_91 : decode prog_12_method_44_code 91 = .ok (.invokevirtual 214, 3) := by decide +kernel
theorem d_Mo_take_94 : decode prog_12_method_44_code 94 = .ok (.aload_n 0, 1) := by decide +kernel
theorem d_Mo_take_95 : decode prog_12_method_44_code 95 = .ok (.getfield 91, 3) := by decide +kernel
theorem d_Mo_take_98 : decode prog_12_method_44_code 98 = .ok (.iconst 5, 1) := by decide +kernel
theorem d_Mo_take_99 : decode prog_12_method_44_code 99 = .ok (.iconst (-1), 1) := by decide +kernel
theorem d_Mo_take_100 : decode prog_12_method_44_code 100 = .ok (.iastore, 1) := by decide +kernel
theorem d_Mo_take_101 : decode prog_12_method_44_code 101 = .ok (.iload_n 1, 1) := by decide +kernel
theorem d_Mo_take_102 : decode prog_12_method_44_code 102 = .ok (.ireturn, 1) := by decide +kernel
theorem d_Mo_give_0 : decode prog_12_method_43_code 0 = .ok (.aload_n 0, 1) := by decide +kernel
theorem d_Mo_give_1 : decode prog_12_method_43_code 1 = .ok (.iconst 0, 1) := by decide +kernel
theorem d_Mo_give_2 : decode prog_12_method_43_code 2 = .ok (.putfield 103, 3) := by decide +kernel
theorem d_Mo_give_5 : decode prog_12_method_43_code 5 = .ok (.aload_n 0, 1) := by decide +kernel
theorem d_Mo_give_6 : decode prog_12_method_43_code 6 = .ok (.getfield 208, 3) := by decide +kernel
theorem d_Mo_give_9 : decode prog_12_method_43_code 9 = .ok (.iconst 1, 1) := by decide +kernel
theorem d_Mo_give_10 : decode prog_12_method_43_code 10 = .ok (.if_icmp .ne 12, 3) := by decide +kernel
theorem d_Mo_give_13 : decode prog_12_method_43_code 13 = .ok (.aload_n 0, 1) := by decide +kernel
theorem d_Mo_give_14 : decode prog_12_method_43_code 14 = .ok (.getfield 198, 3) := by decide +kernel
theorem d_Mo_give_17 : decode prog_12_method_43_code 17 = .ok (.bipush 8, 2) := by decide +kernel
theorem d_Mo_give_19 : decode prog_12_method_43_code 19 = .ok (.if_icmp .ne 9, 3) := by decide +kernel
theorem d_Mo_give_22 : decode prog_12_method_43_code 22 = .ok (.aload_n 0, 1) := by decide +kernel
theorem d_Mo_give_23 : decode prog_12_method_43_code 23 = .ok (.iconst 1, 1) := by decide +kernel
theorem d_Mo_give_24 : decode prog_12_method_43_code 24 = .ok (.invokevirtual 117, 3) := by decide +kernel
theorem d_Mo_give_27 : decode prog_12_method_43_code 27 = .ok (.ireturn, 1) := by decide +kernel
theorem d_Mo_give_28 : decode prog_12_method_43_code 28 = .ok (.aload_n 0, 1) := by decide +kernel
theorem d_Mo_give_29 : decode prog_12_method_43_code 29 = .ok (.getfield 82, 3) := by decide +kernel
theorem d_Mo_give_32 : decode prog_12_method_43_code 32 = .ok (.iconst 4, 1) := by decide +kernel
theorem d_Mo_give_33 : decode prog_12_method_43_code 33 = .ok (.iaload, 1) := by decide +kernel
theorem d_Mo_give_34 : decode prog_12_method_43_code 34 = .ok (.ifCond .lt 12, 3) := by decide +kernel
theorem d_Mo_give_37 : decode prog_12_method_43_code 37 = .ok (.aload_n 0, 1) := by decide +kernel
theorem d_Mo_give_38 : decode prog_12_method_43_code 38 = .ok (.iconst 4, 1) := by decide +kernel
theorem d_Mo_give_39 : decode prog_12_method_43_code 39 = .ok (.iload_n 1, 1) := by decide +kernel
theorem d_Mo_give_40 : decode prog_12_method_43_code 40 = .ok (.invokevirtual 236, 3) := by decide +kernel
theorem d_Mo_give_43 : decode prog_12_method_43_code 43 = .ok (.goto 23, 3) := by decide +kernel
theorem d_Mo_give_46 : decode prog_12_method_43_code 46 = .ok (.aload_n 0, 1) := by decide +kernel
theorem d_Mo_give_47 : decode prog_12_method_43_code 47 = .ok (.getfield 97, 3) := by decide +kernel
theorem d_Mo_give_50 : decode prog_12_method_43_code 50 = .ok (.aload_n 0, 1) := by decide +kernel
theorem d_Mo_give_51 : decode prog_12_method_43_code 51 = .ok (.getfield 198, 3) := by decide +kernel
theorem d_Mo_give_54 : decode prog_12_method_43_code 54 = .ok (.iload_n 1, 1) := by decide +kernel
theorem d_Mo_give_55 : decode prog_12_method_43_code 55 = .ok (.iastore, 1) := by decide +kernel
theorem d_Mo_give_56 : decode prog_12_method_43_code 56 = .ok (.aload_n 0, 1) := by decide +kernel
theorem d_Mo_give_57 : decode prog_12_method_43_code 57 = .ok (.dup, 1) := by decide +kernel
theorem d_Mo_give_58 : decode prog_12_method_43_code 58 = .ok (.getfield 198, 3) := by decide +kernel
theorem d_Mo_give_61 : decode prog_12_method_43_code 61 = .ok (.iconst 1, 1) := by decide +kernel
theorem d_Mo_give_62 : decode prog_12_method_43_code 62 = .ok (.iadd, 1) := by decide +kernel
theorem d_Mo_give_63 : decode prog_12_method_43_code 63 = .ok (.putfield 198, 3) := by decide +kernel
theorem d_Mo_give_66 : decode prog_12_method_43_code 66 = .ok (.aload_n 0, 1) := by decide +kernel
theorem d_Mo_give_67 : decode prog_12_method_43_code 67 = .ok (.getfield 198, 3) := by decide +kernel
theorem d_Mo_give_70 : decode prog_12_method_43_code 70 = .ok (.ireturn, 1) := by decide +kernel
theorem d_Mo_run_0 : decode prog_12_method_42_code 0 = .ok (.aload_n 0, 1) := by decide +kernel
theorem d_Mo_run_1 : decode prog_12_method_42_code 1 = .ok (.iload_n 1, 1) := by decide +kernel
theorem d_Mo_run_2 : decode prog_12_method_42_code 2 = .ok (.iconst 1, 1) := by decide +kernel
theorem d_Mo_run_3 : decode prog_12_method_42_code 3 = .ok (.sipush 200, 3) := by decide +kernel
theorem d_Mo_run_6 : decode prog_12_method_42_code 6 = .ok (.invokestatic 106, 3) := by decide +kernel
theorem d_Mo_run_9 : decode prog_12_method_42_code 9 = .ok (.invokevirtual 110, 3) := by decide +kernel
theorem d_Mo_run_12 : decode prog_12_method_42_code 12 = .ok (.ifCond .eq 5, 3) := by decide +kernel
theorem d_Mo_run_15 : decode prog_12_method_42_code 15 = .ok (.iconst 0, 1) := by decide +kernel
theorem d_Mo_run_16 : decode prog_12_method_42_code 16 = .ok (.ireturn, 1) := by decide +kernel
theorem d_Mo_run_17 : decode prog_12_method_42_code 17 = .ok (.aload_n 0, 1) := by decide +kernel
theorem d_Mo_run_18 : decode prog_12_method_42_code 18 = .ok (.getfield 208, 3) := by decide +kernel
theorem d_Mo_run_21 : decode prog_12_method_42_code 21 = .ok (.iconst 1, 1) := by decide +kernel
theorem d_Mo_run_22 : decode prog_12_method_42_code 22 = .ok (.if_icmp .eq 9, 3) := by decide +kernel
theorem d_Mo_run_25 : decode prog_12_method_42_code 25 = .ok (.aload_n 0, 1) := by decide +kernel
theorem d_Mo_run_26 : decode prog_12_method_42_code 26 = .ok (.iconst 2, 1) := by decide +kernel
theorem d_Mo_run_27 : decode prog_12_method_42_code 27 = .ok (.invokevirtual 117, 3) := by decide +kernel
theorem d_Mo_run_30 : decode prog_12_method_42_code 30 = .ok (.ireturn, 1) := by decide +kernel
theorem d_Mo_run_31 : decode prog_12_method_42_code 31 = .ok (.aload_n 0, 1) := by decide +kernel
theorem d_Mo_run_32 : decode prog_12_method_42_code 32 = .ok (.getfield 192, 3) := by decide +kernel
theorem d_Mo_run_35 : decode prog_12_method_42_code 35 = .ok (.istore_n 2, 1) := by decide +kernel
theorem d_Mo_run_36 : decode prog_12_method_42_code 36 = .ok (.aload_n 0, 1) := by decide +kernel
theorem d_Mo_run_37 : decode prog_12_method_42_code 37 = .ok (.iload_n 1, 1) := by decide +kernel
theorem d_Mo_run_38 : decode prog_12_method_42_code 38 = .ok (.iload_n 2, 1) := by decide +kernel
theorem d_Mo_run_39 : decode prog_12_method_42_code 39 = .ok (.invokevirtual 268, 3) := by decide +kernel
theorem d_Mo_run_42 : decode prog_12_method_42_code 42 = .ok (.istore_n 3, 1) := by decide +kernel
theorem d_Mo_run_43 : decode prog_12_method_42_code 43 = .ok (.iload_n 3, 1) := by decide +kernel
theorem d_Mo_run_44 : decode prog_12_method_42_code 44 = .ok (.ifCond .lt 5, 3) := by decide +kernel
theorem d_Mo_run_47 : decode prog_12_method_42_code 47 = .ok (.iload_n 3, 1) := by decide +kernel
theorem d_Mo_run_48 : decode prog_12_method_42_code 48 = .ok (.ireturn, 1) := by decide +kernel
theorem d_Mo_run_49 : decode prog_12_method_42_code 49 = .ok (.aload_n 0, 1) := by decide +kernel
theorem d_Mo_run_50 : decode prog_12_method_42_code 50 = .ok (.getfield 103, 3) := by decide +kernel
theorem d_Mo_run_53 : decode prog_12_method_42_code 53 = .ok (.ifCond .ne 14, 3) := by decide +kernel
theorem d_Mo_run_56 : decode prog_12_method_42_code 56 = .ok (.aload_n 0, 1) := by decide +kernel
theorem d_Mo_run_57 : decode prog_12_method_42_code 57 = .ok (.getfield 79, 3) := by decide +kernel
theorem d_Mo_run_60 : decode prog_12_method_42_code 60 = .ok (.ifCond .lt 7, 3) := by decide +kernel
theorem d_Mo_run_63 : decode prog_12_method_42_code 63 = .ok (.aload_n 0, 1) := by decide +kernel
theorem d_Mo_run_64 : decode prog_12_method_42_code 64 = .ok (.invokevirtual 272, 3) := by decide +kernel
theorem d_Mo_run_67 : decode prog_12_method_42_code 67 = .ok (.aload_n 0, 1) := by decide +kernel
theorem d_Mo_run_68 : decode prog_12_method_42_code 68 = .ok (.getfield 103, 3) := by decide +kernel
theorem d_Mo_run_71 : decode prog_12_method_42_code 71 = .ok (.ifCond .ne 6, 3) := by decide +kernel
theorem d_Mo_run_74 : decode prog_12_method_42_code 74 = .ok (.goto (-38), 3) := by decide +kernel
theorem d_Mo_run_77 : decode prog_12_method_42_code 77 = .ok (.aload_n 0, 1) := by decide +kernel
theorem d_Mo_run_78 : decode prog_12_method_42_code 78 = .ok (.iconst 3, 1) := by decide +kernel
theorem d_Mo_run_79 : decode prog_12_method_42_code 79 = .ok (.putfield 208, 3) := by decide +kernel
theorem d_Mo_run_82 : decode prog_12_method_42_code 82 = .ok (.iconst 0, 1) := by decide +kernel
theorem d_Mo_run_83 : decode prog_12_method_42_code 83 = .ok (.ireturn, 1) := by decide +kernel
theorem d_Mo_thrown_0 : decode prog_12_method_2_code 0 = .ok (.aload_n 0, 1) := by decide +kernel
theorem d_Mo_thrown_1 : decode prog_12_method_2_code 1 = .ok (.getfield 103, 3) := by decide +kernel
theorem d_Mo_thrown_4 : decode prog_12_method_2_code 4 = .ok (.ireturn, 1) := by decide +kernel
theorem d_ArrayList_size_0 : decode prog_28_method_8_code 0 = .ok (.aload_n 0, 1) := by decide +kernel
theorem d_ArrayList_size_1 : decode prog_28_method_8_code 1 = .ok (.getfield 48, 3) := by decide +kernel
theorem d_ArrayList_size_4 : decode prog_28_method_8_code 4 = .ok (.ireturn, 1) := by decide +kernel
theorem d_CM_count_0 : decode prog_1_method_11_code 0 = .ok (.iload_n 1, 1) := by decide +kernel
theorem d_CM_count_1 : decode prog_1_method_11_code 1 = .ok (.tableswitch 137 0 8 #[51, 56, 65, 78, 86, 94, 105, 116, 124], 51) := by decide +kernel
theorem d_CM_count_52 : decode prog_1_method_11_code 52 = .ok (.aload_n 0, 1) := by decide +kernel
theorem d_CM_count_53 : decode prog_1_method_11_code 53 = .ok (.getfield 23, 3) := by decide +kernel
theorem d_CM_count_56 : decode prog_1_method_11_code 56 = .ok (.ireturn, 1) := by decide +kernel
theorem d_CM_count_57 : decode prog_1_method_11_code 57 = .ok (.aload_n 0, 1) := by decide +kernel
theorem d_CM_count_58 : decode prog_1_method_11_code 58 = .ok (.getfield 19, 3) := by decide +kernel
theorem d_CM_count_61 : decode prog_1_method_11_code 61 = .ok (.getfield 142, 3) := by decide +kernel
theorem d_CM_count_64 : decode prog_1_method_11_code 64 = .ok (.l2i, 1) := by decide +kernel
theorem d_CM_count_65 : decode prog_1_method_11_code 65 = .ok (.ireturn, 1) := by decide +kernel
theorem d_CM_count_66 : decode prog_1_method_11_code 66 = .ok (.aload_n 0, 1) := by decide +kernel
theorem d_CM_count_67 : decode prog_1_method_11_code 67 = .ok (.getfield 19, 3) := by decide +kernel
theorem d_CM_count_70 : decode prog_1_method_11_code 70 = .ok (.getfield 146, 3) := by decide +kernel
theorem d_CM_count_73 : decode prog_1_method_11_code 73 = .ok (.invokeinterface 150 1, 5) := by decide +kernel
theorem d_CM_count_78 : decode prog_1_method_11_code 78 = .ok (.ireturn, 1) := by decide +kernel
theorem d_CM_count_79 : decode prog_1_method_11_code 79 = .ok (.aload_n 0, 1) := by decide +kernel
theorem d_CM_count_80 : decode prog_1_method_11_code 80 = .ok (.getfield 19, 3) := by decide +kernel
theorem d_CM_count_83 : decode prog_1_method_11_code 83 = .ok (.getfield 154, 3) := by decide +kernel
theorem d_CM_count_86 : decode prog_1_method_11_code 86 = .ok (.ireturn, 1) := by decide +kernel
theorem d_CM_count_87 : decode prog_1_method_11_code 87 = .ok (.aload_n 0, 1) := by decide +kernel
theorem d_CM_count_88 : decode prog_1_method_11_code 88 = .ok (.getfield 19, 3) := by decide +kernel
theorem d_CM_count_91 : decode prog_1_method_11_code 91 = .ok (.getfield 157, 3) := by decide +kernel
theorem d_CM_count_94 : decode prog_1_method_11_code 94 = .ok (.ireturn, 1) := by decide +kernel
theorem d_CM_count_95 : decode prog_1_method_11_code 95 = .ok (.aload_n 0, 1) := by decide +kernel
theorem d_CM_count_96 : decode prog_1_method_11_code 96 = .ok (.getfield 19, 3) := by decide +kernel
theorem d_CM_count_99 : decode prog_1_method_11_code 99 = .ok (.getfield 92, 3) := by decide +kernel
theorem d_CM_count_102 : decode prog_1_method_11_code 102 = .ok (.getfield 107, 3) := by decide +kernel
theorem d_CM_count_105 : decode prog_1_method_11_code 105 = .ok (.ireturn, 1) := by decide +kernel
theorem d_CM_count_106 : decode prog_1_method_11_code 106 = .ok (.aload_n 0, 1) := by decide +kernel
theorem d_CM_count_107 : decode prog_1_method_11_code 107 = .ok (.getfield 19, 3) := by decide +kernel
theorem d_CM_count_110 : decode prog_1_method_11_code 110 = .ok (.getfield 110, 3) := by decide +kernel
theorem d_CM_count_113 : decode prog_1_method_11_code 113 = .ok (.getfield 107, 3) := by decide +kernel
theorem d_CM_count_116 : decode prog_1_method_11_code 116 = .ok (.ireturn, 1) := by decide +kernel
theorem d_CM_count_117 : decode prog_1_method_11_code 117 = .ok (.aload_n 0, 1) := by decide +kernel
theorem d_CM_count_118 : decode prog_1_method_11_code 118 = .ok (.getfield 19, 3) := by decide +kernel
theorem d_CM_count_121 : decode prog_1_method_11_code 121 = .ok (.getfield 83, 3) := by decide +kernel
theorem d_CM_count_124 : decode prog_1_method_11_code 124 = .ok (.ireturn, 1) := by decide +kernel
theorem d_CM_count_125 : decode prog_1_method_11_code 125 = .ok (.aload_n 0, 1) := by decide +kernel
theorem d_CM_count_126 : decode prog_1_method_11_code 126 = .ok (.getfield 19, 3) := by decide +kernel
theorem d_CM_count_129 : decode prog_1_method_11_code 129 = .ok (.getfield 160, 3) := by decide +kernel
theorem d_CM_count_132 : decode prog_1_method_11_code 132 = .ok (.invokeinterface 150 1, 5) := by decide +kernel
theorem d_CM_count_137 : decode prog_1_method_11_code 137 = .ok (.ireturn, 1) := by decide +kernel
theorem d_CM_count_138 : decode prog_1_method_11_code 138 = .ok (.iconst (-1), 1) := by decide +kernel
theorem d_CM_count_139 : decode prog_1_method_11_code 139 = .ok (.ireturn, 1) := by decide +kernel
set_option maxHeartbeats 4000000 in
set_option maxRecDepth 100000 in
theorem c_CM_variable (l : Launch) (hst : l.stackTraces = false) (dC : Nat → ClassId) (dI : Nat → Nat → Nat) (ar : Nat → ClassId) (N0 : Nat) (z : Nat → Nat) (h0 rd mc va ch gi bo qu sl sk : Nat) (v : Int32) (sz : Nat) : vx_Met l ({ cls := "ChannelMachine", name := "variable", desc := "(I)I" } : Jvm.MethodName) ((Jvm.Cond.code ({ cls := "ChannelMachine", name := "variable", desc := "(I)I" } : Jvm.MethodName) prog_1_method_8_code (2 : Nat) (Option.some Jvm.ClassFile.FieldType.int)) :: x_T) ({ frames := 6, cells := 1, slots := 6, locals := 82 }) (x_Pc (dC, dI) ar N0 z [(h0, .inr (5, [.ref rd, .ref mc, .int (-1)])), (mc, .inr (2, [.ref va, .ref ch, .ref gi, .ref bo, .ref qu, .ref sl, .ref sk, .int 0, .int 0, .int 0, .long 0])), (va, .inl (ar 0, 6, .inl (fun _ => 0)))] sz [.ref h0, .int v]) (va_Qi (fun (r : Int32) (u : Unit) => (¬ v < 0 ∧ v < 6) ∧ r = 0) (fun u t => True) (va_A [(h0, .inr (5, [.ref rd, .ref mc, .int (-1)])), (mc, .inr (2, [.ref va, .ref ch, .ref gi, .ref bo, .ref qu, .ref sl, .ref sk, .int 0, .int 0, .int 0, .long 0])), (va, .inl (ar 0, 6, .inl (fun _ => 0)))] sz)) (vx_X (fun (_ : Unit) => v < 0 ∨ ¬ v < 6) (fun E _ t => E = "java/lang/IllegalArgumentException") (va_A [(h0, .inr (5, [.ref rd, .ref mc, .int (-1)])), (mc, .inr (2, [.ref va, .ref ch, .ref gi, .ref bo, .ref qu, .ref sl, .ref sk, .int 0, .int 0, .int 0, .long 0])), (va, .inl (ar 0, 6, .inl (fun _ => 0)))] sz)) 1 6 (va_A [(h0, .inr (5, [.ref rd, .ref mc, .int (-1)])), (mc, .inr (2, [.ref va, .ref ch, .ref gi, .ref bo, .ref qu, .ref sl, .ref sk, .int 0, .int 0, .int 0, .long 0])), (va, .inl (ar 0, 6, .inl (fun _ => 0)))] sz) := by
  refine vx_ofW (cc := prog_1_method_8_code) (maxL := 2) (ret := (some .int)) (by decide) rfl ?_
  intro p e s m args below meth c s₁ B hml htb hv
  obtain ⟨rfl, hsz, hN0, hP, hU, hZ, hD0⟩ := hv
  have hK := hU.1
  have hx := B.exec
  have hb := B.bytes
  have hr := B.returns
  have hts : ∀ w ∈ x_T, w.before ([.ref h0, .int v] : List Value).toArray s = true := fun w h => atoms_spec (ws := (Jvm.Cond.code ({ cls := "ChannelMachine", name := "variable", desc := "(I)I" } : Jvm.MethodName) prog_1_method_8_code (2 : Nat) (Option.some Jvm.ClassFile.FieldType.int)) :: x_T) B.pre w (List.mem_cons_of_mem _ h)
  have hown : s.vm.findClass "ChannelMachine" = some m.cls := findClass_of_methodNamed B.named
  have hlocks := B.notSynchronized
  subst hsz
  have hD := hD0.self (sz := s.heap.size)
  have hAN := x_AN hD0 hN0
  generalize hAe : va_A [(h0, .inr (5, [.ref rd, .ref mc, .int (-1)])), (mc, .inr (2, [.ref va, .ref ch, .ref gi, .ref bo, .ref qu, .ref sl, .ref sk, .int 0, .int 0, .int 0, .long 0])), (va, .inl (ar 0, 6, .inl (fun _ => 0)))] s.heap.size = A at hD hAN ⊢
  have hA : ∀ q : Nat, s.heap.size ≤ q → A q := fun q h => by rw [← hAe]; exact Or.inr h
  have hS : va_S A s.heap s.heap [] := va_S.rf
  have hP : va_P (dC, dI) x_cl [(h0, .inr (5, [.ref rd, .ref mc, .int (-1)])), (mc, .inr (2, [.ref va, .ref ch, .ref gi, .ref bo, .ref qu, .ref sl, .ref sk, .int 0, .int 0, .int 0, .long 0])), (va, .inl (ar 0, 6, .inl (fun _ => 0)))] s.heap := hP
  have hl := lv_entry ([.ref h0, .int v]) (n := 2) (Nat.le_of_ble_eq_true rfl)
  rw [lg_entry_eq]
  generalize (lg_sl ([.ref h0, .int v]) ++ List.replicate (2 - (lg_sl ([.ref h0, .int v])).length) Slot.unset).toArray = ls at hl ⊢
  have hl : lv_has ls 2 [(0, .ref h0), (1, .int v)] := hl
  have hH0 : s.heap.size ≤ s.heap.size := Nat.le_refl _
  refine lv_iload_n hx hb d_CM_variable_0 rfl (lv_at hl 1 rfl) ?_
  refine lv_if_lt (tgt := 10) hx hb d_CM_variable_1 (by decide) (fun c1 => ?_) (fun c1 => ?_)
  · exact x_throw (A := A) hx hb hst (own := "ChannelMachine") (cls := "java/lang/IllegalArgumentException") (text := "not a variable") (ik := 31) (is := 122) (ic := 35) hown k_230 k_13 (by decide) x_tChannelMachine_35 (by decide +kernel) rfl hts hU hZ hAN hS (by rw [hml]; exact hl.1) d_CM_variable_10 d_CM_variable_13 d_CM_variable_14 d_CM_variable_16 d_CM_variable_19 htb (Nat.le_of_ble_eq_true rfl) (Nat.le_of_ble_eq_true rfl) (Nat.le_of_ble_eq_true rfl) (Nat.le_of_ble_eq_true rfl) hlocks (fun t h1 h2 h3 h4 => ⟨(), Or.inl c1, rfl, h4⟩) hS.2.2 (Nat.le_of_ble_eq_true rfl) (Nat.le_of_ble_eq_true rfl)
  · refine lv_iload_n hx hb d_CM_variable_4 rfl (lv_at hl 1 rfl) ?_
    refine lv_bipush (v := 6) hx hb d_CM_variable_5 (by decide) ?_
    refine lv_icmp_lt (tgt := 20) hx hb d_CM_variable_7 (by decide) (fun c2 => ?_) (fun c2 => ?_)
    · refine lv_aload_n hx hb d_CM_variable_20 rfl (lv_at hl 0 rfl) ?_
      refine va_get (D := (dC, dI)) (ci := 5) (v := .ref mc) (C := "ChannelMachine") (T := F_CM) (N := 3) hx hb hts i_CM hown hK hP 0 rfl rfl 1 (by decide) (hts _ k_195) (fun _ h9 => h9) rfl d_CM_variable_21 ?_
      refine va_getN (D := (dC, dI)) (ci := 2) (v := .ref va) (C := "ChannelMachine$Machine") (T := F_Machine) (N := 11) hx hb hts i_Machine hown hK hP 1 rfl rfl 0 (by decide) (hU.2.1 _ kn_151) (fun _ h9 => h9) rfl d_CM_variable_24 ?_
      refine lv_iload_n hx hb d_CM_variable_27 rfl (lv_at hl 1 rfl) ?_
      refine va_iald hx hb hK hP 2 0 rfl rfl (x_in (b := 6) (by decide) c1 c2) d_CM_variable_28 ?_
      refine vx_ret ?_
      refine W.widen (k := 1) (n := 6) (Nat.le_of_ble_eq_true rfl) (Nat.le_of_ble_eq_true rfl) ?_
      exact W.iret (v := 0) hx hb hr (fun t ht hW => ⟨⟨0, (), rfl, ⟨⟨c1, c2⟩, rfl⟩, trivial⟩, hS.F ht⟩) hS.2.2 d_CM_variable_29
    · exact x_throw (A := A) hx hb hst (own := "ChannelMachine") (cls := "java/lang/IllegalArgumentException") (text := "not a variable") (ik := 31) (is := 122) (ic := 35) hown k_230 k_13 (by decide) x_tChannelMachine_35 (by decide +kernel) rfl hts hU hZ hAN hS (by rw [hml]; exact hl.1) d_CM_variable_10 d_CM_variable_13 d_CM_variable_14 d_CM_variable_16 d_CM_variable_19 htb (Nat.le_of_ble_eq_true rfl) (Nat.le_of_ble_eq_true rfl) (Nat.le_of_ble_eq_true rfl) (Nat.le_of_ble_eq_true rfl) hlocks (fun t h1 h2 h3 h4 => ⟨(), Or.inr c2, rfl, h4⟩) hS.2.2 (Nat.le_of_ble_eq_true rfl) (Nat.le_of_ble_eq_true rfl)
set_option maxHeartbeats 4000000 in
set_option maxRecDepth 100000 in
theorem c_CM_set (l : Launch) (hst : l.stackTraces = false) (dC : Nat → ClassId) (dI : Nat → Nat → Nat) (ar : Nat → ClassId) (N0 : Nat) (z : Nat → Nat) (h0 rd mc va ch gi bo qu sl sk : Nat) (v x : Int32) (sz : Nat) : vx_Met l ({ cls := "ChannelMachine", name := "set", desc := "(II)V" } : Jvm.MethodName) ((Jvm.Cond.code ({ cls := "ChannelMachine", name := "set", desc := "(II)V" } : Jvm.MethodName) prog_1_method_9_code (3 : Nat) (Option.none : Option Jvm.ClassFile.FieldType)) :: x_T) ({ frames := 6, cells := 1, slots := 6, locals := 82 }) (x_Pc (dC, dI) ar N0 z [(h0, .inr (5, [.ref rd, .ref mc, .int (-1)])), (mc, .inr (2, [.ref va, .ref ch, .ref gi, .ref bo, .ref qu, .ref sl, .ref sk, .int 0, .int 0, .int 0, .long 0])), (va, .inl (ar 0, 6, .inl (fun _ => 0)))] sz [.ref h0, .int v, .int x]) (va_Qv (fun (u : Unit) => ¬ v < 0 ∧ v < 6) (fun u t => True) (va_A [(h0, .inr (5, [.ref rd, .ref mc, .int (-1)])), (mc, .inr (2, [.ref va, .ref ch, .ref gi, .ref bo, .ref qu, .ref sl, .ref sk, .int 0, .int 0, .int 0, .long 0])), (va, .inl (ar 0, 6, .inl (fun _ => 0)))] sz)) (vx_X (fun (_ : Unit) => v < 0 ∨ ¬ v < 6) (fun E _ t => E = "java/lang/IllegalArgumentException") (va_A [(h0, .inr (5, [.ref rd, .ref mc, .int (-1)])), (mc, .inr (2, [.ref va, .ref ch, .ref gi, .ref bo, .ref qu, .ref sl, .ref sk, .int 0, .int 0, .int 0, .long 0])), (va, .inl (ar 0, 6, .inl (fun _ => 0)))] sz)) 1 6 (va_A [(h0, .inr (5, [.ref rd, .ref mc, .int (-1)])), (mc, .inr (2, [.ref va, .ref ch, .ref gi, .ref bo, .ref qu, .ref sl, .ref sk, .int 0, .int 0, .int 0, .long 0])), (va, .inl (ar 0, 6, .inl (fun _ => 0)))] sz) := by
  refine vx_ofW (cc := prog_1_method_9_code) (maxL := 3) (ret := none) (by decide) rfl ?_
  intro p e s m args below meth c s₁ B hml htb hv
  obtain ⟨rfl, hsz, hN0, hP, hU, hZ, hD0⟩ := hv
  have hK := hU.1
  have hx := B.exec
  have hb := B.bytes
  have hr := B.returns
  have hts : ∀ w ∈ x_T, w.before ([.ref h0, .int v, .int x] : List Value).toArray s = true := fun w h => atoms_spec (ws := (Jvm.Cond.code ({ cls := "ChannelMachine", name := "set", desc := "(II)V" } : Jvm.MethodName) prog_1_method_9_code (3 : Nat) (Option.none : Option Jvm.ClassFile.FieldType)) :: x_T) B.pre w (List.mem_cons_of_mem _ h)
  have hown : s.vm.findClass "ChannelMachine" = some m.cls := findClass_of_methodNamed B.named
  have hlocks := B.notSynchronized
  subst hsz
  have hD := hD0.self (sz := s.heap.size)
  have hAN := x_AN hD0 hN0
  generalize hAe : va_A [(h0, .inr (5, [.ref rd, .ref mc, .int (-1)])), (mc, .inr (2, [.ref va, .ref ch, .ref gi, .ref bo, .ref qu, .ref sl, .ref sk, .int 0, .int 0, .int 0, .long 0])), (va, .inl (ar 0, 6, .inl (fun _ => 0)))] s.heap.size = A at hD hAN ⊢
  have hA : ∀ q : Nat, s.heap.size ≤ q → A q := fun q h => by rw [← hAe]; exact Or.inr h
  have hS : va_S A s.heap s.heap [] := va_S.rf
  have hP : va_P (dC, dI) x_cl [(h0, .inr (5, [.ref rd, .ref mc, .int (-1)])), (mc, .inr (2, [.ref va, .ref ch, .ref gi, .ref bo, .ref qu, .ref sl, .ref sk, .int 0, .int 0, .int 0, .long 0])), (va, .inl (ar 0, 6, .inl (fun _ => 0)))] s.heap := hP
  have hl := lv_entry ([.ref h0, .int v, .int x]) (n := 3) (Nat.le_of_ble_eq_true rfl)
  rw [lg_entry_eq]
  generalize (lg_sl ([.ref h0, .int v, .int x]) ++ List.replicate (3 - (lg_sl ([.ref h0, .int v, .int x])).length) Slot.unset).toArray = ls at hl ⊢
  have hl : lv_has ls 3 [(0, .ref h0), (1, .int v), (2, .int x)] := hl
  have hH0 : s.heap.size ≤ s.heap.size := Nat.le_refl _
  refine lv_iload_n hx hb d_CM_set_0 rfl (lv_at hl 1 rfl) ?_
  refine lv_if_lt (tgt := 10) hx hb d_CM_set_1 (by decide) (fun c1 => ?_) (fun c1 => ?_)
  · exact x_throw (A := A) hx hb hst (own := "ChannelMachine") (cls := "java/lang/IllegalArgumentException") (text := "not a variable") (ik := 31) (is := 122) (ic := 35) hown k_230 k_13 (by decide) x_tChannelMachine_35 (by decide +kernel) rfl hts hU hZ hAN hS (by rw [hml]; exact hl.1) d_CM_set_10 d_CM_set_13 d_CM_set_14 d_CM_set_16 d_CM_set_19 htb (Nat.le_of_ble_eq_true rfl) (Nat.le_of_ble_eq_true rfl) (Nat.le_of_ble_eq_true rfl) (Nat.le_of_ble_eq_true rfl) hlocks (fun t h1 h2 h3 h4 => ⟨(), Or.inl c1, rfl, h4⟩) hS.2.2 (Nat.le_of_ble_eq_true rfl) (Nat.le_of_ble_eq_true rfl)
  · refine lv_iload_n hx hb d_CM_set_4 rfl (lv_at hl 1 rfl) ?_
    refine lv_bipush (v := 6) hx hb d_CM_set_5 (by decide) ?_
    refine lv_icmp_lt (tgt := 20) hx hb d_CM_set_7 (by decide) (fun c2 => ?_) (fun c2 => ?_)
    · refine lv_aload_n hx hb d_CM_set_20 rfl (lv_at hl 0 rfl) ?_
      refine va_get (D := (dC, dI)) (ci := 5) (v := .ref mc) (C := "ChannelMachine") (T := F_CM) (N := 3) hx hb hts i_CM hown hK hP 0 rfl rfl 1 (by decide) (hts _ k_195) (fun _ h9 => h9) rfl d_CM_set_21 ?_
      refine va_getN (D := (dC, dI)) (ci := 2) (v := .ref va) (C := "ChannelMachine$Machine") (T := F_Machine) (N := 11) hx hb hts i_Machine hown hK hP 1 rfl rfl 0 (by decide) (hU.2.1 _ kn_151) (fun _ h9 => h9) rfl d_CM_set_24 ?_
      refine lv_iload_n hx hb d_CM_set_27 rfl (lv_at hl 1 rfl) ?_
      refine lv_iload_n hx hb d_CM_set_28 rfl (lv_at hl 2 rfl) ?_
      refine va_iast hx hb hK hP hD hS 2 0 rfl rfl (i := v) (x := x) (x_in (b := 6) (by decide) c1 c2) d_CM_set_29 (fun H locs hP hD hS => ?_)
      have hP : va_P (dC, dI) x_cl [(h0, .inr (5, [.ref rd, .ref mc, .int (-1)])), (mc, .inr (2, [.ref va, .ref ch, .ref gi, .ref bo, .ref qu, .ref sl, .ref sk, .int 0, .int 0, .int 0, .long 0])), (va, .inl (ar 0, 6, .inl (upd (fun _ => 0) (Int32.toNatClampNeg v) x)))] H := hP
      have hD : va_D A [(h0, .inr (5, [.ref rd, .ref mc, .int (-1)])), (mc, .inr (2, [.ref va, .ref ch, .ref gi, .ref bo, .ref qu, .ref sl, .ref sk, .int 0, .int 0, .int 0, .long 0])), (va, .inl (ar 0, 6, .inl (upd (fun _ => 0) (Int32.toNatClampNeg v) x)))] := hD
      refine vx_ret ?_
      refine W.widen (k := 1) (n := 6) (Nat.le_of_ble_eq_true rfl) (Nat.le_of_ble_eq_true rfl) ?_
      exact W.vret hx hb hr (fun t ht hW => ⟨⟨(), rfl, ⟨c1, c2⟩, trivial⟩, hS.F ht⟩) hS.2.2 d_CM_set_30
    · exact x_throw (A := A) hx hb hst (own := "ChannelMachine") (cls := "java/lang/IllegalArgumentException") (text := "not a variable") (ik := 31) (is := 122) (ic := 35) hown k_230 k_13 (by decide) x_tChannelMachine_35 (by decide +kernel) rfl hts hU hZ hAN hS (by rw [hml]; exact hl.1) d_CM_set_10 d_CM_set_13 d_CM_set_14 d_CM_set_16 d_CM_set_19 htb (Nat.le_of_ble_eq_true rfl) (Nat.le_of_ble_eq_true rfl) (Nat.le_of_ble_eq_true rfl) (Nat.le_of_ble_eq_true rfl) hlocks (fun t h1 h2 h3 h4 => ⟨(), Or.inr c2, rfl, h4⟩) hS.2.2 (Nat.le_of_ble_eq_true rfl) (Nat.le_of_ble_eq_true rfl)
set_option maxHeartbeats 4000000 in
set_option maxRecDepth 100000 in
theorem c_CM_give (l : Launch) (hst : l.stackTraces = false) (dC : Nat → ClassId) (dI : Nat → Nat → Nat) (ar : Nat → ClassId) (N0 : Nat) (z : Nat → Nat) (h0 rd mc va ch gi bo qu sl sk : Nat) (x : Int32) (sz : Nat) : vx_Met l ({ cls := "ChannelMachine", name := "give", desc := "(I)I" } : Jvm.MethodName) ((Jvm.Cond.code ({ cls := "ChannelMachine", name := "give", desc := "(I)I" } : Jvm.MethodName) prog_1_method_6_code (2 : Nat) (Option.some Jvm.ClassFile.FieldType.int)) :: x_T) ({ frames := 6, cells := 1, slots := 6, locals := 82 }) (x_Pc (dC, dI) ar N0 z [(h0, .inr (5, [.ref rd, .ref mc, .int (-1)])), (mc, .inr (2, [.ref va, .ref ch, .ref gi, .ref bo, .ref qu, .ref sl, .ref sk, .int 0, .int 0, .int 0, .long 0]))] sz [.ref h0, .int x]) (va_Qi (fun (r : Int32) (u : Unit) => False) (fun u t => True) (va_A [(h0, .inr (5, [.ref rd, .ref mc, .int (-1)])), (mc, .inr (2, [.ref va, .ref ch, .ref gi, .ref bo, .ref qu, .ref sl, .ref sk, .int 0, .int 0, .int 0, .long 0]))] sz)) (vx_X (fun (_ : Unit) => True) (fun E _ t => E = "java/lang/IllegalStateException") (va_A [(h0, .inr (5, [.ref rd, .ref mc, .int (-1)])), (mc, .inr (2, [.ref va, .ref ch, .ref gi, .ref bo, .ref qu, .ref sl, .ref sk, .int 0, .int 0, .int 0, .long 0]))] sz)) 1 6 (va_A [(h0, .inr (5, [.ref rd, .ref mc, .int (-1)])), (mc, .inr (2, [.ref va, .ref ch, .ref gi, .ref bo, .ref qu, .ref sl, .ref sk, .int 0, .int 0, .int 0, .long 0]))] sz) := by
  refine vx_ofW (cc := prog_1_method_6_code) (maxL := 2) (ret := (some .int)) (by decide) rfl ?_
  intro p e s m args below meth c s₁ B hml htb hv
  obtain ⟨rfl, hsz, hN0, hP, hU, hZ, hD0⟩ := hv
  have hK := hU.1
  have hx := B.exec
  have hb := B.bytes
  have hr := B.returns
  have hts : ∀ w ∈ x_T, w.before ([.ref h0, .int x] : List Value).toArray s = true := fun w h => atoms_spec (ws := (Jvm.Cond.code ({ cls := "ChannelMachine", name := "give", desc := "(I)I" } : Jvm.MethodName) prog_1_method_6_code (2 : Nat) (Option.some Jvm.ClassFile.FieldType.int)) :: x_T) B.pre w (List.mem_cons_of_mem _ h)
  have hown : s.vm.findClass "ChannelMachine" = some m.cls := findClass_of_methodNamed B.named
  have hlocks := B.notSynchronized
  subst hsz
  have hD := hD0.self (sz := s.heap.size)
  have hAN := x_AN hD0 hN0
  generalize hAe : va_A [(h0, .inr (5, [.ref rd, .ref mc, .int (-1)])), (mc, .inr (2, [.ref va, .ref ch, .ref gi, .ref bo, .ref qu, .ref sl, .ref sk, .int 0, .int 0, .int 0, .long 0]))] s.heap.size = A at hD hAN ⊢
  have hA : ∀ q : Nat, s.heap.size ≤ q → A q := fun q h => by rw [← hAe]; exact Or.inr h
  have hS : va_S A s.heap s.heap [] := va_S.rf
  have hP : va_P (dC, dI) x_cl [(h0, .inr (5, [.ref rd, .ref mc, .int (-1)])), (mc, .inr (2, [.ref va, .ref ch, .ref gi, .ref bo, .ref qu, .ref sl, .ref sk, .int 0, .int 0, .int 0, .long 0]))] s.heap := hP
  have hl := lv_entry ([.ref h0, .int x]) (n := 2) (Nat.le_of_ble_eq_true rfl)
  rw [lg_entry_eq]
  generalize (lg_sl ([.ref h0, .int x]) ++ List.replicate (2 - (lg_sl ([.ref h0, .int x])).length) Slot.unset).toArray = ls at hl ⊢
  have hl : lv_has ls 2 [(0, .ref h0), (1, .int x)] := hl
  have hH0 : s.heap.size ≤ s.heap.size := Nat.le_refl _
  refine lv_aload_n hx hb d_CM_give_0 rfl (lv_at hl 0 rfl) ?_
  refine va_get (D := (dC, dI)) (ci := 5) (v := .ref mc) (C := "ChannelMachine") (T := F_CM) (N := 3) hx hb hts i_CM hown hK hP 0 rfl rfl 1 (by decide) (hts _ k_195) (fun _ h9 => h9) rfl d_CM_give_1 ?_
  refine va_getN (D := (dC, dI)) (ci := 2) (v := .int 0) (C := "ChannelMachine$Machine") (T := F_Machine) (N := 11) hx hb hts i_Machine hown hK hP 1 rfl rfl 7 (by decide) (hU.2.1 _ kn_164) (fun _ h9 => h9) rfl d_CM_give_4 ?_
  refine lv_iconst (v := 1) hx hb d_CM_give_7 (by decide) ?_
  refine lv_icmp_eq (tgt := 21) hx hb d_CM_give_8 (by decide) (fun c1 => absurd c1 (by decide)) (fun _ => ?_)
  exact x_throw (A := A) hx hb hst (own := "ChannelMachine") (cls := "java/lang/IllegalStateException") (text := "no program to be run") (ik := 41) (is := 86) (ic := 45) hown k_299 k_14 (by decide) x_tChannelMachine_45 (by decide +kernel) rfl hts hU hZ hAN hS (by rw [hml]; exact hl.1) d_CM_give_11 d_CM_give_14 d_CM_give_15 d_CM_give_17 d_CM_give_20 htb (Nat.le_of_ble_eq_true rfl) (Nat.le_of_ble_eq_true rfl) (Nat.le_of_ble_eq_true rfl) (Nat.le_of_ble_eq_true rfl) hlocks (fun t h1 h2 h3 h4 => ⟨(), trivial, rfl, h4⟩) hS.2.2 (Nat.le_of_ble_eq_true rfl) (Nat.le_of_ble_eq_true rfl)
set_option maxHeartbeats 4000000 in
set_option maxRecDepth 100000 in
theorem c_CM_run (l : Launch) (hst : l.stackTraces = false) (dC : Nat → ClassId) (dI : Nat → Nat → Nat) (ar : Nat → ClassId) (N0 : Nat) (z : Nat → Nat) (h0 rd mc va ch gi bo qu sl sk : Nat) (n : Int32) (sz : Nat) : vx_Met l ({ cls := "ChannelMachine", name := "run", desc := "(I)I" } : Jvm.MethodName) ((Jvm.Cond.code ({ cls := "ChannelMachine", name := "run", desc := "(I)I" } : Jvm.MethodName) prog_1_method_5_code (2 : Nat) (Option.some Jvm.ClassFile.FieldType.int)) :: x_T) ({ frames := 6, cells := 1, slots := 6, locals := 82 }) (x_Pc (dC, dI) ar N0 z [(h0, .inr (5, [.ref rd, .ref mc, .int (-1)])), (mc, .inr (2, [.ref va, .ref ch, .ref gi, .ref bo, .ref qu, .ref sl, .ref sk, .int 0, .int 0, .int 0, .long 0]))] sz [.ref h0, .int n]) (va_Qi (fun (r : Int32) (u : Unit) => False) (fun u t => True) (va_A [(h0, .inr (5, [.ref rd, .ref mc, .int (-1)])), (mc, .inr (2, [.ref va, .ref ch, .ref gi, .ref bo, .ref qu, .ref sl, .ref sk, .int 0, .int 0, .int 0, .long 0]))] sz)) (vx_X (fun (_ : Unit) => True) (fun E _ t => (E = "java/lang/IllegalArgumentException" ∧ (n < 1 ∨ ¬ n ≤ 200)) ∨ (E = "java/lang/IllegalStateException" ∧ ¬ n < 1 ∧ n ≤ 200)) (va_A [(h0, .inr (5, [.ref rd, .ref mc, .int (-1)])), (mc, .inr (2, [.ref va, .ref ch, .ref gi, .ref bo, .ref qu, .ref sl, .ref sk, .int 0, .int 0, .int 0, .long 0]))] sz)) 1 6 (va_A [(h0, .inr (5, [.ref rd, .ref mc, .int (-1)])), (mc, .inr (2, [.ref va, .ref ch, .ref gi, .ref bo, .ref qu, .ref sl, .ref sk, .int 0, .int 0, .int 0, .long 0]))] sz) := by
  refine vx_ofW (cc := prog_1_method_5_code) (maxL := 2) (ret := (some .int)) (by decide) rfl ?_
  intro p e s m args below meth c s₁ B hml htb hv
  obtain ⟨rfl, hsz, hN0, hP, hU, hZ, hD0⟩ := hv
  have hK := hU.1
  have hx := B.exec
  have hb := B.bytes
  have hr := B.returns
  have hts : ∀ w ∈ x_T, w.before ([.ref h0, .int n] : List Value).toArray s = true := fun w h => atoms_spec (ws := (Jvm.Cond.code ({ cls := "ChannelMachine", name := "run", desc := "(I)I" } : Jvm.MethodName) prog_1_method_5_code (2 : Nat) (Option.some Jvm.ClassFile.FieldType.int)) :: x_T) B.pre w (List.mem_cons_of_mem _ h)
  have hown : s.vm.findClass "ChannelMachine" = some m.cls := findClass_of_methodNamed B.named
  have hlocks := B.notSynchronized
  subst hsz
  have hD := hD0.self (sz := s.heap.size)
  have hAN := x_AN hD0 hN0
  generalize hAe : va_A [(h0, .inr (5, [.ref rd, .ref mc, .int (-1)])), (mc, .inr (2, [.ref va, .ref ch, .ref gi, .ref bo, .ref qu, .ref sl, .ref sk, .int 0, .int 0, .int 0, .long 0]))] s.heap.size = A at hD hAN ⊢
  have hA : ∀ q : Nat, s.heap.size ≤ q → A q := fun q h => by rw [← hAe]; exact Or.inr h
  have hS : va_S A s.heap s.heap [] := va_S.rf
  have hP : va_P (dC, dI) x_cl [(h0, .inr (5, [.ref rd, .ref mc, .int (-1)])), (mc, .inr (2, [.ref va, .ref ch, .ref gi, .ref bo, .ref qu, .ref sl, .ref sk, .int 0, .int 0, .int 0, .long 0]))] s.heap := hP
  have hl := lv_entry ([.ref h0, .int n]) (n := 2) (Nat.le_of_ble_eq_true rfl)
  rw [lg_entry_eq]
  generalize (lg_sl ([.ref h0, .int n]) ++ List.replicate (2 - (lg_sl ([.ref h0, .int n])).length) Slot.unset).toArray = ls at hl ⊢
  have hl : lv_has ls 2 [(0, .ref h0), (1, .int n)] := hl
  have hH0 : s.heap.size ≤ s.heap.size := Nat.le_refl _
  refine lv_iload_n hx hb d_CM_run_0 rfl (lv_at hl 1 rfl) ?_
  refine lv_iconst (v := 1) hx hb d_CM_run_1 (by decide) ?_
  refine lv_icmp_lt (tgt := 12) hx hb d_CM_run_2 (by decide) (fun c1 => ?_) (fun c1 => ?_)
  · exact x_throw (A := A) hx hb hst (own := "ChannelMachine") (cls := "java/lang/IllegalArgumentException") (text := "not a number of acts") (ik := 31) (is := 81) (ic := 35) hown k_230 k_13 (by decide) x_tChannelMachine_35 (by decide +kernel) rfl hts hU hZ hAN hS (by rw [hml]; exact hl.1) d_CM_run_12 d_CM_run_15 d_CM_run_16 d_CM_run_18 d_CM_run_21 htb (Nat.le_of_ble_eq_true rfl) (Nat.le_of_ble_eq_true rfl) (Nat.le_of_ble_eq_true rfl) (Nat.le_of_ble_eq_true rfl) hlocks (fun t h1 h2 h3 h4 => ⟨(), trivial, Or.inl ⟨rfl, Or.inl c1⟩, h4⟩) hS.2.2 (Nat.le_of_ble_eq_true rfl) (Nat.le_of_ble_eq_true rfl)
  · refine lv_iload_n hx hb d_CM_run_5 rfl (lv_at hl 1 rfl) ?_
    refine lv_sipush (v := 200) hx hb d_CM_run_6 (by decide) ?_
    refine lv_icmp_le (tgt := 22) hx hb d_CM_run_9 (by decide) (fun c2 => ?_) (fun c2 => ?_)
    · refine lv_aload_n hx hb d_CM_run_22 rfl (lv_at hl 0 rfl) ?_
      refine va_get (D := (dC, dI)) (ci := 5) (v := .ref mc) (C := "ChannelMachine") (T := F_CM) (N := 3) hx hb hts i_CM hown hK hP 0 rfl rfl 1 (by decide) (hts _ k_195) (fun _ h9 => h9) rfl d_CM_run_23 ?_
      refine va_getN (D := (dC, dI)) (ci := 2) (v := .int 0) (C := "ChannelMachine$Machine") (T := F_Machine) (N := 11) hx hb hts i_Machine hown hK hP 1 rfl rfl 7 (by decide) (hU.2.1 _ kn_164) (fun _ h9 => h9) rfl d_CM_run_26 ?_
      refine lv_iconst (v := 1) hx hb d_CM_run_29 (by decide) ?_
      refine lv_icmp_eq (tgt := 43) hx hb d_CM_run_30 (by decide) (fun c3 => absurd c3 (by decide)) (fun _ => ?_)
      exact x_throw (A := A) hx hb hst (own := "ChannelMachine") (cls := "java/lang/IllegalStateException") (text := "no program to be run") (ik := 41) (is := 86) (ic := 45) hown k_299 k_14 (by decide) x_tChannelMachine_45 (by decide +kernel) rfl hts hU hZ hAN hS (by rw [hml]; exact hl.1) d_CM_run_33 d_CM_run_36 d_CM_run_37 d_CM_run_39 d_CM_run_42 htb (Nat.le_of_ble_eq_true rfl) (Nat.le_of_ble_eq_true rfl) (Nat.le_of_ble_eq_true rfl) (Nat.le_of_ble_eq_true rfl) hlocks (fun t h1 h2 h3 h4 => ⟨(), trivial, Or.inr ⟨rfl, c1, c2⟩, h4⟩) hS.2.2 (Nat.le_of_ble_eq_true rfl) (Nat.le_of_ble_eq_true rfl)
    · exact x_throw (A := A) hx hb hst (own := "ChannelMachine") (cls := "java/lang/IllegalArgumentException") (text := "not a number of acts") (ik := 31) (is := 81) (ic := 35) hown k_230 k_13 (by decide) x_tChannelMachine_35 (by decide +kernel) rfl hts hU hZ hAN hS (by rw [hml]; exact hl.1) d_CM_run_12 d_CM_run_15 d_CM_run_16 d_CM_run_18 d_CM_run_21 htb (Nat.le_of_ble_eq_true rfl) (Nat.le_of_ble_eq_true rfl) (Nat.le_of_ble_eq_true rfl) (Nat.le_of_ble_eq_true rfl) hlocks (fun t h1 h2 h3 h4 => ⟨(), trivial, Or.inl ⟨rfl, Or.inr c2⟩, h4⟩) hS.2.2 (Nat.le_of_ble_eq_true rfl) (Nat.le_of_ble_eq_true rfl)
set_option maxHeartbeats 4000000 in
set_option maxRecDepth 100000 in
theorem c_Mo_in (l : Launch) (dC : Nat → ClassId) (dI : Nat → Nat → Nat) (ar : Nat → ClassId) (N0 : Nat) (z : Nat → Nat) (v a b : Int32) (sz : Nat) : Met l ({ cls := "ChannelMachineModel", name := "in", desc := "(III)Z" } : Jvm.MethodName) ((Jvm.Cond.code ({ cls := "ChannelMachineModel", name := "in", desc := "(III)Z" } : Jvm.MethodName) prog_12_method_3_code (3 : Nat) (Option.some Jvm.ClassFile.FieldType.boolean)) :: x_T) ({ frames := 0, cells := 0, slots := 0, locals := 0 }) (x_Pc (dC, dI) ar N0 z [] sz [.int v, .int a, .int b]) (va_Qi (fun (r : Int32) (u : Unit) => (¬ v < a ∧ ¬ b < v ∧ r = 1) ∨ ((v < a ∨ b < v) ∧ r = 0)) (fun u t => va_P (dC, dI) x_cl [] t.heap ∧ va_D (va_A [] sz) []) (va_A [] sz)) 0 0 (va_A [] sz) := by
  refine Met.ofW (cc := prog_12_method_3_code) (maxL := 3) (ret := (some .boolean)) (by decide) rfl ?_
  intro p e s m args below meth c s₁ B hml hv
  obtain ⟨rfl, hsz, hN0, hP, hU, hZ, hD0⟩ := hv
  have hK := hU.1
  have hx := B.exec
  have hb := B.bytes
  have hr := B.returns
  have hts : ∀ w ∈ x_T, w.before ([.int v, .int a, .int b] : List Value).toArray s = true := fun w h => atoms_spec (ws := (Jvm.Cond.code ({ cls := "ChannelMachineModel", name := "in", desc := "(III)Z" } : Jvm.MethodName) prog_12_method_3_code (3 : Nat) (Option.some Jvm.ClassFile.FieldType.boolean)) :: x_T) B.pre w (List.mem_cons_of_mem _ h)
  have hown : s.vm.findClass "ChannelMachineModel" = some m.cls := findClass_of_methodNamed B.named
  have hlocks := B.notSynchronized
  subst hsz
  have hD := hD0.self (sz := s.heap.size)
  have hAN := x_AN hD0 hN0
  generalize hAe : va_A [] s.heap.size = A at hD hAN ⊢
  have hA : ∀ q : Nat, s.heap.size ≤ q → A q := fun q h => by rw [← hAe]; exact Or.inr h
  have hS : va_S A s.heap s.heap [] := va_S.rf
  have hP : va_P (dC, dI) x_cl [] s.heap := hP
  have hl := lv_entry ([.int v, .int a, .int b]) (n := 3) (Nat.le_of_ble_eq_true rfl)
  rw [lg_entry_eq]
  generalize (lg_sl ([.int v, .int a, .int b]) ++ List.replicate (3 - (lg_sl ([.int v, .int a, .int b])).length) Slot.unset).toArray = ls at hl ⊢
  have hl : lv_has ls 3 [(0, .int v), (1, .int a), (2, .int b)] := hl
  have hH0 : s.heap.size ≤ s.heap.size := Nat.le_refl _
  refine lv_iload_n hx hb d_Mo_in_0 rfl (lv_at hl 0 rfl) ?_
  refine lv_iload_n hx hb d_Mo_in_1 rfl (lv_at hl 1 rfl) ?_
  refine lv_icmp_lt (tgt := 14) hx hb d_Mo_in_2 (by decide) (fun c1 => ?_) (fun c1 => ?_)
  · refine lv_iconst (v := 0) hx hb d_Mo_in_14 (by decide) ?_
    refine W.widen (k := 0) (n := 0) (Nat.le_of_ble_eq_true rfl) (Nat.le_of_ble_eq_true rfl) ?_
    exact W.zret (v := 0) hx hb hr (rfl) (fun t ht hW => ⟨⟨0, (), rfl, Or.inr ⟨Or.inl c1, rfl⟩, ⟨by rw [ht]; exact hP, hD⟩⟩, hS.F ht⟩) hS.2.2 d_Mo_in_15
  · refine lv_iload_n hx hb d_Mo_in_5 rfl (lv_at hl 0 rfl) ?_
    refine lv_iload_n hx hb d_Mo_in_6 rfl (lv_at hl 2 rfl) ?_
    refine lv_icmp_gt (tgt := 14) hx hb d_Mo_in_7 (by decide) (fun c2 => ?_) (fun c2 => ?_)
    · refine lv_iconst (v := 0) hx hb d_Mo_in_14 (by decide) ?_
      refine W.widen (k := 0) (n := 0) (Nat.le_of_ble_eq_true rfl) (Nat.le_of_ble_eq_true rfl) ?_
      exact W.zret (v := 0) hx hb hr (rfl) (fun t ht hW => ⟨⟨0, (), rfl, Or.inr ⟨Or.inr c2, rfl⟩, ⟨by rw [ht]; exact hP, hD⟩⟩, hS.F ht⟩) hS.2.2 d_Mo_in_15
    · refine lv_iconst (v := 1) hx hb d_Mo_in_10 (by decide) ?_
      refine lv_goto (tgt := 15) hx hb d_Mo_in_11 (by decide) ?_
      refine W.widen (k := 0) (n := 0) (Nat.le_of_ble_eq_true rfl) (Nat.le_of_ble_eq_true rfl) ?_
      exact W.zret (v := 1) hx hb hr (rfl) (fun t ht hW => ⟨⟨1, (), rfl, Or.inl ⟨c1, c2, rfl⟩, ⟨by rw [ht]; exact hP, hD⟩⟩, hS.F ht⟩) hS.2.2 d_Mo_in_15
set_option maxHeartbeats 4000000 in
set_option maxRecDepth 100000 in
theorem c_Mo_bad (l : Launch) (dC : Nat → ClassId) (dI : Nat → Nat → Nat) (ar : Nat → ClassId) (N0 : Nat) (z : Nat → Nat) (h0 : Nat) (fs : List Value) (b : Int32) (sz : Nat) (hfs : fs.length = 45) : Met l ({ cls := "ChannelMachineModel", name := "bad", desc := "(Z)Z" } : Jvm.MethodName) ((Jvm.Cond.code ({ cls := "ChannelMachineModel", name := "bad", desc := "(Z)Z" } : Jvm.MethodName) prog_12_method_4_code (2 : Nat) (Option.some Jvm.ClassFile.FieldType.boolean)) :: x_T) ({ frames := 0, cells := 0, slots := 0, locals := 0 }) (x_Pc (dC, dI) ar N0 z [(h0, .inr (6, fs))] sz [.ref h0, .int b]) (va_Qi (fun (r : Int32) (u : Int32) => (b = 0 ∧ r = 1 ∧ u = 1) ∨ (¬ b = 0 ∧ r = 0 ∧ u = 0)) (fun u t => va_P (dC, dI) x_cl [(h0, .inr (6, fs.set 33 (.int u)))] t.heap ∧ va_D (va_A [(h0, .inr (6, fs))] sz) [(h0, .inr (6, fs.set 33 (.int u)))]) (va_A [(h0, .inr (6, fs))] sz)) 0 0 (va_A [(h0, .inr (6, fs))] sz) := by
  refine Met.ofW (cc := prog_12_method_4_code) (maxL := 2) (ret := (some .boolean)) (by decide) rfl ?_
  intro p e s m args below meth c s₁ B hml hv
  obtain ⟨rfl, hsz, hN0, hP, hU, hZ, hD0⟩ := hv
  have hK := hU.1
  have hx := B.exec
  have hb := B.bytes
  have hr := B.returns
  have hts : ∀ w ∈ x_T, w.before ([.ref h0, .int b] : List Value).toArray s = true := fun w h => atoms_spec (ws := (Jvm.Cond.code ({ cls := "ChannelMachineModel", name := "bad", desc := "(Z)Z" } : Jvm.MethodName) prog_12_method_4_code (2 : Nat) (Option.some Jvm.ClassFile.FieldType.boolean)) :: x_T) B.pre w (List.mem_cons_of_mem _ h)
  have hown : s.vm.findClass "ChannelMachineModel" = some m.cls := findClass_of_methodNamed B.named
  have hlocks := B.notSynchronized
  subst hsz
  have hD := hD0.self (sz := s.heap.size)
  have hAN := x_AN hD0 hN0
  generalize hAe : va_A [(h0, .inr (6, fs))] s.heap.size = A at hD hAN ⊢
  have hA : ∀ q : Nat, s.heap.size ≤ q → A q := fun q h => by rw [← hAe]; exact Or.inr h
  have hS : va_S A s.heap s.heap [] := va_S.rf
  have hP : va_P (dC, dI) x_cl [(h0, .inr (6, fs))] s.heap := hP
  have hl := lv_entry ([.ref h0, .int b]) (n := 2) (Nat.le_of_ble_eq_true rfl)
  rw [lg_entry_eq]
  generalize (lg_sl ([.ref h0, .int b]) ++ List.replicate (2 - (lg_sl ([.ref h0, .int b])).length) Slot.unset).toArray = ls at hl ⊢
  have hl : lv_has ls 2 [(0, .ref h0), (1, .int b)] := hl
  have hH0 : s.heap.size ≤ s.heap.size := Nat.le_refl _
  refine lv_aload_n hx hb d_Mo_bad_0 rfl (lv_at hl 0 rfl) ?_
  refine lv_iload_n hx hb d_Mo_bad_1 rfl (lv_at hl 1 rfl) ?_
  refine lv_if_eq (tgt := 9) hx hb d_Mo_bad_2 (by decide) (fun c1 => ?_) (fun c1 => ?_)
  · refine lv_iconst (v := 1) hx hb d_Mo_bad_9 (by decide) ?_
    refine va_put (D := (dC, dI)) (ci := 6) (v := .int 1) (ty := .int) (C := "ChannelMachineModel") (T := F_Mo) (N := 45) hx hb hts i_Mo t_Mo t_Mo_ok n_Mo hown hK hP hD hS 0 rfl rfl 33 (by decide) (hts _ k_1000) (fun _ h9 => h9) rfl (by decide +kernel) rfl rfl (by first | omega | (simp; omega)) d_Mo_bad_10 (fun H locs hP hD hS => ?_)
    have hP : va_P (dC, dI) x_cl [(h0, .inr (6, (fs.set 33 (.int 1))))] H := hP
    have hD : va_D A [(h0, .inr (6, (fs.set 33 (.int 1))))] := hD
    refine lv_iload_n hx hb d_Mo_bad_13 rfl (lv_at hl 1 rfl) ?_
    refine lv_if_ne (tgt := 21) hx hb d_Mo_bad_14 (by decide) (fun c2 => absurd c1 c2) (fun _ => ?_)
    refine lv_iconst (v := 1) hx hb d_Mo_bad_17 (by decide) ?_
    refine lv_goto (tgt := 22) hx hb d_Mo_bad_18 (by decide) ?_
    refine W.widen (k := 0) (n := 0) (Nat.le_of_ble_eq_true rfl) (Nat.le_of_ble_eq_true rfl) ?_
    exact W.zret (v := 1) hx hb hr (rfl) (fun t ht hW => ⟨⟨1, 1, rfl, Or.inl ⟨c1, rfl, rfl⟩, ⟨by rw [ht]; exact hP, hD⟩⟩, hS.F ht⟩) hS.2.2 d_Mo_bad_22
  · refine lv_iconst (v := 0) hx hb d_Mo_bad_5 (by decide) ?_
    refine lv_goto (tgt := 10) hx hb d_Mo_bad_6 (by decide) ?_
    refine va_put (D := (dC, dI)) (ci := 6) (v := .int 0) (ty := .int) (C := "ChannelMachineModel") (T := F_Mo) (N := 45) hx hb hts i_Mo t_Mo t_Mo_ok n_Mo hown hK hP hD hS 0 rfl rfl 33 (by decide) (hts _ k_1000) (fun _ h9 => h9) rfl (by decide +kernel) rfl rfl (by first | omega | (simp; omega)) d_Mo_bad_10 (fun H locs hP hD hS => ?_)
    have hP : va_P (dC, dI) x_cl [(h0, .inr (6, (fs.set 33 (.int 0))))] H := hP
    have hD : va_D A [(h0, .inr (6, (fs.set 33 (.int 0))))] := hD
    refine lv_iload_n hx hb d_Mo_bad_13 rfl (lv_at hl 1 rfl) ?_
    refine lv_if_ne (tgt := 21) hx hb d_Mo_bad_14 (by decide) (fun _ => ?_) (fun c3 => absurd c3 c1)
    refine lv_iconst (v := 0) hx hb d_Mo_bad_21 (by decide) ?_
    refine W.widen (k := 0) (n := 0) (Nat.le_of_ble_eq_true rfl) (Nat.le_of_ble_eq_true rfl) ?_
    exact W.zret (v := 0) hx hb hr (rfl) (fun t ht hW => ⟨⟨0, 0, rfl, Or.inr ⟨c1, rfl, rfl⟩, ⟨by rw [ht]; exact hP, hD⟩⟩, hS.F ht⟩) hS.2.2 d_Mo_bad_22
set_option maxHeartbeats 4000000 in
set_option maxRecDepth 100000 in
theorem c_Mo_fail (l : Launch) (dC : Nat → ClassId) (dI : Nat → Nat → Nat) (ar : Nat → ClassId) (N0 : Nat) (z : Nat → Nat) (h0 : Nat) (fs : List Value) (b : Int32) (sz : Nat) (hfs : fs.length = 45) : Met l ({ cls := "ChannelMachineModel", name := "fail", desc := "(I)I" } : Jvm.MethodName) ((Jvm.Cond.code ({ cls := "ChannelMachineModel", name := "fail", desc := "(I)I" } : Jvm.MethodName) prog_12_method_5_code (2 : Nat) (Option.some Jvm.ClassFile.FieldType.int)) :: x_T) ({ frames := 0, cells := 0, slots := 0, locals := 0 }) (x_Pc (dC, dI) ar N0 z [(h0, .inr (6, fs))] sz [.ref h0, .int b]) (va_Qi (fun (r : Int32) (u : Int32) => r = 0 ∧ u = b) (fun u t => va_P (dC, dI) x_cl [(h0, .inr (6, fs.set 33 (.int u)))] t.heap ∧ va_D (va_A [(h0, .inr (6, fs))] sz) [(h0, .inr (6, fs.set 33 (.int u)))]) (va_A [(h0, .inr (6, fs))] sz)) 0 0 (va_A [(h0, .inr (6, fs))] sz) := by
  refine Met.ofW (cc := prog_12_method_5_code) (maxL := 2) (ret := (some .int)) (by decide) rfl ?_
  intro p e s m args below meth c s₁ B hml hv
  obtain ⟨rfl, hsz, hN0, hP, hU, hZ, hD0⟩ := hv
  have hK := hU.1
  have hx := B.exec
  have hb := B.bytes
  have hr := B.returns
  have hts : ∀ w ∈ x_T, w.before ([.ref h0, .int b] : List Value).toArray s = true := fun w h => atoms_spec (ws := (Jvm.Cond.code ({ cls := "ChannelMachineModel", name := "fail", desc := "(I)I" } : Jvm.MethodName) prog_12_method_5_code (2 : Nat) (Option.some Jvm.ClassFile.FieldType.int)) :: x_T) B.pre w (List.mem_cons_of_mem _ h)
  have hown : s.vm.findClass "ChannelMachineModel" = some m.cls := findClass_of_methodNamed B.named
  have hlocks := B.notSynchronized
  subst hsz
  have hD := hD0.self (sz := s.heap.size)
  have hAN := x_AN hD0 hN0
  generalize hAe : va_A [(h0, .inr (6, fs))] s.heap.size = A at hD hAN ⊢
  have hA : ∀ q : Nat, s.heap.size ≤ q → A q := fun q h => by rw [← hAe]; exact Or.inr h
  have hS : va_S A s.heap s.heap [] := va_S.rf
  have hP : va_P (dC, dI) x_cl [(h0, .inr (6, fs))] s.heap := hP
  have hl := lv_entry ([.ref h0, .int b]) (n := 2) (Nat.le_of_ble_eq_true rfl)
  rw [lg_entry_eq]
  generalize (lg_sl ([.ref h0, .int b]) ++ List.replicate (2 - (lg_sl ([.ref h0, .int b])).length) Slot.unset).toArray = ls at hl ⊢
  have hl : lv_has ls 2 [(0, .ref h0), (1, .int b)] := hl
  have hH0 : s.heap.size ≤ s.heap.size := Nat.le_refl _
  refine lv_aload_n hx hb d_Mo_fail_0 rfl (lv_at hl 0 rfl) ?_
  refine lv_iload_n hx hb d_Mo_fail_1 rfl (lv_at hl 1 rfl) ?_
  refine va_put (D := (dC, dI)) (ci := 6) (v := .int b) (ty := .int) (C := "ChannelMachineModel") (T := F_Mo) (N := 45) hx hb hts i_Mo t_Mo t_Mo_ok n_Mo hown hK hP hD hS 0 rfl rfl 33 (by decide) (hts _ k_1000) (fun _ h9 => h9) rfl (by decide +kernel) rfl rfl (by first | omega | (simp; omega)) d_Mo_fail_2 (fun H locs hP hD hS => ?_)
  have hP : va_P (dC, dI) x_cl [(h0, .inr (6, (fs.set 33 (.int b))))] H := hP
  have hD : va_D A [(h0, .inr (6, (fs.set 33 (.int b))))] := hD
  refine lv_iconst (v := 0) hx hb d_Mo_fail_5 (by decide) ?_
  refine W.widen (k := 0) (n := 0) (Nat.le_of_ble_eq_true rfl) (Nat.le_of_ble_eq_true rfl) ?_
  exact W.iret (v := 0) hx hb hr (fun t ht hW => ⟨⟨0, b, rfl, ⟨rfl, rfl⟩, ⟨by rw [ht]; exact hP, hD⟩⟩, hS.F ht⟩) hS.2.2 d_Mo_fail_6
set_option maxHeartbeats 4000000 in
set_option maxRecDepth 100000 in
theorem c_Mo_variable (l : Launch) (dC : Nat → ClassId) (dI : Nat → Nat → Nat) (ar : Nat → ClassId) (N0 : Nat) (z : Nat → Nat) (h0 m_variables : Nat) (fs : List Value) (v : Int32) (sz : Nat) (hfs : fs.length = 45) (g_variables : fs[3]? = some (.ref m_variables)) : Met l ({ cls := "ChannelMachineModel", name := "variable", desc := "(I)I" } : Jvm.MethodName) ((Jvm.Cond.code ({ cls := "ChannelMachineModel", name := "variable", desc := "(I)I" } : Jvm.MethodName) prog_12_method_45_code (2 : Nat) (Option.some Jvm.ClassFile.FieldType.int)) :: x_T) ({ frames := 1, cells := 0, slots := 0, locals := 22 }) (x_Pc (dC, dI) ar N0 z [(h0, .inr (6, fs)), (m_variables, .inl (ar 0, 6, .inl (fun _ => 0)))] sz [.ref h0, .int v]) (va_Qi (fun (r : Int32) (u : Int32) => ((¬ v < 0 ∧ ¬ 5 < v) ∧ r = 0 ∧ u = 0) ∨ ((v < 0 ∨ 5 < v) ∧ u = 1)) (fun u t => ∃ fz : List Value, va_P (dC, dI) x_cl [(h0, .inr (6, fz))] t.heap ∧ va_D (va_A [(h0, .inr (6, fs)), (m_variables, .inl (ar 0, 6, .inl (fun _ => 0)))] sz) [(h0, .inr (6, fz))] ∧ fz[33]? = some (.int u)) (va_A [(h0, .inr (6, fs)), (m_variables, .inl (ar 0, 6, .inl (fun _ => 0)))] sz)) 0 0 (va_A [(h0, .inr (6, fs)), (m_variables, .inl (ar 0, 6, .inl (fun _ => 0)))] sz) := by
  refine Met.ofW (cc := prog_12_method_45_code) (maxL := 2) (ret := (some .int)) (by decide) rfl ?_
  intro p e s m args below meth c s₁ B hml hv
  obtain ⟨rfl, hsz, hN0, hP, hU, hZ, hD0⟩ := hv
  have hK := hU.1
  have hx := B.exec
  have hb := B.bytes
  have hr := B.returns
  have hts : ∀ w ∈ x_T, w.before ([.ref h0, .int v] : List Value).toArray s = true := fun w h => atoms_spec (ws := (Jvm.Cond.code ({ cls := "ChannelMachineModel", name := "variable", desc := "(I)I" } : Jvm.MethodName) prog_12_method_45_code (2 : Nat) (Option.some Jvm.ClassFile.FieldType.int)) :: x_T) B.pre w (List.mem_cons_of_mem _ h)
  have hown : s.vm.findClass "ChannelMachineModel" = some m.cls := findClass_of_methodNamed B.named
  have hlocks := B.notSynchronized
  subst hsz
  have hD := hD0.self (sz := s.heap.size)
  have hAN := x_AN hD0 hN0
  generalize hAe : va_A [(h0, .inr (6, fs)), (m_variables, .inl (ar 0, 6, .inl (fun _ => 0)))] s.heap.size = A at hD hAN ⊢
  have hA : ∀ q : Nat, s.heap.size ≤ q → A q := fun q h => by rw [← hAe]; exact Or.inr h
  have hS : va_S A s.heap s.heap [] := va_S.rf
  have hP : va_P (dC, dI) x_cl [(h0, .inr (6, fs)), (m_variables, .inl (ar 0, 6, .inl (fun _ => 0)))] s.heap := hP
  have hl := lv_entry ([.ref h0, .int v]) (n := 2) (Nat.le_of_ble_eq_true rfl)
  rw [lg_entry_eq]
  generalize (lg_sl ([.ref h0, .int v]) ++ List.replicate (2 - (lg_sl ([.ref h0, .int v])).length) Slot.unset).toArray = ls at hl ⊢
  have hl : lv_has ls 2 [(0, .ref h0), (1, .int v)] := hl
  have hH0 : s.heap.size ≤ s.heap.size := Nat.le_refl _
  refine lv_aload_n hx hb d_Mo_variable_0 rfl (lv_at hl 0 rfl) ?_
  refine lv_iload_n hx hb d_Mo_variable_1 rfl (lv_at hl 1 rfl) ?_
  refine lv_iconst (v := 0) hx hb d_Mo_variable_2 (by decide) ?_
  refine lv_iconst (v := 5) hx hb d_Mo_variable_3 (by decide) ?_
  have hPc := hP.sub (ws' := []) [] rfl
  have hDc := hD.sub (ws' := []) [] (by decide) rfl
  have hFc := va_free (wc := []) hD hS hA [] rfl
  refine va_calli (va_runS (As := [.int v, .int 0, .int 5]) (rest := [.ref h0]) ⟨hx, hb, hml, hown, hts⟩ (c_Mo_in l dC dI ar N0 z (v) 0 5 s.heap.size) (cwS 3 hts (x_goodS k_1113 k_1114 k_9 k_1115) rfl rfl rfl (by decide +kernel) ⟨Nat.le_of_ble_eq_true rfl, Nat.le_of_ble_eq_true rfl⟩) ⟨x_blind, fun U hU9 hW => x_pre hU9 hW hPc hDc hU hZ hS hAN hN0⟩ rfl rfl hl.1 rfl (lv_room (Nat.le_of_ble_eq_true rfl)) d_Mo_variable_4 ⟨Nat.le_of_ble_eq_true rfl, Nat.le_of_ble_eq_true rfl⟩) hS (fun q _ h => hFc q h) hFc (fun r1 u2 t H1 locs ht hvm hw hB hz1 hk1 hS => ?_)
  obtain ⟨hP1, hD1⟩ := hB
  rw [ht] at hP1
  obtain ⟨hP, hD⟩ := va_join (wr := [(h0, .inr (6, fs)), (m_variables, .inl (ar 0, 6, .inl (fun _ => 0)))]) (w1 := []) hP hD [] [0, 1] rfl rfl (by decide) (by decide) hk1 hFc hP1 hD1
  generalize H1 = H at hP hS ⊢
  have hP : va_P (dC, dI) x_cl [(h0, .inr (6, fs)), (m_variables, .inl (ar 0, 6, .inl (fun _ => 0)))] H := hP
  have hD : va_D A [(h0, .inr (6, fs)), (m_variables, .inl (ar 0, 6, .inl (fun _ => 0)))] := hD
  refine W.widen (k := 0) (n := 0) (Nat.le_of_ble_eq_true rfl) (Nat.le_of_ble_eq_true rfl) ?_
  rcases hw with ⟨i3, i3', rfl⟩ | ⟨i3, rfl⟩
  · have i3 := i3
    have hPc := hP.sub (ws' := [(h0, .inr (6, fs))]) [0] rfl
    have hDc := hD.sub (ws' := [(h0, .inr (6, fs))]) [0] (by decide) rfl
    have hFc := va_free (wc := [(h0, .inr (6, fs))]) hD hS hA [0] rfl
    refine va_calli (va_runV (As := [.int 1]) (rest := []) ⟨hx, hb, hml, hown, hts⟩ (c_Mo_bad l dC dI ar N0 z h0 fs (1) H.size (by first | exact hfs | (simp; exact hfs))) (cwV 1 hts (x_goodV k_1116 k_1118 kp_48 k_9 k_1119) rfl rfl rfl (by decide +kernel) ⟨Nat.le_of_ble_eq_true rfl, Nat.le_of_ble_eq_true rfl⟩) ⟨x_blind, va_recv hK hPc (ci := 6) (q0 := 0) rfl rfl, fun U hU9 hW => x_pre hU9 hW hPc hDc hU hZ hS hAN hN0⟩ rfl rfl hl.1 rfl (lv_room (Nat.le_of_ble_eq_true rfl)) d_Mo_variable_7 ⟨Nat.le_of_ble_eq_true rfl, Nat.le_of_ble_eq_true rfl⟩) hS (fun q _ h => hFc q h) hFc (fun r4 u5 t H1 locs ht hvm hw hB hz1 hk1 hS => ?_)
    obtain ⟨hP1, hD1⟩ := hB
    rw [ht] at hP1
    obtain ⟨hP, hD⟩ := va_join (wr := [(m_variables, .inl (ar 0, 6, .inl (fun _ => 0)))]) (w1 := [(h0, .inr (6, (fs.set 33 (.int u5))))]) hP hD [0] [1] rfl rfl (by decide) (by decide) hk1 hFc hP1 hD1
    generalize H1 = H at hP hS ⊢
    have hP : va_P (dC, dI) x_cl [(m_variables, .inl (ar 0, 6, .inl (fun _ => 0))), (h0, .inr (6, (fs.set 33 (.int u5))))] H := hP
    have hD : va_D A [(m_variables, .inl (ar 0, 6, .inl (fun _ => 0))), (h0, .inr (6, (fs.set 33 (.int u5))))] := hD
    refine W.widen (k := 0) (n := 0) (Nat.le_of_ble_eq_true rfl) (Nat.le_of_ble_eq_true rfl) ?_
    rcases hw with ⟨h9, rfl, rfl⟩ | ⟨h9, rfl, rfl⟩
    · exact absurd h9 (by decide)
    · refine lv_if_eq (tgt := 15) hx hb d_Mo_variable_10 (by decide) (fun _ => ?_) (fun c6 => absurd (by decide) c6)
      refine lv_aload_n hx hb d_Mo_variable_15 rfl (lv_at hl 0 rfl) ?_
      refine va_get (D := (dC, dI)) (ci := 6) (v := .ref m_variables) (C := "ChannelMachineModel") (T := F_Mo) (N := 45) hx hb hts i_Mo hown hK hP 1 rfl rfl 3 (by decide) (hts _ k_970) (fun _ h9 => h9) (x_gs (by decide) g_variables) d_Mo_variable_16 ?_
      refine lv_iload_n hx hb d_Mo_variable_19 rfl (lv_at hl 1 rfl) ?_
      refine va_iald hx hb hK hP 0 0 rfl rfl (x_in5 i3 i3') d_Mo_variable_20 ?_
      refine W.widen (k := 0) (n := 0) (Nat.le_of_ble_eq_true rfl) (Nat.le_of_ble_eq_true rfl) ?_
      exact W.iret (v := 0) hx hb hr (fun t ht hW => ⟨⟨0, 0, rfl, Or.inl ⟨⟨i3, i3'⟩, rfl, rfl⟩, ⟨(fs.set 33 (.int 0)), by rw [ht]; exact hP.sub (ws' := [(h0, .inr (6, (fs.set 33 (.int 0))))]) [1] rfl, hD.sub (ws' := [(h0, .inr (6, (fs.set 33 (.int 0))))]) [1] (by decide) rfl, (x_ge (by first | omega | (simp; omega)))⟩⟩, hS.F ht⟩) hS.2.2 d_Mo_variable_21
  · have i3 := i3
    have hPc := hP.sub (ws' := [(h0, .inr (6, fs))]) [0] rfl
    have hDc := hD.sub (ws' := [(h0, .inr (6, fs))]) [0] (by decide) rfl
    have hFc := va_free (wc := [(h0, .inr (6, fs))]) hD hS hA [0] rfl
    refine va_calli (va_runV (As := [.int 0]) (rest := []) ⟨hx, hb, hml, hown, hts⟩ (c_Mo_bad l dC dI ar N0 z h0 fs (0) H.size (by first | exact hfs | (simp; exact hfs))) (cwV 1 hts (x_goodV k_1116 k_1118 kp_48 k_9 k_1119) rfl rfl rfl (by decide +kernel) ⟨Nat.le_of_ble_eq_true rfl, Nat.le_of_ble_eq_true rfl⟩) ⟨x_blind, va_recv hK hPc (ci := 6) (q0 := 0) rfl rfl, fun U hU9 hW => x_pre hU9 hW hPc hDc hU hZ hS hAN hN0⟩ rfl rfl hl.1 rfl (lv_room (Nat.le_of_ble_eq_true rfl)) d_Mo_variable_7 ⟨Nat.le_of_ble_eq_true rfl, Nat.le_of_ble_eq_true rfl⟩) hS (fun q _ h => hFc q h) hFc (fun r7 u8 t H1 locs ht hvm hw hB hz1 hk1 hS => ?_)
    obtain ⟨hP1, hD1⟩ := hB
    rw [ht] at hP1
    obtain ⟨hP, hD⟩ := va_join (wr := [(m_variables, .inl (ar 0, 6, .inl (fun _ => 0)))]) (w1 := [(h0, .inr (6, (fs.set 33 (.int u8))))]) hP hD [0] [1] rfl rfl (by decide) (by decide) hk1 hFc hP1 hD1
    generalize H1 = H at hP hS ⊢
    have hP : va_P (dC, dI) x_cl [(m_variables, .inl (ar 0, 6, .inl (fun _ => 0))), (h0, .inr (6, (fs.set 33 (.int u8))))] H := hP
    have hD : va_D A [(m_variables, .inl (ar 0, 6, .inl (fun _ => 0))), (h0, .inr (6, (fs.set 33 (.int u8))))] := hD
    refine W.widen (k := 0) (n := 0) (Nat.le_of_ble_eq_true rfl) (Nat.le_of_ble_eq_true rfl) ?_
    rcases hw with ⟨h9, rfl, rfl⟩ | ⟨h9, rfl, rfl⟩
    · refine lv_if_eq (tgt := 15) hx hb d_Mo_variable_10 (by decide) (fun c9 => absurd c9 (by decide)) (fun _ => ?_)
      refine lv_iconst (v := 0) hx hb d_Mo_variable_13 (by decide) ?_
      refine W.widen (k := 0) (n := 0) (Nat.le_of_ble_eq_true rfl) (Nat.le_of_ble_eq_true rfl) ?_
      exact W.iret (v := 0) hx hb hr (fun t ht hW => ⟨⟨0, 1, rfl, Or.inr ⟨i3, rfl⟩, ⟨(fs.set 33 (.int 1)), by rw [ht]; exact hP.sub (ws' := [(h0, .inr (6, (fs.set 33 (.int 1))))]) [1] rfl, hD.sub (ws' := [(h0, .inr (6, (fs.set 33 (.int 1))))]) [1] (by decide) rfl, (x_ge (by first | omega | (simp; omega)))⟩⟩, hS.F ht⟩) hS.2.2 d_Mo_variable_14
    · exact absurd rfl h9
set_option maxHeartbeats 4000000 in
set_option maxRecDepth 100000 in
theorem c_Mo_set (l : Launch) (dC : Nat → ClassId) (dI : Nat → Nat → Nat) (ar : Nat → ClassId) (N0 : Nat) (z : Nat → Nat) (h0 m_variables : Nat) (fs : List Value) (v x : Int32) (sz : Nat) (hfs : fs.length = 45) (g_variables : fs[3]? = some (.ref m_variables)) : Met l ({ cls := "ChannelMachineModel", name := "set", desc := "(II)V" } : Jvm.MethodName) ((Jvm.Cond.code ({ cls := "ChannelMachineModel", name := "set", desc := "(II)V" } : Jvm.MethodName) prog_12_method_46_code (3 : Nat) (Option.none : Option Jvm.ClassFile.FieldType)) :: x_T) ({ frames := 1, cells := 0, slots := 0, locals := 22 }) (x_Pc (dC, dI) ar N0 z [(h0, .inr (6, fs)), (m_variables, .inl (ar 0, 6, .inl (fun _ => 0)))] sz [.ref h0, .int v, .int x]) (va_Qv (fun (u : Int32) => ((¬ v < 0 ∧ ¬ 5 < v) ∧ u = 0) ∨ ((v < 0 ∨ 5 < v) ∧ u = 1)) (fun u t => ∃ fz : List Value, va_P (dC, dI) x_cl [(h0, .inr (6, fz))] t.heap ∧ va_D (va_A [(h0, .inr (6, fs)), (m_variables, .inl (ar 0, 6, .inl (fun _ => 0)))] sz) [(h0, .inr (6, fz))] ∧ fz[33]? = some (.int u)) (va_A [(h0, .inr (6, fs)), (m_variables, .inl (ar 0, 6, .inl (fun _ => 0)))] sz)) 0 0 (va_A [(h0, .inr (6, fs)), (m_variables, .inl (ar 0, 6, .inl (fun _ => 0)))] sz) := by
  refine Met.ofW (cc := prog_12_method_46_code) (maxL := 3) (ret := none) (by decide) rfl ?_
  intro p e s m args below meth c s₁ B hml hv
  obtain ⟨rfl, hsz, hN0, hP, hU, hZ, hD0⟩ := hv
  have hK := hU.1
  have hx := B.exec
  have hb := B.bytes
  have hr := B.returns
  have hts : ∀ w ∈ x_T, w.before ([.ref h0, .int v, .int x] : List Value).toArray s = true := fun w h => atoms_spec (ws := (Jvm.Cond.code ({ cls := "ChannelMachineModel", name := "set", desc := "(II)V" } : Jvm.MethodName) prog_12_method_46_code (3 : Nat) (Option.none : Option Jvm.ClassFile.FieldType)) :: x_T) B.pre w (List.mem_cons_of_mem _ h)
  have hown : s.vm.findClass "ChannelMachineModel" = some m.cls := findClass_of_methodNamed B.named
  have hlocks := B.notSynchronized
  subst hsz
  have hD := hD0.self (sz := s.heap.size)
  have hAN := x_AN hD0 hN0
  generalize hAe : va_A [(h0, .inr (6, fs)), (m_variables, .inl (ar 0, 6, .inl (fun _ => 0)))] s.heap.size = A at hD hAN ⊢
  have hA : ∀ q : Nat, s.heap.size ≤ q → A q := fun q h => by rw [← hAe]; exact Or.inr h
  have hS : va_S A s.heap s.heap [] := va_S.rf
  have hP : va_P (dC, dI) x_cl [(h0, .inr (6, fs)), (m_variables, .inl (ar 0, 6, .inl (fun _ => 0)))] s.heap := hP
  have hl := lv_entry ([.ref h0, .int v, .int x]) (n := 3) (Nat.le_of_ble_eq_true rfl)
  rw [lg_entry_eq]
  generalize (lg_sl ([.ref h0, .int v, .int x]) ++ List.replicate (3 - (lg_sl ([.ref h0, .int v, .int x])).length) Slot.unset).toArray = ls at hl ⊢
  have hl : lv_has ls 3 [(0, .ref h0), (1, .int v), (2, .int x)] := hl
  have hH0 : s.heap.size ≤ s.heap.size := Nat.le_refl _
  refine lv_aload_n hx hb d_Mo_set_0 rfl (lv_at hl 0 rfl) ?_
  refine lv_iload_n hx hb d_Mo_set_1 rfl (lv_at hl 1 rfl) ?_
  refine lv_iconst (v := 0) hx hb d_Mo_set_2 (by decide) ?_
  refine lv_iconst (v := 5) hx hb d_Mo_set_3 (by decide) ?_
  have hPc := hP.sub (ws' := []) [] rfl
  have hDc := hD.sub (ws' := []) [] (by decide) rfl
  have hFc := va_free (wc := []) hD hS hA [] rfl
  refine va_calli (va_runS (As := [.int v, .int 0, .int 5]) (rest := [.ref h0]) ⟨hx, hb, hml, hown, hts⟩ (c_Mo_in l dC dI ar N0 z (v) 0 5 s.heap.size) (cwS 3 hts (x_goodS k_1113 k_1114 k_9 k_1115) rfl rfl rfl (by decide +kernel) ⟨Nat.le_of_ble_eq_true rfl, Nat.le_of_ble_eq_true rfl⟩) ⟨x_blind, fun U hU9 hW => x_pre hU9 hW hPc hDc hU hZ hS hAN hN0⟩ rfl rfl hl.1 rfl (lv_room (Nat.le_of_ble_eq_true rfl)) d_Mo_set_4 ⟨Nat.le_of_ble_eq_true rfl, Nat.le_of_ble_eq_true rfl⟩) hS (fun q _ h => hFc q h) hFc (fun r1 u2 t H1 locs ht hvm hw hB hz1 hk1 hS => ?_)
  obtain ⟨hP1, hD1⟩ := hB
  rw [ht] at hP1
  obtain ⟨hP, hD⟩ := va_join (wr := [(h0, .inr (6, fs)), (m_variables, .inl (ar 0, 6, .inl (fun _ => 0)))]) (w1 := []) hP hD [] [0, 1] rfl rfl (by decide) (by decide) hk1 hFc hP1 hD1
  generalize H1 = H at hP hS ⊢
  have hP : va_P (dC, dI) x_cl [(h0, .inr (6, fs)), (m_variables, .inl (ar 0, 6, .inl (fun _ => 0)))] H := hP
  have hD : va_D A [(h0, .inr (6, fs)), (m_variables, .inl (ar 0, 6, .inl (fun _ => 0)))] := hD
  refine W.widen (k := 0) (n := 0) (Nat.le_of_ble_eq_true rfl) (Nat.le_of_ble_eq_true rfl) ?_
  rcases hw with ⟨i3, i3', rfl⟩ | ⟨i3, rfl⟩
  · have i3 := i3
    have hPc := hP.sub (ws' := [(h0, .inr (6, fs))]) [0] rfl
    have hDc := hD.sub (ws' := [(h0, .inr (6, fs))]) [0] (by decide) rfl
    have hFc := va_free (wc := [(h0, .inr (6, fs))]) hD hS hA [0] rfl
    refine va_calli (va_runV (As := [.int 1]) (rest := []) ⟨hx, hb, hml, hown, hts⟩ (c_Mo_bad l dC dI ar N0 z h0 fs (1) H.size (by first | exact hfs | (simp; exact hfs))) (cwV 1 hts (x_goodV k_1116 k_1118 kp_48 k_9 k_1119) rfl rfl rfl (by decide +kernel) ⟨Nat.le_of_ble_eq_true rfl, Nat.le_of_ble_eq_true rfl⟩) ⟨x_blind, va_recv hK hPc (ci := 6) (q0 := 0) rfl rfl, fun U hU9 hW => x_pre hU9 hW hPc hDc hU hZ hS hAN hN0⟩ rfl rfl hl.1 rfl (lv_room (Nat.le_of_ble_eq_true rfl)) d_Mo_set_7 ⟨Nat.le_of_ble_eq_true rfl, Nat.le_of_ble_eq_true rfl⟩) hS (fun q _ h => hFc q h) hFc (fun r4 u5 t H1 locs ht hvm hw hB hz1 hk1 hS => ?_)
    obtain ⟨hP1, hD1⟩ := hB
    rw [ht] at hP1
    obtain ⟨hP, hD⟩ := va_join (wr := [(m_variables, .inl (ar 0, 6, .inl (fun _ => 0)))]) (w1 := [(h0, .inr (6, (fs.set 33 (.int u5))))]) hP hD [0] [1] rfl rfl (by decide) (by decide) hk1 hFc hP1 hD1
    generalize H1 = H at hP hS ⊢
    have hP : va_P (dC, dI) x_cl [(m_variables, .inl (ar 0, 6, .inl (fun _ => 0))), (h0, .inr (6, (fs.set 33 (.int u5))))] H := hP
    have hD : va_D A [(m_variables, .inl (ar 0, 6, .inl (fun _ => 0))), (h0, .inr (6, (fs.set 33 (.int u5))))] := hD
    refine W.widen (k := 0) (n := 0) (Nat.le_of_ble_eq_true rfl) (Nat.le_of_ble_eq_true rfl) ?_
    rcases hw with ⟨h9, rfl, rfl⟩ | ⟨h9, rfl, rfl⟩
    · exact absurd h9 (by decide)
    · refine lv_if_eq (tgt := 14) hx hb d_Mo_set_10 (by decide) (fun _ => ?_) (fun c6 => absurd (by decide) c6)
      refine lv_aload_n hx hb d_Mo_set_14 rfl (lv_at hl 0 rfl) ?_
      refine va_get (D := (dC, dI)) (ci := 6) (v := .ref m_variables) (C := "ChannelMachineModel") (T := F_Mo) (N := 45) hx hb hts i_Mo hown hK hP 1 rfl rfl 3 (by decide) (hts _ k_970) (fun _ h9 => h9) (x_gs (by decide) g_variables) d_Mo_set_15 ?_
      refine lv_iload_n hx hb d_Mo_set_18 rfl (lv_at hl 1 rfl) ?_
      refine lv_iload_n hx hb d_Mo_set_19 rfl (lv_at hl 2 rfl) ?_
      refine va_iast hx hb hK hP hD hS 0 0 rfl rfl (i := v) (x := x) (x_in5 i3 i3') d_Mo_set_20 (fun H locs hP hD hS => ?_)
      have hP : va_P (dC, dI) x_cl [(m_variables, .inl (ar 0, 6, .inl (upd (fun _ => 0) (Int32.toNatClampNeg v) x))), (h0, .inr (6, (fs.set 33 (.int 0))))] H := hP
      have hD : va_D A [(m_variables, .inl (ar 0, 6, .inl (upd (fun _ => 0) (Int32.toNatClampNeg v) x))), (h0, .inr (6, (fs.set 33 (.int 0))))] := hD
      refine W.widen (k := 0) (n := 0) (Nat.le_of_ble_eq_true rfl) (Nat.le_of_ble_eq_true rfl) ?_
      exact W.vret hx hb hr (fun t ht hW => ⟨⟨0, rfl, Or.inl ⟨⟨i3, i3'⟩, rfl⟩, ⟨(fs.set 33 (.int 0)), by rw [ht]; exact hP.sub (ws' := [(h0, .inr (6, (fs.set 33 (.int 0))))]) [1] rfl, hD.sub (ws' := [(h0, .inr (6, (fs.set 33 (.int 0))))]) [1] (by decide) rfl, (x_ge (by first | omega | (simp; omega)))⟩⟩, hS.F ht⟩) hS.2.2 d_Mo_set_21
  · have i3 := i3
    have hPc := hP.sub (ws' := [(h0, .inr (6, fs))]) [0] rfl
    have hDc := hD.sub (ws' := [(h0, .inr (6, fs))]) [0] (by decide) rfl
    have hFc := va_free (wc := [(h0, .inr (6, fs))]) hD hS hA [0] rfl
    refine va_calli (va_runV (As := [.int 0]) (rest := []) ⟨hx, hb, hml, hown, hts⟩ (c_Mo_bad l dC dI ar N0 z h0 fs (0) H.size (by first | exact hfs | (simp; exact hfs))) (cwV 1 hts (x_goodV k_1116 k_1118 kp_48 k_9 k_1119) rfl rfl rfl (by decide +kernel) ⟨Nat.le_of_ble_eq_true rfl, Nat.le_of_ble_eq_true rfl⟩) ⟨x_blind, va_recv hK hPc (ci := 6) (q0 := 0) rfl rfl, fun U hU9 hW => x_pre hU9 hW hPc hDc hU hZ hS hAN hN0⟩ rfl rfl hl.1 rfl (lv_room (Nat.le_of_ble_eq_true rfl)) d_Mo_set_7 ⟨Nat.le_of_ble_eq_true rfl, Nat.le_of_ble_eq_true rfl⟩) hS (fun q _ h => hFc q h) hFc (fun r7 u8 t H1 locs ht hvm hw hB hz1 hk1 hS => ?_)
    obtain ⟨hP1, hD1⟩ := hB
    rw [ht] at hP1
    obtain ⟨hP, hD⟩ := va_join (wr := [(m_variables, .inl (ar 0, 6, .inl (fun _ => 0)))]) (w1 := [(h0, .inr (6, (fs.set 33 (.int u8))))]) hP hD [0] [1] rfl rfl (by decide) (by decide) hk1 hFc hP1 hD1
    generalize H1 = H at hP hS ⊢
    have hP : va_P (dC, dI) x_cl [(m_variables, .inl (ar 0, 6, .inl (fun _ => 0))), (h0, .inr (6, (fs.set 33 (.int u8))))] H := hP
    have hD : va_D A [(m_variables, .inl (ar 0, 6, .inl (fun _ => 0))), (h0, .inr (6, (fs.set 33 (.int u8))))] := hD
    refine W.widen (k := 0) (n := 0) (Nat.le_of_ble_eq_true rfl) (Nat.le_of_ble_eq_true rfl) ?_
    rcases hw with ⟨h9, rfl, rfl⟩ | ⟨h9, rfl, rfl⟩
    · refine lv_if_eq (tgt := 14) hx hb d_Mo_set_10 (by decide) (fun c9 => absurd c9 (by decide)) (fun _ => ?_)
      refine W.widen (k := 0) (n := 0) (Nat.le_of_ble_eq_true rfl) (Nat.le_of_ble_eq_true rfl) ?_
      exact W.vret hx hb hr (fun t ht hW => ⟨⟨1, rfl, Or.inr ⟨i3, rfl⟩, ⟨(fs.set 33 (.int 1)), by rw [ht]; exact hP.sub (ws' := [(h0, .inr (6, (fs.set 33 (.int 1))))]) [1] rfl, hD.sub (ws' := [(h0, .inr (6, (fs.set 33 (.int 1))))]) [1] (by decide) rfl, (x_ge (by first | omega | (simp; omega)))⟩⟩, hS.F ht⟩) hS.2.2 d_Mo_set_13
    · exact absurd rfl h9
set_option maxHeartbeats 4000000 in
set_option maxRecDepth 100000 in
theorem c_Mo_channel (l : Launch) (dC : Nat → ClassId) (dI : Nat → Nat → Nat) (ar : Nat → ClassId) (N0 : Nat) (z : Nat → Nat) (h0 : Nat) (fs : List Value) (v : Int32) (sz : Nat) (hfs : fs.length = 45) (g_status : fs[9]? = some (.int 0)) : Met l ({ cls := "ChannelMachineModel", name := "channel", desc := "(I)I" } : Jvm.MethodName) ((Jvm.Cond.code ({ cls := "ChannelMachineModel", name := "channel", desc := "(I)I" } : Jvm.MethodName) prog_12_method_47_code (2 : Nat) (Option.some Jvm.ClassFile.FieldType.int)) :: x_T) ({ frames := 1, cells := 0, slots := 0, locals := 22 }) (x_Pc (dC, dI) ar N0 z [(h0, .inr (6, fs))] sz [.ref h0, .int v]) (va_Qi (fun (r : Int32) (u : Int32) => ((¬ v < 0 ∧ ¬ 5 < v) ∧ r = 0 ∧ u = 0) ∨ ((v < 0 ∨ 5 < v) ∧ u = 1)) (fun u t => ∃ fz : List Value, va_P (dC, dI) x_cl [(h0, .inr (6, fz))] t.heap ∧ va_D (va_A [(h0, .inr (6, fs))] sz) [(h0, .inr (6, fz))] ∧ fz[33]? = some (.int u)) (va_A [(h0, .inr (6, fs))] sz)) 0 0 (va_A [(h0, .inr (6, fs))] sz) := by
  refine Met.ofW (cc := prog_12_method_47_code) (maxL := 2) (ret := (some .int)) (by decide) rfl ?_
  intro p e s m args below meth c s₁ B hml hv
  obtain ⟨rfl, hsz, hN0, hP, hU, hZ, hD0⟩ := hv
  have hK := hU.1
  have hx := B.exec
  have hb := B.bytes
  have hr := B.returns
  have hts : ∀ w ∈ x_T, w.before ([.ref h0, .int v] : List Value).toArray s = true := fun w h => atoms_spec (ws := (Jvm.Cond.code ({ cls := "ChannelMachineModel", name := "channel", desc := "(I)I" } : Jvm.MethodName) prog_12_method_47_code (2 : Nat) (Option.some Jvm.ClassFile.FieldType.int)) :: x_T) B.pre w (List.mem_cons_of_mem _ h)
  have hown : s.vm.findClass "ChannelMachineModel" = some m.cls := findClass_of_methodNamed B.named
  have hlocks := B.notSynchronized
  subst hsz
  have hD := hD0.self (sz := s.heap.size)
  have hAN := x_AN hD0 hN0
  generalize hAe : va_A [(h0, .inr (6, fs))] s.heap.size = A at hD hAN ⊢
  have hA : ∀ q : Nat, s.heap.size ≤ q → A q := fun q h => by rw [← hAe]; exact Or.inr h
  have hS : va_S A s.heap s.heap [] := va_S.rf
  have hP : va_P (dC, dI) x_cl [(h0, .inr (6, fs))] s.heap := hP
  have hl := lv_entry ([.ref h0, .int v]) (n := 2) (Nat.le_of_ble_eq_true rfl)
  rw [lg_entry_eq]
  generalize (lg_sl ([.ref h0, .int v]) ++ List.replicate (2 - (lg_sl ([.ref h0, .int v])).length) Slot.unset).toArray = ls at hl ⊢
  have hl : lv_has ls 2 [(0, .ref h0), (1, .int v)] := hl
  have hH0 : s.heap.size ≤ s.heap.size := Nat.le_refl _
  refine lv_aload_n hx hb d_Mo_channel_0 rfl (lv_at hl 0 rfl) ?_
  refine lv_iload_n hx hb d_Mo_channel_1 rfl (lv_at hl 1 rfl) ?_
  refine lv_iconst (v := 0) hx hb d_Mo_channel_2 (by decide) ?_
  refine lv_iconst (v := 5) hx hb d_Mo_channel_3 (by decide) ?_
  have hPc := hP.sub (ws' := []) [] rfl
  have hDc := hD.sub (ws' := []) [] (by decide) rfl
  have hFc := va_free (wc := []) hD hS hA [] rfl
  refine va_calli (va_runS (As := [.int v, .int 0, .int 5]) (rest := [.ref h0]) ⟨hx, hb, hml, hown, hts⟩ (c_Mo_in l dC dI ar N0 z (v) 0 5 s.heap.size) (cwS 3 hts (x_goodS k_1113 k_1114 k_9 k_1115) rfl rfl rfl (by decide +kernel) ⟨Nat.le_of_ble_eq_true rfl, Nat.le_of_ble_eq_true rfl⟩) ⟨x_blind, fun U hU9 hW => x_pre hU9 hW hPc hDc hU hZ hS hAN hN0⟩ rfl rfl hl.1 rfl (lv_room (Nat.le_of_ble_eq_true rfl)) d_Mo_channel_4 ⟨Nat.le_of_ble_eq_true rfl, Nat.le_of_ble_eq_true rfl⟩) hS (fun q _ h => hFc q h) hFc (fun r1 u2 t H1 locs ht hvm hw hB hz1 hk1 hS => ?_)
  obtain ⟨hP1, hD1⟩ := hB
  rw [ht] at hP1
  obtain ⟨hP, hD⟩ := va_join (wr := [(h0, .inr (6, fs))]) (w1 := []) hP hD [] [0] rfl rfl (by decide) (by decide) hk1 hFc hP1 hD1
  generalize H1 = H at hP hS ⊢
  have hP : va_P (dC, dI) x_cl [(h0, .inr (6, fs))] H := hP
  have hD : va_D A [(h0, .inr (6, fs))] := hD
  refine W.widen (k := 0) (n := 0) (Nat.le_of_ble_eq_true rfl) (Nat.le_of_ble_eq_true rfl) ?_
  rcases hw with ⟨i3, i3', rfl⟩ | ⟨i3, rfl⟩
  · have i3 := i3
    have hPc := hP.sub (ws' := [(h0, .inr (6, fs))]) [0] rfl
    have hDc := hD.sub (ws' := [(h0, .inr (6, fs))]) [0] (by decide) rfl
    have hFc := va_free (wc := [(h0, .inr (6, fs))]) hD hS hA [0] rfl
    refine va_calli (va_runV (As := [.int 1]) (rest := []) ⟨hx, hb, hml, hown, hts⟩ (c_Mo_bad l dC dI ar N0 z h0 fs (1) H.size (by first | exact hfs | (simp; exact hfs))) (cwV 1 hts (x_goodV k_1116 k_1118 kp_48 k_9 k_1119) rfl rfl rfl (by decide +kernel) ⟨Nat.le_of_ble_eq_true rfl, Nat.le_of_ble_eq_true rfl⟩) ⟨x_blind, va_recv hK hPc (ci := 6) (q0 := 0) rfl rfl, fun U hU9 hW => x_pre hU9 hW hPc hDc hU hZ hS hAN hN0⟩ rfl rfl hl.1 rfl (lv_room (Nat.le_of_ble_eq_true rfl)) d_Mo_channel_7 ⟨Nat.le_of_ble_eq_true rfl, Nat.le_of_ble_eq_true rfl⟩) hS (fun q _ h => hFc q h) hFc (fun r4 u5 t H1 locs ht hvm hw hB hz1 hk1 hS => ?_)
    obtain ⟨hP1, hD1⟩ := hB
    rw [ht] at hP1
    obtain ⟨hP, hD⟩ := va_join (wr := []) (w1 := [(h0, .inr (6, (fs.set 33 (.int u5))))]) hP hD [0] [] rfl rfl (by decide) (by decide) hk1 hFc hP1 hD1
    generalize H1 = H at hP hS ⊢
    have hP : va_P (dC, dI) x_cl [(h0, .inr (6, (fs.set 33 (.int u5))))] H := hP
    have hD : va_D A [(h0, .inr (6, (fs.set 33 (.int u5))))] := hD
    refine W.widen (k := 0) (n := 0) (Nat.le_of_ble_eq_true rfl) (Nat.le_of_ble_eq_true rfl) ?_
    rcases hw with ⟨h9, rfl, rfl⟩ | ⟨h9, rfl, rfl⟩
    · exact absurd h9 (by decide)
    · refine lv_if_ne (tgt := 21) hx hb d_Mo_channel_10 (by decide) (fun c6 => absurd rfl c6) (fun _ => ?_)
      refine lv_aload_n hx hb d_Mo_channel_13 rfl (lv_at hl 0 rfl) ?_
      refine va_get (D := (dC, dI)) (ci := 6) (v := .int 0) (C := "ChannelMachineModel") (T := F_Mo) (N := 45) hx hb hts i_Mo hown hK hP 0 rfl rfl 9 (by decide) (hts _ k_976) (fun _ h9 => h9) (x_gs (by decide) g_status) d_Mo_channel_14 ?_
      refine lv_iconst (v := 1) hx hb d_Mo_channel_17 (by decide) ?_
      refine lv_icmp_eq (tgt := 23) hx hb d_Mo_channel_18 (by decide) (fun c7 => absurd c7 (by decide)) (fun _ => ?_)
      refine lv_iconst (v := 0) hx hb d_Mo_channel_21 (by decide) ?_
      refine W.widen (k := 0) (n := 0) (Nat.le_of_ble_eq_true rfl) (Nat.le_of_ble_eq_true rfl) ?_
      exact W.iret (v := 0) hx hb hr (fun t ht hW => ⟨⟨0, 0, rfl, Or.inl ⟨⟨i3, i3'⟩, rfl, rfl⟩, ⟨(fs.set 33 (.int 0)), by rw [ht]; exact hP.sub (ws' := [(h0, .inr (6, (fs.set 33 (.int 0))))]) [0] rfl, hD.sub (ws' := [(h0, .inr (6, (fs.set 33 (.int 0))))]) [0] (by decide) rfl, (x_ge (by first | omega | (simp; omega)))⟩⟩, hS.F ht⟩) hS.2.2 d_Mo_channel_22
  · have i3 := i3
    have hPc := hP.sub (ws' := [(h0, .inr (6, fs))]) [0] rfl
    have hDc := hD.sub (ws' := [(h0, .inr (6, fs))]) [0] (by decide) rfl
    have hFc := va_free (wc := [(h0, .inr (6, fs))]) hD hS hA [0] rfl
    refine va_calli (va_runV (As := [.int 0]) (rest := []) ⟨hx, hb, hml, hown, hts⟩ (c_Mo_bad l dC dI ar N0 z h0 fs (0) H.size (by first | exact hfs | (simp; exact hfs))) (cwV 1 hts (x_goodV k_1116 k_1118 kp_48 k_9 k_1119) rfl rfl rfl (by decide +kernel) ⟨Nat.le_of_ble_eq_true rfl, Nat.le_of_ble_eq_true rfl⟩) ⟨x_blind, va_recv hK hPc (ci := 6) (q0 := 0) rfl rfl, fun U hU9 hW => x_pre hU9 hW hPc hDc hU hZ hS hAN hN0⟩ rfl rfl hl.1 rfl (lv_room (Nat.le_of_ble_eq_true rfl)) d_Mo_channel_7 ⟨Nat.le_of_ble_eq_true rfl, Nat.le_of_ble_eq_true rfl⟩) hS (fun q _ h => hFc q h) hFc (fun r8 u9 t H1 locs ht hvm hw hB hz1 hk1 hS => ?_)
    obtain ⟨hP1, hD1⟩ := hB
    rw [ht] at hP1
    obtain ⟨hP, hD⟩ := va_join (wr := []) (w1 := [(h0, .inr (6, (fs.set 33 (.int u9))))]) hP hD [0] [] rfl rfl (by decide) (by decide) hk1 hFc hP1 hD1
    generalize H1 = H at hP hS ⊢
    have hP : va_P (dC, dI) x_cl [(h0, .inr (6, (fs.set 33 (.int u9))))] H := hP
    have hD : va_D A [(h0, .inr (6, (fs.set 33 (.int u9))))] := hD
    refine W.widen (k := 0) (n := 0) (Nat.le_of_ble_eq_true rfl) (Nat.le_of_ble_eq_true rfl) ?_
    rcases hw with ⟨h9, rfl, rfl⟩ | ⟨h9, rfl, rfl⟩
    · refine lv_if_ne (tgt := 21) hx hb d_Mo_channel_10 (by decide) (fun _ => ?_) (fun c10 => absurd c10 (by decide))
      refine lv_iconst (v := 0) hx hb d_Mo_channel_21 (by decide) ?_
      refine W.widen (k := 0) (n := 0) (Nat.le_of_ble_eq_true rfl) (Nat.le_of_ble_eq_true rfl) ?_
      exact W.iret (v := 0) hx hb hr (fun t ht hW => ⟨⟨0, 1, rfl, Or.inr ⟨i3, rfl⟩, ⟨(fs.set 33 (.int 1)), by rw [ht]; exact hP.sub (ws' := [(h0, .inr (6, (fs.set 33 (.int 1))))]) [0] rfl, hD.sub (ws' := [(h0, .inr (6, (fs.set 33 (.int 1))))]) [0] (by decide) rfl, (x_ge (by first | omega | (simp; omega)))⟩⟩, hS.F ht⟩) hS.2.2 d_Mo_channel_22
    · exact absurd rfl h9
set_option maxHeartbeats 4000000 in
set_option maxRecDepth 100000 in
theorem c_Mo_take (l : Launch) (dC : Nat → ClassId) (dI : Nat → Nat → Nat) (ar : Nat → ClassId) (N0 : Nat) (z : Nat → Nat) (h0 : Nat) (fs : List Value) (sz : Nat) (hfs : fs.length = 45) (g_boxed : fs[43]? = some (.int 0)) : Met l ({ cls := "ChannelMachineModel", name := "take", desc := "()I" } : Jvm.MethodName) ((Jvm.Cond.code ({ cls := "ChannelMachineModel", name := "take", desc := "()I" } : Jvm.MethodName) prog_12_method_44_code (2 : Nat) (Option.some Jvm.ClassFile.FieldType.int)) :: x_T) ({ frames := 1, cells := 0, slots := 0, locals := 21 }) (x_Pc (dC, dI) ar N0 z [(h0, .inr (6, fs))] sz [.ref h0]) (va_Qi (fun (r : Int32) (u : Int32) => u = 1) (fun u t => ∃ fz : List Value, va_P (dC, dI) x_cl [(h0, .inr (6, fz))] t.heap ∧ va_D (va_A [(h0, .inr (6, fs))] sz) [(h0, .inr (6, fz))] ∧ fz[33]? = some (.int u)) (va_A [(h0, .inr (6, fs))] sz)) 0 0 (va_A [(h0, .inr (6, fs))] sz) := by
  refine Met.ofW (cc := prog_12_method_44_code) (maxL := 2) (ret := (some .int)) (by decide) rfl ?_
  intro p e s m args below meth c s₁ B hml hv
  obtain ⟨rfl, hsz, hN0, hP, hU, hZ, hD0⟩ := hv
  have hK := hU.1
  have hx := B.exec
  have hb := B.bytes
  have hr := B.returns
  have hts : ∀ w ∈ x_T, w.before ([.ref h0] : List Value).toArray s = true := fun w h => atoms_spec (ws := (Jvm.Cond.code ({ cls := "ChannelMachineModel", name := "take", desc := "()I" } : Jvm.MethodName) prog_12_method_44_code (2 : Nat) (Option.some Jvm.ClassFile.FieldType.int)) :: x_T) B.pre w (List.mem_cons_of_mem _ h)
  have hown : s.vm.findClass "ChannelMachineModel" = some m.cls := findClass_of_methodNamed B.named
  have hlocks := B.notSynchronized
  subst hsz
  have hD := hD0.self (sz := s.heap.size)
  have hAN := x_AN hD0 hN0
  generalize hAe : va_A [(h0, .inr (6, fs))] s.heap.size = A at hD hAN ⊢
  have hA : ∀ q : Nat, s.heap.size ≤ q → A q := fun q h => by rw [← hAe]; exact Or.inr h
  have hS : va_S A s.heap s.heap [] := va_S.rf
  have hP : va_P (dC, dI) x_cl [(h0, .inr (6, fs))] s.heap := hP
  have hl := lv_entry ([.ref h0]) (n := 2) (Nat.le_of_ble_eq_true rfl)
  rw [lg_entry_eq]
  generalize (lg_sl ([.ref h0]) ++ List.replicate (2 - (lg_sl ([.ref h0])).length) Slot.unset).toArray = ls at hl ⊢
  have hl : lv_has ls 2 [(0, .ref h0)] := hl
  have hH0 : s.heap.size ≤ s.heap.size := Nat.le_refl _
  refine lv_aload_n hx hb d_Mo_take_0 rfl (lv_at hl 0 rfl) ?_
  refine lv_iconst (v := 0) hx hb d_Mo_take_1 (by decide) ?_
  refine va_put (D := (dC, dI)) (ci := 6) (v := .int 0) (ty := .int) (C := "ChannelMachineModel") (T := F_Mo) (N := 45) hx hb hts i_Mo t_Mo t_Mo_ok n_Mo hown hK hP hD hS 0 rfl rfl 33 (by decide) (hts _ k_1000) (fun _ h9 => h9) rfl (by decide +kernel) rfl rfl (by first | omega | (simp; omega)) d_Mo_take_2 (fun H locs hP hD hS => ?_)
  have hP : va_P (dC, dI) x_cl [(h0, .inr (6, (fs.set 33 (.int 0))))] H := hP
  have hD : va_D A [(h0, .inr (6, (fs.set 33 (.int 0))))] := hD
  refine lv_aload_n hx hb d_Mo_take_5 rfl (lv_at hl 0 rfl) ?_
  refine va_get (D := (dC, dI)) (ci := 6) (v := .int 0) (C := "ChannelMachineModel") (T := F_Mo) (N := 45) hx hb hts i_Mo hown hK hP 0 rfl rfl 43 (by decide) (hts _ k_1010) (fun _ h9 => h9) (x_gs (by decide) g_boxed) d_Mo_take_6 ?_
  refine lv_if_ne (tgt := 18) hx hb d_Mo_take_9 (by decide) (fun c1 => absurd rfl c1) (fun _ => ?_)
  refine lv_aload_n hx hb d_Mo_take_12 rfl (lv_at hl 0 rfl) ?_
  refine lv_iconst (v := 1) hx hb d_Mo_take_13 (by decide) ?_
  have hPc := hP.sub (ws' := [(h0, .inr (6, (fs.set 33 (.int 0))))]) [0] rfl
  have hDc := hD.sub (ws' := [(h0, .inr (6, (fs.set 33 (.int 0))))]) [0] (by decide) rfl
  have hFc := va_free (wc := [(h0, .inr (6, (fs.set 33 (.int 0))))]) hD hS hA [0] rfl
  refine va_calli (va_runV (As := [.int 1]) (rest := []) ⟨hx, hb, hml, hown, hts⟩ (c_Mo_fail l dC dI ar N0 z h0 (fs.set 33 (.int 0)) (1) H.size (by first | exact hfs | (simp; exact hfs))) (cwV 1 hts (x_goodV k_1120 k_1122 kp_49 k_9 k_1123) rfl rfl rfl (by decide +kernel) ⟨Nat.le_of_ble_eq_true rfl, Nat.le_of_ble_eq_true rfl⟩) ⟨x_blind, va_recv hK hPc (ci := 6) (q0 := 0) rfl rfl, fun U hU9 hW => x_pre hU9 hW hPc hDc hU hZ hS hAN hN0⟩ rfl rfl hl.1 rfl (lv_room (Nat.le_of_ble_eq_true rfl)) d_Mo_take_14 ⟨Nat.le_of_ble_eq_true rfl, Nat.le_of_ble_eq_true rfl⟩) hS (fun q _ h => hFc q h) hFc (fun r2 u3 t H1 locs ht hvm hw hB hz1 hk1 hS => ?_)
  obtain ⟨hP1, hD1⟩ := hB
  rw [ht] at hP1
  obtain ⟨hP, hD⟩ := va_join (wr := []) (w1 := [(h0, .inr (6, ((fs.set 33 (.int 0)).set 33 (.int u3))))]) hP hD [0] [] rfl rfl (by decide) (by decide) hk1 hFc hP1 hD1
  generalize H1 = H at hP hS ⊢
  have hP : va_P (dC, dI) x_cl [(h0, .inr (6, ((fs.set 33 (.int 0)).set 33 (.int u3))))] H := hP
  have hD : va_D A [(h0, .inr (6, ((fs.set 33 (.int 0)).set 33 (.int u3))))] := hD
  refine W.widen (k := 0) (n := 0) (Nat.le_of_ble_eq_true rfl) (Nat.le_of_ble_eq_true rfl) ?_
  obtain ⟨rfl, rfl⟩ := hw
  refine W.widen (k := 0) (n := 0) (Nat.le_of_ble_eq_true rfl) (Nat.le_of_ble_eq_true rfl) ?_
  exact W.iret (v := 0) hx hb hr (fun t ht hW => ⟨⟨0, 1, rfl, rfl, ⟨((fs.set 33 (.int 0)).set 33 (.int 1)), by rw [ht]; exact hP.sub (ws' := [(h0, .inr (6, ((fs.set 33 (.int 0)).set 33 (.int 1))))]) [0] rfl, hD.sub (ws' := [(h0, .inr (6, ((fs.set 33 (.int 0)).set 33 (.int 1))))]) [0] (by decide) rfl, (x_ge (by first | omega | (simp; omega)))⟩⟩, hS.F ht⟩) hS.2.2 d_Mo_take_17
set_option maxHeartbeats 4000000 in
set_option maxRecDepth 100000 in
theorem c_Mo_give (l : Launch) (dC : Nat → ClassId) (dI : Nat → Nat → Nat) (ar : Nat → ClassId) (N0 : Nat) (z : Nat → Nat) (h0 : Nat) (fs : List Value) (x : Int32) (sz : Nat) (hfs : fs.length = 45) (g_status : fs[9]? = some (.int 0)) : Met l ({ cls := "ChannelMachineModel", name := "give", desc := "(I)I" } : Jvm.MethodName) ((Jvm.Cond.code ({ cls := "ChannelMachineModel", name := "give", desc := "(I)I" } : Jvm.MethodName) prog_12_method_43_code (2 : Nat) (Option.some Jvm.ClassFile.FieldType.int)) :: x_T) ({ frames := 1, cells := 0, slots := 0, locals := 21 }) (x_Pc (dC, dI) ar N0 z [(h0, .inr (6, fs))] sz [.ref h0, .int x]) (va_Qi (fun (r : Int32) (u : Int32) => u = 1) (fun u t => ∃ fz : List Value, va_P (dC, dI) x_cl [(h0, .inr (6, fz))] t.heap ∧ va_D (va_A [(h0, .inr (6, fs))] sz) [(h0, .inr (6, fz))] ∧ fz[33]? = some (.int u)) (va_A [(h0, .inr (6, fs))] sz)) 0 0 (va_A [(h0, .inr (6, fs))] sz) := by
  refine Met.ofW (cc := prog_12_method_43_code) (maxL := 2) (ret := (some .int)) (by decide) rfl ?_
  intro p e s m args below meth c s₁ B hml hv
  obtain ⟨rfl, hsz, hN0, hP, hU, hZ, hD0⟩ := hv
  have hK := hU.1
  have hx := B.exec
  have hb := B.bytes
  have hr := B.returns
  have hts : ∀ w ∈ x_T, w.before ([.ref h0, .int x] : List Value).toArray s = true := fun w h => atoms_spec (ws := (Jvm.Cond.code ({ cls := "ChannelMachineModel", name := "give", desc := "(I)I" } : Jvm.MethodName) prog_12_method_43_code (2 : Nat) (Option.some Jvm.ClassFile.FieldType.int)) :: x_T) B.pre w (List.mem_cons_of_mem _ h)
  have hown : s.vm.findClass "ChannelMachineModel" = some m.cls := findClass_of_methodNamed B.named
  have hlocks := B.notSynchronized
  subst hsz
  have hD := hD0.self (sz := s.heap.size)
  have hAN := x_AN hD0 hN0
  generalize hAe : va_A [(h0, .inr (6, fs))] s.heap.size = A at hD hAN ⊢
  have hA : ∀ q : Nat, s.heap.size ≤ q → A q := fun q h => by rw [← hAe]; exact Or.inr h
  have hS : va_S A s.heap s.heap [] := va_S.rf
  have hP : va_P (dC, dI) x_cl [(h0, .inr (6, fs))] s.heap := hP
  have hl := lv_entry ([.ref h0, .int x]) (n := 2) (Nat.le_of_ble_eq_true rfl)
  rw [lg_entry_eq]
  generalize (lg_sl ([.ref h0, .int x]) ++ List.replicate (2 - (lg_sl ([.ref h0, .int x])).length) Slot.unset).toArray = ls at hl ⊢
  have hl : lv_has ls 2 [(0, .ref h0), (1, .int x)] := hl
  have hH0 : s.heap.size ≤ s.heap.size := Nat.le_refl _
  refine lv_aload_n hx hb d_Mo_give_0 rfl (lv_at hl 0 rfl) ?_
  refine lv_iconst (v := 0) hx hb d_Mo_give_1 (by decide) ?_
  refine va_put (D := (dC, dI)) (ci := 6) (v := .int 0) (ty := .int) (C := "ChannelMachineModel") (T := F_Mo) (N := 45) hx hb hts i_Mo t_Mo t_Mo_ok n_Mo hown hK hP hD hS 0 rfl rfl 33 (by decide) (hts _ k_1000) (fun _ h9 => h9) rfl (by decide +kernel) rfl rfl (by first | omega | (simp; omega)) d_Mo_give_2 (fun H locs hP hD hS => ?_)
  have hP : va_P (dC, dI) x_cl [(h0, .inr (6, (fs.set 33 (.int 0))))] H := hP
  have hD : va_D A [(h0, .inr (6, (fs.set 33 (.int 0))))] := hD
  refine lv_aload_n hx hb d_Mo_give_5 rfl (lv_at hl 0 rfl) ?_
  refine va_get (D := (dC, dI)) (ci := 6) (v := .int 0) (C := "ChannelMachineModel") (T := F_Mo) (N := 45) hx hb hts i_Mo hown hK hP 0 rfl rfl 9 (by decide) (hts _ k_976) (fun _ h9 => h9) (x_gs (by decide) g_status) d_Mo_give_6 ?_
  refine lv_iconst (v := 1) hx hb d_Mo_give_9 (by decide) ?_
  refine lv_icmp_ne (tgt := 22) hx hb d_Mo_give_10 (by decide) (fun _ => ?_) (fun c1 => absurd c1 (by decide))
  refine lv_aload_n hx hb d_Mo_give_22 rfl (lv_at hl 0 rfl) ?_
  refine lv_iconst (v := 1) hx hb d_Mo_give_23 (by decide) ?_
  have hPc := hP.sub (ws' := [(h0, .inr (6, (fs.set 33 (.int 0))))]) [0] rfl
  have hDc := hD.sub (ws' := [(h0, .inr (6, (fs.set 33 (.int 0))))]) [0] (by decide) rfl
  have hFc := va_free (wc := [(h0, .inr (6, (fs.set 33 (.int 0))))]) hD hS hA [0] rfl
  refine va_calli (va_runV (As := [.int 1]) (rest := []) ⟨hx, hb, hml, hown, hts⟩ (c_Mo_fail l dC dI ar N0 z h0 (fs.set 33 (.int 0)) (1) H.size (by first | exact hfs | (simp; exact hfs))) (cwV 1 hts (x_goodV k_1120 k_1122 kp_49 k_9 k_1123) rfl rfl rfl (by decide +kernel) ⟨Nat.le_of_ble_eq_true rfl, Nat.le_of_ble_eq_true rfl⟩) ⟨x_blind, va_recv hK hPc (ci := 6) (q0 := 0) rfl rfl, fun U hU9 hW => x_pre hU9 hW hPc hDc hU hZ hS hAN hN0⟩ rfl rfl hl.1 rfl (lv_room (Nat.le_of_ble_eq_true rfl)) d_Mo_give_24 ⟨Nat.le_of_ble_eq_true rfl, Nat.le_of_ble_eq_true rfl⟩) hS (fun q _ h => hFc q h) hFc (fun r2 u3 t H1 locs ht hvm hw hB hz1 hk1 hS => ?_)
  obtain ⟨hP1, hD1⟩ := hB
  rw [ht] at hP1
  obtain ⟨hP, hD⟩ := va_join (wr := []) (w1 := [(h0, .inr (6, ((fs.set 33 (.int 0)).set 33 (.int u3))))]) hP hD [0] [] rfl rfl (by decide) (by decide) hk1 hFc hP1 hD1
  generalize H1 = H at hP hS ⊢
  have hP : va_P (dC, dI) x_cl [(h0, .inr (6, ((fs.set 33 (.int 0)).set 33 (.int u3))))] H := hP
  have hD : va_D A [(h0, .inr (6, ((fs.set 33 (.int 0)).set 33 (.int u3))))] := hD
  refine W.widen (k := 0) (n := 0) (Nat.le_of_ble_eq_true rfl) (Nat.le_of_ble_eq_true rfl) ?_
  obtain ⟨rfl, rfl⟩ := hw
  refine W.widen (k := 0) (n := 0) (Nat.le_of_ble_eq_true rfl) (Nat.le_of_ble_eq_true rfl) ?_
  exact W.iret (v := 0) hx hb hr (fun t ht hW => ⟨⟨0, 1, rfl, rfl, ⟨((fs.set 33 (.int 0)).set 33 (.int 1)), by rw [ht]; exact hP.sub (ws' := [(h0, .inr (6, ((fs.set 33 (.int 0)).set 33 (.int 1))))]) [0] rfl, hD.sub (ws' := [(h0, .inr (6, ((fs.set 33 (.int 0)).set 33 (.int 1))))]) [0] (by decide) rfl, (x_ge (by first | omega | (simp; omega)))⟩⟩, hS.F ht⟩) hS.2.2 d_Mo_give_27
set_option maxHeartbeats 4000000 in
set_option maxRecDepth 100000 in
theorem c_Mo_run (l : Launch) (dC : Nat → ClassId) (dI : Nat → Nat → Nat) (ar : Nat → ClassId) (N0 : Nat) (z : Nat → Nat) (h0 : Nat) (fs : List Value) (n : Int32) (sz : Nat) (hfs : fs.length = 45) (g_status : fs[9]? = some (.int 0)) : Met l ({ cls := "ChannelMachineModel", name := "run", desc := "(I)I" } : Jvm.MethodName) ((Jvm.Cond.code ({ cls := "ChannelMachineModel", name := "run", desc := "(I)I" } : Jvm.MethodName) prog_12_method_42_code (4 : Nat) (Option.some Jvm.ClassFile.FieldType.int)) :: x_T) ({ frames := 1, cells := 0, slots := 0, locals := 22 }) (x_Pc (dC, dI) ar N0 z [(h0, .inr (6, fs))] sz [.ref h0, .int n]) (va_Qi (fun (r : Int32) (u : Int32) => ((¬ n < 1 ∧ ¬ 200 < n) ∧ u = 2) ∨ ((n < 1 ∨ 200 < n) ∧ u = 1)) (fun u t => ∃ fz : List Value, va_P (dC, dI) x_cl [(h0, .inr (6, fz))] t.heap ∧ va_D (va_A [(h0, .inr (6, fs))] sz) [(h0, .inr (6, fz))] ∧ fz[33]? = some (.int u)) (va_A [(h0, .inr (6, fs))] sz)) 0 0 (va_A [(h0, .inr (6, fs))] sz) := by
  refine Met.ofW (cc := prog_12_method_42_code) (maxL := 4) (ret := (some .int)) (by decide) rfl ?_
  intro p e s m args below meth c s₁ B hml hv
  obtain ⟨rfl, hsz, hN0, hP, hU, hZ, hD0⟩ := hv
  have hK := hU.1
  have hx := B.exec
  have hb := B.bytes
  have hr := B.returns
  have hts : ∀ w ∈ x_T, w.before ([.ref h0, .int n] : List Value).toArray s = true := fun w h => atoms_spec (ws := (Jvm.Cond.code ({ cls := "ChannelMachineModel", name := "run", desc := "(I)I" } : Jvm.MethodName) prog_12_method_42_code (4 : Nat) (Option.some Jvm.ClassFile.FieldType.int)) :: x_T) B.pre w (List.mem_cons_of_mem _ h)
  have hown : s.vm.findClass "ChannelMachineModel" = some m.cls := findClass_of_methodNamed B.named
  have hlocks := B.notSynchronized
  subst hsz
  have hD := hD0.self (sz := s.heap.size)
  have hAN := x_AN hD0 hN0
  generalize hAe : va_A [(h0, .inr (6, fs))] s.heap.size = A at hD hAN ⊢
  have hA : ∀ q : Nat, s.heap.size ≤ q → A q := fun q h => by rw [← hAe]; exact Or.inr h
  have hS : va_S A s.heap s.heap [] := va_S.rf
  have hP : va_P (dC, dI) x_cl [(h0, .inr (6, fs))] s.heap := hP
  have hl := lv_entry ([.ref h0, .int n]) (n := 4) (Nat.le_of_ble_eq_true rfl)
  rw [lg_entry_eq]
  generalize (lg_sl ([.ref h0, .int n]) ++ List.replicate (4 - (lg_sl ([.ref h0, .int n])).length) Slot.unset).toArray = ls at hl ⊢
  have hl : lv_has ls 4 [(0, .ref h0), (1, .int n)] := hl
  have hH0 : s.heap.size ≤ s.heap.size := Nat.le_refl _
  refine lv_aload_n hx hb d_Mo_run_0 rfl (lv_at hl 0 rfl) ?_
  refine lv_iload_n hx hb d_Mo_run_1 rfl (lv_at hl 1 rfl) ?_
  refine lv_iconst (v := 1) hx hb d_Mo_run_2 (by decide) ?_
  refine lv_sipush (v := 200) hx hb d_Mo_run_3 (by decide) ?_
  have hPc := hP.sub (ws' := []) [] rfl
  have hDc := hD.sub (ws' := []) [] (by decide) rfl
  have hFc := va_free (wc := []) hD hS hA [] rfl
  refine va_calli (va_runS (As := [.int n, .int 1, .int 200]) (rest := [.ref h0]) ⟨hx, hb, hml, hown, hts⟩ (c_Mo_in l dC dI ar N0 z (n) 1 200 s.heap.size) (cwS 3 hts (x_goodS k_1113 k_1114 k_9 k_1115) rfl rfl rfl (by decide +kernel) ⟨Nat.le_of_ble_eq_true rfl, Nat.le_of_ble_eq_true rfl⟩) ⟨x_blind, fun U hU9 hW => x_pre hU9 hW hPc hDc hU hZ hS hAN hN0⟩ rfl rfl hl.1 rfl (lv_room (Nat.le_of_ble_eq_true rfl)) d_Mo_run_6 ⟨Nat.le_of_ble_eq_true rfl, Nat.le_of_ble_eq_true rfl⟩) hS (fun q _ h => hFc q h) hFc (fun r1 u2 t H1 locs ht hvm hw hB hz1 hk1 hS => ?_)
  obtain ⟨hP1, hD1⟩ := hB
  rw [ht] at hP1
  obtain ⟨hP, hD⟩ := va_join (wr := [(h0, .inr (6, fs))]) (w1 := []) hP hD [] [0] rfl rfl (by decide) (by decide) hk1 hFc hP1 hD1
  generalize H1 = H at hP hS ⊢
  have hP : va_P (dC, dI) x_cl [(h0, .inr (6, fs))] H := hP
  have hD : va_D A [(h0, .inr (6, fs))] := hD
  refine W.widen (k := 0) (n := 0) (Nat.le_of_ble_eq_true rfl) (Nat.le_of_ble_eq_true rfl) ?_
  rcases hw with ⟨i3, i3', rfl⟩ | ⟨i3, rfl⟩
  · have i3 := i3
    have hPc := hP.sub (ws' := [(h0, .inr (6, fs))]) [0] rfl
    have hDc := hD.sub (ws' := [(h0, .inr (6, fs))]) [0] (by decide) rfl
    have hFc := va_free (wc := [(h0, .inr (6, fs))]) hD hS hA [0] rfl
    refine va_calli (va_runV (As := [.int 1]) (rest := []) ⟨hx, hb, hml, hown, hts⟩ (c_Mo_bad l dC dI ar N0 z h0 fs (1) H.size (by first | exact hfs | (simp; exact hfs))) (cwV 1 hts (x_goodV k_1116 k_1118 kp_48 k_9 k_1119) rfl rfl rfl (by decide +kernel) ⟨Nat.le_of_ble_eq_true rfl, Nat.le_of_ble_eq_true rfl⟩) ⟨x_blind, va_recv hK hPc (ci := 6) (q0 := 0) rfl rfl, fun U hU9 hW => x_pre hU9 hW hPc hDc hU hZ hS hAN hN0⟩ rfl rfl hl.1 rfl (lv_room (Nat.le_of_ble_eq_true rfl)) d_Mo_run_9 ⟨Nat.le_of_ble_eq_true rfl, Nat.le_of_ble_eq_true rfl⟩) hS (fun q _ h => hFc q h) hFc (fun r4 u5 t H1 locs ht hvm hw hB hz1 hk1 hS => ?_)
    obtain ⟨hP1, hD1⟩ := hB
    rw [ht] at hP1
    obtain ⟨hP, hD⟩ := va_join (wr := []) (w1 := [(h0, .inr (6, (fs.set 33 (.int u5))))]) hP hD [0] [] rfl rfl (by decide) (by decide) hk1 hFc hP1 hD1
    generalize H1 = H at hP hS ⊢
    have hP : va_P (dC, dI) x_cl [(h0, .inr (6, (fs.set 33 (.int u5))))] H := hP
    have hD : va_D A [(h0, .inr (6, (fs.set 33 (.int u5))))] := hD
    refine W.widen (k := 0) (n := 0) (Nat.le_of_ble_eq_true rfl) (Nat.le_of_ble_eq_true rfl) ?_
    rcases hw with ⟨h9, rfl, rfl⟩ | ⟨h9, rfl, rfl⟩
    · exact absurd h9 (by decide)
    · refine lv_if_eq (tgt := 17) hx hb d_Mo_run_12 (by decide) (fun _ => ?_) (fun c6 => absurd (by decide) c6)
      refine lv_aload_n hx hb d_Mo_run_17 rfl (lv_at hl 0 rfl) ?_
      refine va_get (D := (dC, dI)) (ci := 6) (v := .int 0) (C := "ChannelMachineModel") (T := F_Mo) (N := 45) hx hb hts i_Mo hown hK hP 0 rfl rfl 9 (by decide) (hts _ k_976) (fun _ h9 => h9) (x_gs (by decide) g_status) d_Mo_run_18 ?_
      refine lv_iconst (v := 1) hx hb d_Mo_run_21 (by decide) ?_
      refine lv_icmp_eq (tgt := 31) hx hb d_Mo_run_22 (by decide) (fun c7 => absurd c7 (by decide)) (fun _ => ?_)
      refine lv_aload_n hx hb d_Mo_run_25 rfl (lv_at hl 0 rfl) ?_
      refine lv_iconst (v := 2) hx hb d_Mo_run_26 (by decide) ?_
      have hPc := hP.sub (ws' := [(h0, .inr (6, (fs.set 33 (.int 0))))]) [0] rfl
      have hDc := hD.sub (ws' := [(h0, .inr (6, (fs.set 33 (.int 0))))]) [0] (by decide) rfl
      have hFc := va_free (wc := [(h0, .inr (6, (fs.set 33 (.int 0))))]) hD hS hA [0] rfl
      refine va_calli (va_runV (As := [.int 2]) (rest := []) ⟨hx, hb, hml, hown, hts⟩ (c_Mo_fail l dC dI ar N0 z h0 (fs.set 33 (.int 0)) (2) H.size (by first | exact hfs | (simp; exact hfs))) (cwV 1 hts (x_goodV k_1120 k_1122 kp_49 k_9 k_1123) rfl rfl rfl (by decide +kernel) ⟨Nat.le_of_ble_eq_true rfl, Nat.le_of_ble_eq_true rfl⟩) ⟨x_blind, va_recv hK hPc (ci := 6) (q0 := 0) rfl rfl, fun U hU9 hW => x_pre hU9 hW hPc hDc hU hZ hS hAN hN0⟩ rfl rfl hl.1 rfl (lv_room (Nat.le_of_ble_eq_true rfl)) d_Mo_run_27 ⟨Nat.le_of_ble_eq_true rfl, Nat.le_of_ble_eq_true rfl⟩) hS (fun q _ h => hFc q h) hFc (fun r8 u9 t H1 locs ht hvm hw hB hz1 hk1 hS => ?_)
      obtain ⟨hP1, hD1⟩ := hB
      rw [ht] at hP1
      obtain ⟨hP, hD⟩ := va_join (wr := []) (w1 := [(h0, .inr (6, ((fs.set 33 (.int 0)).set 33 (.int u9))))]) hP hD [0] [] rfl rfl (by decide) (by decide) hk1 hFc hP1 hD1
      generalize H1 = H at hP hS ⊢
      have hP : va_P (dC, dI) x_cl [(h0, .inr (6, ((fs.set 33 (.int 0)).set 33 (.int u9))))] H := hP
      have hD : va_D A [(h0, .inr (6, ((fs.set 33 (.int 0)).set 33 (.int u9))))] := hD
      refine W.widen (k := 0) (n := 0) (Nat.le_of_ble_eq_true rfl) (Nat.le_of_ble_eq_true rfl) ?_
      obtain ⟨rfl, rfl⟩ := hw
      refine W.widen (k := 0) (n := 0) (Nat.le_of_ble_eq_true rfl) (Nat.le_of_ble_eq_true rfl) ?_
      exact W.iret (v := 0) hx hb hr (fun t ht hW => ⟨⟨0, 2, rfl, Or.inl ⟨⟨i3, i3'⟩, rfl⟩, ⟨((fs.set 33 (.int 0)).set 33 (.int 2)), by rw [ht]; exact hP.sub (ws' := [(h0, .inr (6, ((fs.set 33 (.int 0)).set 33 (.int 2))))]) [0] rfl, hD.sub (ws' := [(h0, .inr (6, ((fs.set 33 (.int 0)).set 33 (.int 2))))]) [0] (by decide) rfl, (x_ge (by first | omega | (simp; omega)))⟩⟩, hS.F ht⟩) hS.2.2 d_Mo_run_30
  · have i3 := i3
    have hPc := hP.sub (ws' := [(h0, .inr (6, fs))]) [0] rfl
    have hDc := hD.sub (ws' := [(h0, .inr (6, fs))]) [0] (by decide) rfl
    have hFc := va_free (wc := [(h0, .inr (6, fs))]) hD hS hA [0] rfl
    refine va_calli (va_runV (As := [.int 0]) (rest := []) ⟨hx, hb, hml, hown, hts⟩ (c_Mo_bad l dC dI ar N0 z h0 fs (0) H.size (by first | exact hfs | (simp; exact hfs))) (cwV 1 hts (x_goodV k_1116 k_1118 kp_48 k_9 k_1119) rfl rfl rfl (by decide +kernel) ⟨Nat.le_of_ble_eq_true rfl, Nat.le_of_ble_eq_true rfl⟩) ⟨x_blind, va_recv hK hPc (ci := 6) (q0 := 0) rfl rfl, fun U hU9 hW => x_pre hU9 hW hPc hDc hU hZ hS hAN hN0⟩ rfl rfl hl.1 rfl (lv_room (Nat.le_of_ble_eq_true rfl)) d_Mo_run_9 ⟨Nat.le_of_ble_eq_true rfl, Nat.le_of_ble_eq_true rfl⟩) hS (fun q _ h => hFc q h) hFc (fun r10 u11 t H1 locs ht hvm hw hB hz1 hk1 hS => ?_)
    obtain ⟨hP1, hD1⟩ := hB
    rw [ht] at hP1
    obtain ⟨hP, hD⟩ := va_join (wr := []) (w1 := [(h0, .inr (6, (fs.set 33 (.int u11))))]) hP hD [0] [] rfl rfl (by decide) (by decide) hk1 hFc hP1 hD1
    generalize H1 = H at hP hS ⊢
    have hP : va_P (dC, dI) x_cl [(h0, .inr (6, (fs.set 33 (.int u11))))] H := hP
    have hD : va_D A [(h0, .inr (6, (fs.set 33 (.int u11))))] := hD
    refine W.widen (k := 0) (n := 0) (Nat.le_of_ble_eq_true rfl) (Nat.le_of_ble_eq_true rfl) ?_
    rcases hw with ⟨h9, rfl, rfl⟩ | ⟨h9, rfl, rfl⟩
    · refine lv_if_eq (tgt := 17) hx hb d_Mo_run_12 (by decide) (fun c12 => absurd c12 (by decide)) (fun _ => ?_)
      refine lv_iconst (v := 0) hx hb d_Mo_run_15 (by decide) ?_
      refine W.widen (k := 0) (n := 0) (Nat.le_of_ble_eq_true rfl) (Nat.le_of_ble_eq_true rfl) ?_
      exact W.iret (v := 0) hx hb hr (fun t ht hW => ⟨⟨0, 1, rfl, Or.inr ⟨i3, rfl⟩, ⟨(fs.set 33 (.int 1)), by rw [ht]; exact hP.sub (ws' := [(h0, .inr (6, (fs.set 33 (.int 1))))]) [0] rfl, hD.sub (ws' := [(h0, .inr (6, (fs.set 33 (.int 1))))]) [0] (by decide) rfl, (x_ge (by first | omega | (simp; omega)))⟩⟩, hS.F ht⟩) hS.2.2 d_Mo_run_16
    · exact absurd rfl h9
set_option maxHeartbeats 4000000 in
set_option maxRecDepth 100000 in
theorem c_Mo_thrown (l : Launch) (dC : Nat → ClassId) (dI : Nat → Nat → Nat) (ar : Nat → ClassId) (N0 : Nat) (z : Nat → Nat) (h0 : Nat) (fs : List Value) (k : Int32) (sz : Nat) (hfs : fs[33]? = some (.int k)) : Met l ({ cls := "ChannelMachineModel", name := "thrown", desc := "()I" } : Jvm.MethodName) ((Jvm.Cond.code ({ cls := "ChannelMachineModel", name := "thrown", desc := "()I" } : Jvm.MethodName) prog_12_method_2_code (1 : Nat) (Option.some Jvm.ClassFile.FieldType.int)) :: x_T) ({ frames := 0, cells := 0, slots := 0, locals := 0 }) (x_Pc (dC, dI) ar N0 z [(h0, .inr (6, fs))] sz [.ref h0]) (va_Qi (fun (r : Int32) (u : Unit) => r = k) (fun u t => va_P (dC, dI) x_cl [(h0, .inr (6, fs))] t.heap ∧ va_D (va_A [(h0, .inr (6, fs))] sz) [(h0, .inr (6, fs))]) (va_A [(h0, .inr (6, fs))] sz)) 0 0 (va_A [(h0, .inr (6, fs))] sz) := by
  refine Met.ofW (cc := prog_12_method_2_code) (maxL := 1) (ret := (some .int)) (by decide) rfl ?_
  intro p e s m args below meth c s₁ B hml hv
  obtain ⟨rfl, hsz, hN0, hP, hU, hZ, hD0⟩ := hv
  have hK := hU.1
  have hx := B.exec
  have hb := B.bytes
  have hr := B.returns
  have hts : ∀ w ∈ x_T, w.before ([.ref h0] : List Value).toArray s = true := fun w h => atoms_spec (ws := (Jvm.Cond.code ({ cls := "ChannelMachineModel", name := "thrown", desc := "()I" } : Jvm.MethodName) prog_12_method_2_code (1 : Nat) (Option.some Jvm.ClassFile.FieldType.int)) :: x_T) B.pre w (List.mem_cons_of_mem _ h)
  have hown : s.vm.findClass "ChannelMachineModel" = some m.cls := findClass_of_methodNamed B.named
  have hlocks := B.notSynchronized
  subst hsz
  have hD := hD0.self (sz := s.heap.size)
  have hAN := x_AN hD0 hN0
  generalize hAe : va_A [(h0, .inr (6, fs))] s.heap.size = A at hD hAN ⊢
  have hA : ∀ q : Nat, s.heap.size ≤ q → A q := fun q h => by rw [← hAe]; exact Or.inr h
  have hS : va_S A s.heap s.heap [] := va_S.rf
  have hP : va_P (dC, dI) x_cl [(h0, .inr (6, fs))] s.heap := hP
  have hl := lv_entry ([.ref h0]) (n := 1) (Nat.le_of_ble_eq_true rfl)
  rw [lg_entry_eq]
  generalize (lg_sl ([.ref h0]) ++ List.replicate (1 - (lg_sl ([.ref h0])).length) Slot.unset).toArray = ls at hl ⊢
  have hl : lv_has ls 1 [(0, .ref h0)] := hl
  have hH0 : s.heap.size ≤ s.heap.size := Nat.le_refl _
  refine lv_aload_n hx hb d_Mo_thrown_0 rfl (lv_at hl 0 rfl) ?_
  refine va_get (D := (dC, dI)) (ci := 6) (v := .int k) (C := "ChannelMachineModel") (T := F_Mo) (N := 45) hx hb hts i_Mo hown hK hP 0 rfl rfl 33 (by decide) (hts _ k_1000) (fun _ h9 => h9) hfs d_Mo_thrown_1 ?_
  refine W.widen (k := 0) (n := 0) (Nat.le_of_ble_eq_true rfl) (Nat.le_of_ble_eq_true rfl) ?_
  exact W.iret (v := k) hx hb hr (fun t ht hW => ⟨⟨k, (), rfl, rfl, ⟨by rw [ht]; exact hP, hD⟩⟩, hS.F ht⟩) hS.2.2 d_Mo_thrown_4
set_option maxHeartbeats 4000000 in
set_option maxRecDepth 100000 in
theorem c_List_size (l : Launch) (dC : Nat → ClassId) (dI : Nat → Nat → Nat) (ar : Nat → ClassId) (N0 : Nat) (z : Nat → Nat) (h0 a : Nat) (sz : Nat) : Met l ({ cls := "java/util/ArrayList", name := "size", desc := "()I" } : Jvm.MethodName) ((Jvm.Cond.code ({ cls := "java/util/ArrayList", name := "size", desc := "()I" } : Jvm.MethodName) prog_28_method_8_code (1 : Nat) (Option.some Jvm.ClassFile.FieldType.int)) :: x_T) ({ frames := 0, cells := 0, slots := 0, locals := 0 }) (x_Pc (dC, dI) ar N0 z [(h0, .inr (0, [.ref a, .int 0, .int 0]))] sz [.ref h0]) (va_Qi (fun (r : Int32) (u : Unit) => r = 0) (fun u t => va_P (dC, dI) x_cl [(h0, .inr (0, [.ref a, .int 0, .int 0]))] t.heap ∧ va_D (va_A [(h0, .inr (0, [.ref a, .int 0, .int 0]))] sz) [(h0, .inr (0, [.ref a, .int 0, .int 0]))]) (va_A [(h0, .inr (0, [.ref a, .int 0, .int 0]))] sz)) 0 0 (va_A [(h0, .inr (0, [.ref a, .int 0, .int 0]))] sz) := by
  refine Met.ofW (cc := prog_28_method_8_code) (maxL := 1) (ret := (some .int)) (by decide) rfl ?_
  intro p e s m args below meth c s₁ B hml hv
  obtain ⟨rfl, hsz, hN0, hP, hU, hZ, hD0⟩ := hv
  have hK := hU.1
  have hx := B.exec
  have hb := B.bytes
  have hr := B.returns
  have hts : ∀ w ∈ x_T, w.before ([.ref h0] : List Value).toArray s = true := fun w h => atoms_spec (ws := (Jvm.Cond.code ({ cls := "java/util/ArrayList", name := "size", desc := "()I" } : Jvm.MethodName) prog_28_method_8_code (1 : Nat) (Option.some Jvm.ClassFile.FieldType.int)) :: x_T) B.pre w (List.mem_cons_of_mem _ h)
  have hown : s.vm.findClass "java/util/ArrayList" = some m.cls := findClass_of_methodNamed B.named
  have hlocks := B.notSynchronized
  subst hsz
  have hD := hD0.self (sz := s.heap.size)
  have hAN := x_AN hD0 hN0
  generalize hAe : va_A [(h0, .inr (0, [.ref a, .int 0, .int 0]))] s.heap.size = A at hD hAN ⊢
  have hA : ∀ q : Nat, s.heap.size ≤ q → A q := fun q h => by rw [← hAe]; exact Or.inr h
  have hS : va_S A s.heap s.heap [] := va_S.rf
  have hP : va_P (dC, dI) x_cl [(h0, .inr (0, [.ref a, .int 0, .int 0]))] s.heap := hP
  have hl := lv_entry ([.ref h0]) (n := 1) (Nat.le_of_ble_eq_true rfl)
  rw [lg_entry_eq]
  generalize (lg_sl ([.ref h0]) ++ List.replicate (1 - (lg_sl ([.ref h0])).length) Slot.unset).toArray = ls at hl ⊢
  have hl : lv_has ls 1 [(0, .ref h0)] := hl
  have hH0 : s.heap.size ≤ s.heap.size := Nat.le_refl _
  refine lv_aload_n hx hb d_ArrayList_size_0 rfl (lv_at hl 0 rfl) ?_
  refine va_get (D := (dC, dI)) (ci := 0) (v := .int 0) (C := "java/util/ArrayList") (T := F_List) (N := 3) hx hb hts i_List hown hK hP 0 rfl rfl 1 (by decide) (hts _ k_115) (fun _ h9 => h9) rfl d_ArrayList_size_1 ?_
  refine W.widen (k := 0) (n := 0) (Nat.le_of_ble_eq_true rfl) (Nat.le_of_ble_eq_true rfl) ?_
  exact W.iret (v := 0) hx hb hr (fun t ht hW => ⟨⟨0, (), rfl, rfl, ⟨by rw [ht]; exact hP, hD⟩⟩, hS.F ht⟩) hS.2.2 d_ArrayList_size_4
set_option maxHeartbeats 4000000 in
set_option maxRecDepth 100000 in
theorem c_CM_count (l : Launch) (dC : Nat → ClassId) (dI : Nat → Nat → Nat) (ar : Nat → ClassId) (N0 : Nat) (z : Nat → Nat) (h0 rd mc va ch gi bo qu sl sk : Nat) (gv bv qa sa : Nat) (v : Int32) (sz : Nat) : Met l ({ cls := "ChannelMachine", name := "count", desc := "(I)I" } : Jvm.MethodName) ((Jvm.Cond.code ({ cls := "ChannelMachine", name := "count", desc := "(I)I" } : Jvm.MethodName) prog_1_method_11_code (2 : Nat) (Option.some Jvm.ClassFile.FieldType.int)) :: x_T) ({ frames := 1, cells := 0, slots := 0, locals := 20 }) (x_Pc (dC, dI) ar N0 z [(h0, .inr (5, [.ref rd, .ref mc, .int (-1)])), (mc, .inr (2, [.ref va, .ref ch, .ref gi, .ref bo, .ref qu, .ref sl, .ref sk, .int 0, .int 0, .int 0, .long 0])), (gi, .inr (4, [.ref gv, .int 0])), (bo, .inr (4, [.ref bv, .int 0])), (qu, .inr (0, [.ref qa, .int 0, .int 0])), (sl, .inr (0, [.ref sa, .int 0, .int 0]))] sz [.ref h0, .int v]) (va_Qi (fun (r : Int32) (u : Unit) => r = x_cnt v) (fun u t => True) (va_A [(h0, .inr (5, [.ref rd, .ref mc, .int (-1)])), (mc, .inr (2, [.ref va, .ref ch, .ref gi, .ref bo, .ref qu, .ref sl, .ref sk, .int 0, .int 0, .int 0, .long 0])), (gi, .inr (4, [.ref gv, .int 0])), (bo, .inr (4, [.ref bv, .int 0])), (qu, .inr (0, [.ref qa, .int 0, .int 0])), (sl, .inr (0, [.ref sa, .int 0, .int 0]))] sz)) 0 0 (va_A [(h0, .inr (5, [.ref rd, .ref mc, .int (-1)])), (mc, .inr (2, [.ref va, .ref ch, .ref gi, .ref bo, .ref qu, .ref sl, .ref sk, .int 0, .int 0, .int 0, .long 0])), (gi, .inr (4, [.ref gv, .int 0])), (bo, .inr (4, [.ref bv, .int 0])), (qu, .inr (0, [.ref qa, .int 0, .int 0])), (sl, .inr (0, [.ref sa, .int 0, .int 0]))] sz) := by
  refine Met.ofW (cc := prog_1_method_11_code) (maxL := 2) (ret := (some .int)) (by decide) rfl ?_
  intro p e s m args below meth c s₁ B hml hv
  obtain ⟨rfl, hsz, hN0, hP, hU, hZ, hD0⟩ := hv
  have hK := hU.1
  have hx := B.exec
  have hb := B.bytes
  have hr := B.returns
  have hts : ∀ w ∈ x_T, w.before ([.ref h0, .int v] : List Value).toArray s = true := fun w h => atoms_spec (ws := (Jvm.Cond.code ({ cls := "ChannelMachine", name := "count", desc := "(I)I" } : Jvm.MethodName) prog_1_method_11_code (2 : Nat) (Option.some Jvm.ClassFile.FieldType.int)) :: x_T) B.pre w (List.mem_cons_of_mem _ h)
  have hown : s.vm.findClass "ChannelMachine" = some m.cls := findClass_of_methodNamed B.named
  have hlocks := B.notSynchronized
  subst hsz
  have hD := hD0.self (sz := s.heap.size)
  have hAN := x_AN hD0 hN0
  generalize hAe : va_A [(h0, .inr (5, [.ref rd, .ref mc, .int (-1)])), (mc, .inr (2, [.ref va, .ref ch, .ref gi, .ref bo, .ref qu, .ref sl, .ref sk, .int 0, .int 0, .int 0, .long 0])), (gi, .inr (4, [.ref gv, .int 0])), (bo, .inr (4, [.ref bv, .int 0])), (qu, .inr (0, [.ref qa, .int 0, .int 0])), (sl, .inr (0, [.ref sa, .int 0, .int 0]))] s.heap.size = A at hD hAN ⊢
  have hA : ∀ q : Nat, s.heap.size ≤ q → A q := fun q h => by rw [← hAe]; exact Or.inr h
  have hS : va_S A s.heap s.heap [] := va_S.rf
  have hP : va_P (dC, dI) x_cl [(h0, .inr (5, [.ref rd, .ref mc, .int (-1)])), (mc, .inr (2, [.ref va, .ref ch, .ref gi, .ref bo, .ref qu, .ref sl, .ref sk, .int 0, .int 0, .int 0, .long 0])), (gi, .inr (4, [.ref gv, .int 0])), (bo, .inr (4, [.ref bv, .int 0])), (qu, .inr (0, [.ref qa, .int 0, .int 0])), (sl, .inr (0, [.ref sa, .int 0, .int 0]))] s.heap := hP
  have hl := lv_entry ([.ref h0, .int v]) (n := 2) (Nat.le_of_ble_eq_true rfl)
  rw [lg_entry_eq]
  generalize (lg_sl ([.ref h0, .int v]) ++ List.replicate (2 - (lg_sl ([.ref h0, .int v])).length) Slot.unset).toArray = ls at hl ⊢
  have hl : lv_has ls 2 [(0, .ref h0), (1, .int v)] := hl
  have hH0 : s.heap.size ≤ s.heap.size := Nat.le_refl _
  refine lv_iload_n hx hb d_CM_count_0 rfl (lv_at hl 1 rfl) ?_
  rcases x_9 v with h9 | rfl | rfl | rfl | rfl | rfl | rfl | rfl | rfl | rfl
  · refine lv_tableOut (tgt := 138) hx hb d_CM_count_1 h9 (by decide) ?_
    refine lv_iconst (v := (-1)) hx hb d_CM_count_138 (by decide) ?_
    refine W.widen (k := 0) (n := 0) (Nat.le_of_ble_eq_true rfl) (Nat.le_of_ble_eq_true rfl) ?_
    exact W.iret (v := (-1)) hx hb hr (fun t ht hW => ⟨⟨(-1), (), rfl, x_cnt_out h9, trivial⟩, hS.F ht⟩) hS.2.2 d_CM_count_139
  · refine lv_tableIn (tgt := 52) hx hb d_CM_count_1 (by decide) (by decide) (off := 51) rfl (by decide) ?_
    refine lv_aload_n hx hb d_CM_count_52 rfl (lv_at hl 0 rfl) ?_
    refine va_get (D := (dC, dI)) (ci := 5) (v := .int (-1)) (C := "ChannelMachine") (T := F_CM) (N := 3) hx hb hts i_CM hown hK hP 0 rfl rfl 2 (by decide) (hts _ k_196) (fun _ h9 => h9) rfl d_CM_count_53 ?_
    refine W.widen (k := 0) (n := 0) (Nat.le_of_ble_eq_true rfl) (Nat.le_of_ble_eq_true rfl) ?_
    exact W.iret (v := (-1)) hx hb hr (fun t ht hW => ⟨⟨(-1), (), rfl, by decide, trivial⟩, hS.F ht⟩) hS.2.2 d_CM_count_56
  · refine lv_tableIn (tgt := 57) hx hb d_CM_count_1 (by decide) (by decide) (off := 56) rfl (by decide) ?_
    refine lv_aload_n hx hb d_CM_count_57 rfl (lv_at hl 0 rfl) ?_
    refine va_get (D := (dC, dI)) (ci := 5) (v := .ref mc) (C := "ChannelMachine") (T := F_CM) (N := 3) hx hb hts i_CM hown hK hP 0 rfl rfl 1 (by decide) (hts _ k_195) (fun _ h9 => h9) rfl d_CM_count_58 ?_
    refine va_getN (D := (dC, dI)) (ci := 2) (v := .long 0) (C := "ChannelMachine$Machine") (T := F_Machine) (N := 11) hx hb hts i_Machine hown hK hP 1 rfl rfl 10 (by decide) (hU.2.1 _ kn_170) (fun _ h9 => h9) rfl d_CM_count_61 ?_
    refine lv_l2i (v := 0) hx hb d_CM_count_64 (by decide) ?_
    refine W.widen (k := 0) (n := 0) (Nat.le_of_ble_eq_true rfl) (Nat.le_of_ble_eq_true rfl) ?_
    exact W.iret (v := 0) hx hb hr (fun t ht hW => ⟨⟨0, (), rfl, by decide, trivial⟩, hS.F ht⟩) hS.2.2 d_CM_count_65
  · refine lv_tableIn (tgt := 66) hx hb d_CM_count_1 (by decide) (by decide) (off := 65) rfl (by decide) ?_
    refine lv_aload_n hx hb d_CM_count_66 rfl (lv_at hl 0 rfl) ?_
    refine va_get (D := (dC, dI)) (ci := 5) (v := .ref mc) (C := "ChannelMachine") (T := F_CM) (N := 3) hx hb hts i_CM hown hK hP 0 rfl rfl 1 (by decide) (hts _ k_195) (fun _ h9 => h9) rfl d_CM_count_67 ?_
    refine va_getN (D := (dC, dI)) (ci := 2) (v := .ref qu) (C := "ChannelMachine$Machine") (T := F_Machine) (N := 11) hx hb hts i_Machine hown hK hP 1 rfl rfl 4 (by decide) (hU.2.1 _ kn_159) (fun _ h9 => h9) rfl d_CM_count_70 ?_
    have hPc := hP.sub (ws' := [(qu, .inr (0, [.ref qa, .int 0, .int 0]))]) [4] rfl
    have hDc := hD.sub (ws' := [(qu, .inr (0, [.ref qa, .int 0, .int 0]))]) [4] (by decide) rfl
    have hFc := va_free (wc := [(qu, .inr (0, [.ref qa, .int 0, .int 0]))]) hD hS hA [4] rfl
    refine va_callFi (va_runF (As := []) (rest := []) (hK.1 0 _ rfl).2 ⟨hx, hb, hml, hown, hts⟩ (c_List_size l dC dI ar N0 z qu qa s.heap.size) (va_cwF 0 hts (x_goodF k_209 k_213 k_215 k_7 k_217) rfl rfl rfl hU.2.2.2.2.1 (by decide +kernel) ⟨Nat.le_of_ble_eq_true rfl, Nat.le_of_ble_eq_true rfl⟩) ⟨x_blind, va_recv hK hPc (ci := 0) (q0 := 0) rfl rfl, fun U hU9 hW => x_pre hU9 hW hPc hDc hU hZ hS hAN hN0⟩ rfl rfl hl.1 rfl (lv_room (Nat.le_of_ble_eq_true rfl)) d_CM_count_73 ⟨Nat.le_of_ble_eq_true rfl, Nat.le_of_ble_eq_true rfl⟩) hS (fun q _ h => hFc q h) hFc (fun r9 u t H1 locs ht hvm hw hB hz1 hk1 hS => ?_)
    obtain ⟨hP1, hD1⟩ := hB
    rw [ht] at hP1
    obtain ⟨hP, hD⟩ := va_join (wr := [(h0, .inr (5, [.ref rd, .ref mc, .int (-1)])), (mc, .inr (2, [.ref va, .ref ch, .ref gi, .ref bo, .ref qu, .ref sl, .ref sk, .int 0, .int 0, .int 0, .long 0])), (gi, .inr (4, [.ref gv, .int 0])), (bo, .inr (4, [.ref bv, .int 0])), (sl, .inr (0, [.ref sa, .int 0, .int 0]))]) (w1 := [(qu, .inr (0, [.ref qa, .int 0, .int 0]))]) hP hD [4] [0, 1, 2, 3, 5] rfl rfl (by decide) (by decide) hk1 hFc hP1 hD1
    generalize H1 = H at hP hS ⊢
    have hP : va_P (dC, dI) x_cl [(h0, .inr (5, [.ref rd, .ref mc, .int (-1)])), (mc, .inr (2, [.ref va, .ref ch, .ref gi, .ref bo, .ref qu, .ref sl, .ref sk, .int 0, .int 0, .int 0, .long 0])), (gi, .inr (4, [.ref gv, .int 0])), (bo, .inr (4, [.ref bv, .int 0])), (sl, .inr (0, [.ref sa, .int 0, .int 0])), (qu, .inr (0, [.ref qa, .int 0, .int 0]))] H := hP
    have hD : va_D A [(h0, .inr (5, [.ref rd, .ref mc, .int (-1)])), (mc, .inr (2, [.ref va, .ref ch, .ref gi, .ref bo, .ref qu, .ref sl, .ref sk, .int 0, .int 0, .int 0, .long 0])), (gi, .inr (4, [.ref gv, .int 0])), (bo, .inr (4, [.ref bv, .int 0])), (sl, .inr (0, [.ref sa, .int 0, .int 0])), (qu, .inr (0, [.ref qa, .int 0, .int 0]))] := hD
    refine W.widen (k := 0) (n := 0) (Nat.le_of_ble_eq_true rfl) (Nat.le_of_ble_eq_true rfl) ?_
    obtain rfl := hw
    refine W.widen (k := 0) (n := 0) (Nat.le_of_ble_eq_true rfl) (Nat.le_of_ble_eq_true rfl) ?_
    exact W.iret (v := 0) hx hb hr (fun t ht hW => ⟨⟨0, (), rfl, by decide, trivial⟩, hS.F ht⟩) hS.2.2 d_CM_count_78
  · refine lv_tableIn (tgt := 79) hx hb d_CM_count_1 (by decide) (by decide) (off := 78) rfl (by decide) ?_
    refine lv_aload_n hx hb d_CM_count_79 rfl (lv_at hl 0 rfl) ?_
    refine va_get (D := (dC, dI)) (ci := 5) (v := .ref mc) (C := "ChannelMachine") (T := F_CM) (N := 3) hx hb hts i_CM hown hK hP 0 rfl rfl 1 (by decide) (hts _ k_195) (fun _ h9 => h9) rfl d_CM_count_80 ?_
    refine va_getN (D := (dC, dI)) (ci := 2) (v := .int 0) (C := "ChannelMachine$Machine") (T := F_Machine) (N := 11) hx hb hts i_Machine hown hK hP 1 rfl rfl 8 (by decide) (hU.2.1 _ kn_166) (fun _ h9 => h9) rfl d_CM_count_83 ?_
    refine W.widen (k := 0) (n := 0) (Nat.le_of_ble_eq_true rfl) (Nat.le_of_ble_eq_true rfl) ?_
    exact W.iret (v := 0) hx hb hr (fun t ht hW => ⟨⟨0, (), rfl, by decide, trivial⟩, hS.F ht⟩) hS.2.2 d_CM_count_86
  · refine lv_tableIn (tgt := 87) hx hb d_CM_count_1 (by decide) (by decide) (off := 86) rfl (by decide) ?_
    refine lv_aload_n hx hb d_CM_count_87 rfl (lv_at hl 0 rfl) ?_
    refine va_get (D := (dC, dI)) (ci := 5) (v := .ref mc) (C := "ChannelMachine") (T := F_CM) (N := 3) hx hb hts i_CM hown hK hP 0 rfl rfl 1 (by decide) (hts _ k_195) (fun _ h9 => h9) rfl d_CM_count_88 ?_
    refine va_getN (D := (dC, dI)) (ci := 2) (v := .int 0) (C := "ChannelMachine$Machine") (T := F_Machine) (N := 11) hx hb hts i_Machine hown hK hP 1 rfl rfl 9 (by decide) (hU.2.1 _ kn_168) (fun _ h9 => h9) rfl d_CM_count_91 ?_
    refine W.widen (k := 0) (n := 0) (Nat.le_of_ble_eq_true rfl) (Nat.le_of_ble_eq_true rfl) ?_
    exact W.iret (v := 0) hx hb hr (fun t ht hW => ⟨⟨0, (), rfl, by decide, trivial⟩, hS.F ht⟩) hS.2.2 d_CM_count_94
  · refine lv_tableIn (tgt := 95) hx hb d_CM_count_1 (by decide) (by decide) (off := 94) rfl (by decide) ?_
    refine lv_aload_n hx hb d_CM_count_95 rfl (lv_at hl 0 rfl) ?_
    refine va_get (D := (dC, dI)) (ci := 5) (v := .ref mc) (C := "ChannelMachine") (T := F_CM) (N := 3) hx hb hts i_CM hown hK hP 0 rfl rfl 1 (by decide) (hts _ k_195) (fun _ h9 => h9) rfl d_CM_count_96 ?_
    refine va_getN (D := (dC, dI)) (ci := 2) (v := .ref gi) (C := "ChannelMachine$Machine") (T := F_Machine) (N := 11) hx hb hts i_Machine hown hK hP 1 rfl rfl 2 (by decide) (hU.2.1 _ kn_155) (fun _ h9 => h9) rfl d_CM_count_99 ?_
    refine va_getN (D := (dC, dI)) (ci := 4) (v := .int 0) (C := "ChannelMachine$Row") (T := F_Row) (N := 2) hx hb hts i_Row hown hK hP 2 rfl rfl 1 (by decide) (hU.2.1 _ kn_94) (fun _ h9 => h9) rfl d_CM_count_102 ?_
    refine W.widen (k := 0) (n := 0) (Nat.le_of_ble_eq_true rfl) (Nat.le_of_ble_eq_true rfl) ?_
    exact W.iret (v := 0) hx hb hr (fun t ht hW => ⟨⟨0, (), rfl, by decide, trivial⟩, hS.F ht⟩) hS.2.2 d_CM_count_105
  · refine lv_tableIn (tgt := 106) hx hb d_CM_count_1 (by decide) (by decide) (off := 105) rfl (by decide) ?_
    refine lv_aload_n hx hb d_CM_count_106 rfl (lv_at hl 0 rfl) ?_
    refine va_get (D := (dC, dI)) (ci := 5) (v := .ref mc) (C := "ChannelMachine") (T := F_CM) (N := 3) hx hb hts i_CM hown hK hP 0 rfl rfl 1 (by decide) (hts _ k_195) (fun _ h9 => h9) rfl d_CM_count_107 ?_
    refine va_getN (D := (dC, dI)) (ci := 2) (v := .ref bo) (C := "ChannelMachine$Machine") (T := F_Machine) (N := 11) hx hb hts i_Machine hown hK hP 1 rfl rfl 3 (by decide) (hU.2.1 _ kn_157) (fun _ h9 => h9) rfl d_CM_count_110 ?_
    refine va_getN (D := (dC, dI)) (ci := 4) (v := .int 0) (C := "ChannelMachine$Row") (T := F_Row) (N := 2) hx hb hts i_Row hown hK hP 3 rfl rfl 1 (by decide) (hU.2.1 _ kn_94) (fun _ h9 => h9) rfl d_CM_count_113 ?_
    refine W.widen (k := 0) (n := 0) (Nat.le_of_ble_eq_true rfl) (Nat.le_of_ble_eq_true rfl) ?_
    exact W.iret (v := 0) hx hb hr (fun t ht hW => ⟨⟨0, (), rfl, by decide, trivial⟩, hS.F ht⟩) hS.2.2 d_CM_count_116
  · refine lv_tableIn (tgt := 117) hx hb d_CM_count_1 (by decide) (by decide) (off := 116) rfl (by decide) ?_
    refine lv_aload_n hx hb d_CM_count_117 rfl (lv_at hl 0 rfl) ?_
    refine va_get (D := (dC, dI)) (ci := 5) (v := .ref mc) (C := "ChannelMachine") (T := F_CM) (N := 3) hx hb hts i_CM hown hK hP 0 rfl rfl 1 (by decide) (hts _ k_195) (fun _ h9 => h9) rfl d_CM_count_118 ?_
    refine va_getN (D := (dC, dI)) (ci := 2) (v := .int 0) (C := "ChannelMachine$Machine") (T := F_Machine) (N := 11) hx hb hts i_Machine hown hK hP 1 rfl rfl 7 (by decide) (hU.2.1 _ kn_164) (fun _ h9 => h9) rfl d_CM_count_121 ?_
    refine W.widen (k := 0) (n := 0) (Nat.le_of_ble_eq_true rfl) (Nat.le_of_ble_eq_true rfl) ?_
    exact W.iret (v := 0) hx hb hr (fun t ht hW => ⟨⟨0, (), rfl, by decide, trivial⟩, hS.F ht⟩) hS.2.2 d_CM_count_124
  · refine lv_tableIn (tgt := 125) hx hb d_CM_count_1 (by decide) (by decide) (off := 124) rfl (by decide) ?_
    refine lv_aload_n hx hb d_CM_count_125 rfl (lv_at hl 0 rfl) ?_
    refine va_get (D := (dC, dI)) (ci := 5) (v := .ref mc) (C := "ChannelMachine") (T := F_CM) (N := 3) hx hb hts i_CM hown hK hP 0 rfl rfl 1 (by decide) (hts _ k_195) (fun _ h9 => h9) rfl d_CM_count_126 ?_
    refine va_getN (D := (dC, dI)) (ci := 2) (v := .ref sl) (C := "ChannelMachine$Machine") (T := F_Machine) (N := 11) hx hb hts i_Machine hown hK hP 1 rfl rfl 5 (by decide) (hU.2.1 _ kn_161) (fun _ h9 => h9) rfl d_CM_count_129 ?_
    have hPc := hP.sub (ws' := [(sl, .inr (0, [.ref sa, .int 0, .int 0]))]) [5] rfl
    have hDc := hD.sub (ws' := [(sl, .inr (0, [.ref sa, .int 0, .int 0]))]) [5] (by decide) rfl
    have hFc := va_free (wc := [(sl, .inr (0, [.ref sa, .int 0, .int 0]))]) hD hS hA [5] rfl
    refine va_callFi (va_runF (As := []) (rest := []) (hK.1 0 _ rfl).2 ⟨hx, hb, hml, hown, hts⟩ (c_List_size l dC dI ar N0 z sl sa s.heap.size) (va_cwF 0 hts (x_goodF k_209 k_213 k_215 k_7 k_217) rfl rfl rfl hU.2.2.2.2.1 (by decide +kernel) ⟨Nat.le_of_ble_eq_true rfl, Nat.le_of_ble_eq_true rfl⟩) ⟨x_blind, va_recv hK hPc (ci := 0) (q0 := 0) rfl rfl, fun U hU9 hW => x_pre hU9 hW hPc hDc hU hZ hS hAN hN0⟩ rfl rfl hl.1 rfl (lv_room (Nat.le_of_ble_eq_true rfl)) d_CM_count_132 ⟨Nat.le_of_ble_eq_true rfl, Nat.le_of_ble_eq_true rfl⟩) hS (fun q _ h => hFc q h) hFc (fun r9 u t H1 locs ht hvm hw hB hz1 hk1 hS => ?_)
    obtain ⟨hP1, hD1⟩ := hB
    rw [ht] at hP1
    obtain ⟨hP, hD⟩ := va_join (wr := [(h0, .inr (5, [.ref rd, .ref mc, .int (-1)])), (mc, .inr (2, [.ref va, .ref ch, .ref gi, .ref bo, .ref qu, .ref sl, .ref sk, .int 0, .int 0, .int 0, .long 0])), (gi, .inr (4, [.ref gv, .int 0])), (bo, .inr (4, [.ref bv, .int 0])), (qu, .inr (0, [.ref qa, .int 0, .int 0]))]) (w1 := [(sl, .inr (0, [.ref sa, .int 0, .int 0]))]) hP hD [5] [0, 1, 2, 3, 4] rfl rfl (by decide) (by decide) hk1 hFc hP1 hD1
    generalize H1 = H at hP hS ⊢
    have hP : va_P (dC, dI) x_cl [(h0, .inr (5, [.ref rd, .ref mc, .int (-1)])), (mc, .inr (2, [.ref va, .ref ch, .ref gi, .ref bo, .ref qu, .ref sl, .ref sk, .int 0, .int 0, .int 0, .long 0])), (gi, .inr (4, [.ref gv, .int 0])), (bo, .inr (4, [.ref bv, .int 0])), (qu, .inr (0, [.ref qa, .int 0, .int 0])), (sl, .inr (0, [.ref sa, .int 0, .int 0]))] H := hP
    have hD : va_D A [(h0, .inr (5, [.ref rd, .ref mc, .int (-1)])), (mc, .inr (2, [.ref va, .ref ch, .ref gi, .ref bo, .ref qu, .ref sl, .ref sk, .int 0, .int 0, .int 0, .long 0])), (gi, .inr (4, [.ref gv, .int 0])), (bo, .inr (4, [.ref bv, .int 0])), (qu, .inr (0, [.ref qa, .int 0, .int 0])), (sl, .inr (0, [.ref sa, .int 0, .int 0]))] := hD
    refine W.widen (k := 0) (n := 0) (Nat.le_of_ble_eq_true rfl) (Nat.le_of_ble_eq_true rfl) ?_
    obtain rfl := hw
    refine W.widen (k := 0) (n := 0) (Nat.le_of_ble_eq_true rfl) (Nat.le_of_ble_eq_true rfl) ?_
    exact W.iret (v := 0) hx hb hr (fun t ht hW => ⟨⟨0, (), rfl, by decide, trivial⟩, hS.F ht⟩) hS.2.2 d_CM_count_137
