-- ===== 97.yparts: begin, endOfLast, lastExpression, condition, guardInput, by program =====
theorem k_342 : (Jvm.Cond.methodLink "ChannelMachine$Reader" (113 : Nat) ({ cls := "ChannelMachine$Reader", name := "lookBehindNext", desc := "()C" } : Jvm.MethodName)) ∈ x_T := x_at 342 (by decide +kernel) (by decide +kernel)
theorem k_344 : (Jvm.Cond.instanceMethod ({ cls := "ChannelMachine$Reader", name := "lookBehindNext", desc := "()C" } : Jvm.MethodName)) ∈ x_T := x_at 344 (by decide +kernel) (by decide +kernel)
theorem k_345 : (Jvm.Cond.code ({ cls := "ChannelMachine$Reader", name := "lookBehindNext", desc := "()C" } : Jvm.MethodName) prog_8_method_6_code (1 : Nat) (Option.some Jvm.ClassFile.FieldType.char)) ∈ x_T := x_at 345 (by decide +kernel) (by decide +kernel)
theorem k_346 : (Jvm.Cond.methodLink "ChannelMachine$Reader" (116 : Nat) ({ cls := "ChannelMachine$Reader", name := "kindOf", desc := "(CC)LChannelMachine$Kind;" } : Jvm.MethodName)) ∈ x_T := x_at 346 (by decide +kernel) (by decide +kernel)
theorem k_347 : (Jvm.Cond.static ({ cls := "ChannelMachine$Reader", name := "kindOf", desc := "(CC)LChannelMachine$Kind;" } : Jvm.MethodName)) ∈ x_T := x_at 347 (by decide +kernel) (by decide +kernel)
theorem k_348 : (Jvm.Cond.code ({ cls := "ChannelMachine$Reader", name := "kindOf", desc := "(CC)LChannelMachine$Kind;" } : Jvm.MethodName) prog_8_method_15_code (2 : Nat) (Option.some (Jvm.ClassFile.FieldType.object "ChannelMachine$Kind"))) ∈ x_T := x_at 348 (by decide +kernel) (by decide +kernel)
theorem k_377 : (Jvm.Cond.methodLink "ChannelMachine$Reader" (126 : Nat) ({ cls := "ChannelMachine$Reader", name := "added", desc := "(LChannelMachine$Kind;LChannelMachine$Process;)LChannelMachine$Process;" } : Jvm.MethodName)) ∈ x_T := x_at 377 (by decide +kernel) (by decide +kernel)
theorem k_379 : (Jvm.Cond.instanceMethod ({ cls := "ChannelMachine$Reader", name := "added", desc := "(LChannelMachine$Kind;LChannelMachine$Process;)LChannelMachine$Process;" } : Jvm.MethodName)) ∈ x_T := x_at 379 (by decide +kernel) (by decide +kernel)
theorem k_380 : (Jvm.Cond.code ({ cls := "ChannelMachine$Reader", name := "added", desc := "(LChannelMachine$Kind;LChannelMachine$Process;)LChannelMachine$Process;" } : Jvm.MethodName) prog_8_method_16_code (5 : Nat) (Option.some (Jvm.ClassFile.FieldType.object "ChannelMachine$Process"))) ∈ x_T := x_at 380 (by decide +kernel) (by decide +kernel)
theorem k_500 : (Jvm.Cond.methodLink "ChannelMachine$Reader" (191 : Nat) ({ cls := "ChannelMachine$Reader", name := "expression", desc := "()Z" } : Jvm.MethodName)) ∈ x_T := x_at 500 (by decide +kernel) (by decide +kernel)
theorem k_502 : (Jvm.Cond.instanceMethod ({ cls := "ChannelMachine$Reader", name := "expression", desc := "()Z" } : Jvm.MethodName)) ∈ x_T := x_at 502 (by decide +kernel) (by decide +kernel)
theorem k_503 : (Jvm.Cond.code ({ cls := "ChannelMachine$Reader", name := "expression", desc := "()Z" } : Jvm.MethodName) prog_8_method_24_code (1 : Nat) (Option.some Jvm.ClassFile.FieldType.boolean)) ∈ x_T := x_at 503 (by decide +kernel) (by decide +kernel)
theorem k_526 : (Jvm.Cond.methodLink "ChannelMachine$Reader" (194 : Nat) ({ cls := "ChannelMachine$Reader", name := "codeRead", desc := "()[I" } : Jvm.MethodName)) ∈ x_T := x_at 526 (by decide +kernel) (by decide +kernel)
theorem k_528 : (Jvm.Cond.instanceMethod ({ cls := "ChannelMachine$Reader", name := "codeRead", desc := "()[I" } : Jvm.MethodName)) ∈ x_T := x_at 528 (by decide +kernel) (by decide +kernel)
theorem k_529 : (Jvm.Cond.code ({ cls := "ChannelMachine$Reader", name := "codeRead", desc := "()[I" } : Jvm.MethodName) prog_8_method_25_code (1 : Nat) (Option.some (Jvm.ClassFile.FieldType.array Jvm.ClassFile.FieldType.int))) ∈ x_T := x_at 529 (by decide +kernel) (by decide +kernel)
theorem k_546 : (Jvm.Cond.methodLink "ChannelMachine$Reader" (92 : Nat) ({ cls := "ChannelMachine$Reader", name := "inputVariable", desc := "()I" } : Jvm.MethodName)) ∈ x_T := x_at 546 (by decide +kernel) (by decide +kernel)
theorem k_548 : (Jvm.Cond.instanceMethod ({ cls := "ChannelMachine$Reader", name := "inputVariable", desc := "()I" } : Jvm.MethodName)) ∈ x_T := x_at 548 (by decide +kernel) (by decide +kernel)
theorem k_549 : (Jvm.Cond.code ({ cls := "ChannelMachine$Reader", name := "inputVariable", desc := "()I" } : Jvm.MethodName) prog_8_method_9_code (2 : Nat) (Option.some Jvm.ClassFile.FieldType.int)) ∈ x_T := x_at 549 (by decide +kernel) (by decide +kernel)
theorem kn_415 : (Jvm.Cond.fieldLinkNest "ChannelMachine$Reader" (213 : Nat) "ChannelMachine$Process" "code" "[I" "ChannelMachine") ∈ x_nest := x_nest_at 415 (by decide +kernel) (by decide +kernel)
theorem kn_418 : (Jvm.Cond.fieldLinkNest "ChannelMachine$Reader" (134 : Nat) "ChannelMachine$Process" "channel" "I" "ChannelMachine") ∈ x_nest := x_nest_at 418 (by decide +kernel) (by decide +kernel)
theorem kn_421 : (Jvm.Cond.fieldLinkNest "ChannelMachine$Reader" (95 : Nat) "ChannelMachine$Process" "variable" "I" "ChannelMachine") ∈ x_nest := x_nest_at 421 (by decide +kernel) (by decide +kernel)
theorem kn_573 : (Jvm.Cond.fieldLinkNest "ChannelMachine$Reader" (211 : Nat) "ChannelMachine$Guard" "channel" "I" "ChannelMachine") ∈ x_nest := x_nest_at 573 (by decide +kernel) (by decide +kernel)
theorem kn_576 : (Jvm.Cond.fieldLinkNest "ChannelMachine$Reader" (212 : Nat) "ChannelMachine$Guard" "variable" "I" "ChannelMachine") ∈ x_nest := x_nest_at 576 (by decide +kernel) (by decide +kernel)
theorem kp_4 : (Jvm.Cond.selects "ChannelMachine$Reader" ({ cls := "ChannelMachine$Reader", name := "lookBehindNext", desc := "()C" } : Jvm.MethodName) ({ cls := "ChannelMachine$Reader", name := "lookBehindNext", desc := "()C" } : Jvm.MethodName)) ∈ x_T := x_sel (q := (({ cls := "ChannelMachine$Reader", name := "lookBehindNext", desc := "()C" } : Jvm.MethodName), 9)) 4 (by decide +kernel) (by decide +kernel)
theorem kp_5 : (Jvm.Cond.selects "ChannelMachine$Reader" ({ cls := "ChannelMachine$Reader", name := "added", desc := "(LChannelMachine$Kind;LChannelMachine$Process;)LChannelMachine$Process;" } : Jvm.MethodName) ({ cls := "ChannelMachine$Reader", name := "added", desc := "(LChannelMachine$Kind;LChannelMachine$Process;)LChannelMachine$Process;" } : Jvm.MethodName)) ∈ x_T := x_sel (q := (({ cls := "ChannelMachine$Reader", name := "added", desc := "(LChannelMachine$Kind;LChannelMachine$Process;)LChannelMachine$Process;" } : Jvm.MethodName), 9)) 5 (by decide +kernel) (by decide +kernel)
theorem kp_9 : (Jvm.Cond.selects "ChannelMachine$Reader" ({ cls := "ChannelMachine$Reader", name := "expression", desc := "()Z" } : Jvm.MethodName) ({ cls := "ChannelMachine$Reader", name := "expression", desc := "()Z" } : Jvm.MethodName)) ∈ x_T := x_sel (q := (({ cls := "ChannelMachine$Reader", name := "expression", desc := "()Z" } : Jvm.MethodName), 9)) 9 (by decide +kernel) (by decide +kernel)
theorem kp_14 : (Jvm.Cond.selects "ChannelMachine$Reader" ({ cls := "ChannelMachine$Reader", name := "codeRead", desc := "()[I" } : Jvm.MethodName) ({ cls := "ChannelMachine$Reader", name := "codeRead", desc := "()[I" } : Jvm.MethodName)) ∈ x_T := x_sel (q := (({ cls := "ChannelMachine$Reader", name := "codeRead", desc := "()[I" } : Jvm.MethodName), 9)) 14 (by decide +kernel) (by decide +kernel)
theorem kp_15 : (Jvm.Cond.selects "ChannelMachine$Reader" ({ cls := "ChannelMachine$Reader", name := "inputVariable", desc := "()I" } : Jvm.MethodName) ({ cls := "ChannelMachine$Reader", name := "inputVariable", desc := "()I" } : Jvm.MethodName)) ∈ x_T := x_sel (q := (({ cls := "ChannelMachine$Reader", name := "inputVariable", desc := "()I" } : Jvm.MethodName), 9)) 15 (by decide +kernel) (by decide +kernel)
theorem d_Reader_begin_0 : decode prog_8_method_14_code 0 = .ok (.aload_n 0, 1) := by decide +kernel
theorem d_Reader_begin_1 : decode prog_8_method_14_code 1 = .ok (.invokevirtual 52, 3) := by decide +kernel
theorem d_Reader_begin_4 : decode prog_8_method_14_code 4 = .ok (.istore_n 3, 1) := by decide +kernel
theorem d_Reader_begin_5 : decode prog_8_method_14_code 5 = .ok (.iload_n 3, 1) := by decide +kernel
theorem d_Reader_begin_6 : decode prog_8_method_14_code 6 = .ok (.aload_n 0, 1) := by decide +kernel
theorem d_Reader_begin_7 : decode prog_8_method_14_code 7 = .ok (.invokevirtual 113, 3) := by decide +kernel
theorem d_Reader_begin_10 : decode prog_8_method_14_code 10 = .ok (.invokestatic 116, 3) := by decide +kernel
theorem d_Reader_begin_13 : decode prog_8_method_14_code 13 = .ok (.astore 4, 2) := by decide +kernel
theorem d_Reader_begin_15 : decode prog_8_method_14_code 15 = .ok (.aload 4, 2) := by decide +kernel
theorem d_Reader_begin_17 : decode prog_8_method_14_code 17 = .ok (.getstatic 120, 3) := by decide +kernel
theorem d_Reader_begin_20 : decode prog_8_method_14_code 20 = .ok (.if_acmp .eq 11, 3) := by decide +kernel
theorem d_Reader_begin_23 : decode prog_8_method_14_code 23 = .ok (.aload 4, 2) := by decide +kernel
theorem d_Reader_begin_25 : decode prog_8_method_14_code 25 = .ok (.getstatic 123, 3) := by decide +kernel
theorem d_Reader_begin_28 : decode prog_8_method_14_code 28 = .ok (.if_acmp .ne 7, 3) := by decide +kernel
theorem d_Reader_begin_31 : decode prog_8_method_14_code 31 = .ok (.iconst 1, 1) := by decide +kernel
theorem d_Reader_begin_32 : decode prog_8_method_14_code 32 = .ok (.goto 4, 3) := by decide +kernel
theorem d_Reader_begin_35 : decode prog_8_method_14_code 35 = .ok (.iconst 0, 1) := by decide +kernel
theorem d_Reader_begin_36 : decode prog_8_method_14_code 36 = .ok (.istore 5, 2) := by decide +kernel
theorem d_Reader_begin_38 : decode prog_8_method_14_code 38 = .ok (.aload 4, 2) := by decide +kernel
theorem d_Reader_begin_40 : decode prog_8_method_14_code 40 = .ok (.ifnull 14, 3) := by decide +kernel
theorem d_Reader_begin_43 : decode prog_8_method_14_code 43 = .ok (.iload 5, 2) := by decide +kernel
theorem d_Reader_begin_45 : decode prog_8_method_14_code 45 = .ok (.ifCond .eq 11, 3) := by decide +kernel
theorem d_Reader_begin_48 : decode prog_8_method_14_code 48 = .ok (.iload_n 2, 1) := by decide +kernel
theorem d_Reader_begin_49 : decode prog_8_method_14_code 49 = .ok (.bipush 7, 2) := by decide +kernel
theorem d_Reader_begin_51 : decode prog_8_method_14_code 51 = .ok (.if_icmp .ne 5, 3) := by decide +kernel
theorem d_Reader_begin_54 : decode prog_8_method_14_code 54 = .ok (.aconst_null, 1) := by decide +kernel
theorem d_Reader_begin_55 : decode prog_8_method_14_code 55 = .ok (.areturn, 1) := by decide +kernel
theorem d_Reader_begin_56 : decode prog_8_method_14_code 56 = .ok (.aload_n 0, 1) := by decide +kernel
theorem d_Reader_begin_57 : decode prog_8_method_14_code 57 = .ok (.aload 4, 2) := by decide +kernel
theorem d_Reader_begin_59 : decode prog_8_method_14_code 59 = .ok (.aload_n 1, 1) := by decide +kernel
theorem d_Reader_begin_60 : decode prog_8_method_14_code 60 = .ok (.invokevirtual 126, 3) := by decide +kernel
theorem d_Reader_begin_63 : decode prog_8_method_14_code 63 = .ok (.astore 6, 2) := by decide +kernel
theorem d_Reader_begin_65 : decode prog_8_method_14_code 65 = .ok (.aload 6, 2) := by decide +kernel
theorem d_Reader_begin_67 : decode prog_8_method_14_code 67 = .ok (.iload_n 3, 1) := by decide +kernel
theorem d_Reader_begin_68 : decode prog_8_method_14_code 68 = .ok (.invokestatic 130, 3) := by decide +kernel
theorem d_Reader_begin_71 : decode prog_8_method_14_code 71 = .ok (.putfield 134, 3) := by decide +kernel
theorem d_Reader_begin_74 : decode prog_8_method_14_code 74 = .ok (.aload 4, 2) := by decide +kernel
theorem d_Reader_begin_76 : decode prog_8_method_14_code 76 = .ok (.getstatic 137, 3) := by decide +kernel
theorem d_Reader_begin_79 : decode prog_8_method_14_code 79 = .ok (.if_acmp .ne 12, 3) := by decide +kernel
theorem d_Reader_begin_82 : decode prog_8_method_14_code 82 = .ok (.aload 6, 2) := by decide +kernel
theorem d_Reader_begin_84 : decode prog_8_method_14_code 84 = .ok (.iload_n 3, 1) := by decide +kernel
theorem d_Reader_begin_85 : decode prog_8_method_14_code 85 = .ok (.bipush 97, 2) := by decide +kernel
theorem d_Reader_begin_87 : decode prog_8_method_14_code 87 = .ok (.isub, 1) := by decide +kernel
theorem d_Reader_begin_88 : decode prog_8_method_14_code 88 = .ok (.putfield 95, 3) := by decide +kernel
theorem d_Reader_begin_91 : decode prog_8_method_14_code 91 = .ok (.aload_n 0, 1) := by decide +kernel
theorem d_Reader_begin_92 : decode prog_8_method_14_code 92 = .ok (.dup, 1) := by decide +kernel
theorem d_Reader_begin_93 : decode prog_8_method_14_code 93 = .ok (.getfield 29, 3) := by decide +kernel
theorem d_Reader_begin_96 : decode prog_8_method_14_code 96 = .ok (.iconst 1, 1) := by decide +kernel
theorem d_Reader_begin_97 : decode prog_8_method_14_code 97 = .ok (.iadd, 1) := by decide +kernel
theorem d_Reader_begin_98 : decode prog_8_method_14_code 98 = .ok (.putfield 29, 3) := by decide +kernel
theorem d_Reader_begin_101 : decode prog_8_method_14_code 101 = .ok (.aload 6, 2) := by decide +kernel
theorem d_Reader_begin_103 : decode prog_8_method_14_code 103 = .ok (.areturn, 1) := by decide +kernel
theorem d_Reader_lastExpression_0 : decode prog_8_method_22_code 0 = .ok (.aload_n 0, 1) := by decide +kernel
theorem d_Reader_lastExpression_1 : decode prog_8_method_22_code 1 = .ok (.iload_n 2, 1) := by decide +kernel
theorem d_Reader_lastExpression_2 : decode prog_8_method_22_code 2 = .ok (.putfield 26, 3) := by decide +kernel
theorem d_Reader_lastExpression_5 : decode prog_8_method_22_code 5 = .ok (.aload_n 0, 1) := by decide +kernel
theorem d_Reader_lastExpression_6 : decode prog_8_method_22_code 6 = .ok (.invokevirtual 191, 3) := by decide +kernel
theorem d_Reader_lastExpression_9 : decode prog_8_method_22_code 9 = .ok (.istore_n 3, 1) := by decide +kernel
theorem d_Reader_lastExpression_10 : decode prog_8_method_22_code 10 = .ok (.aload_n 0, 1) := by decide +kernel
theorem d_Reader_lastExpression_11 : decode prog_8_method_22_code 11 = .ok (.aload_n 0, 1) := by decide +kernel
theorem d_Reader_lastExpression_12 : decode prog_8_method_22_code 12 = .ok (.getfield 19, 3) := by decide +kernel
theorem d_Reader_lastExpression_15 : decode prog_8_method_22_code 15 = .ok (.putfield 26, 3) := by decide +kernel
theorem d_Reader_lastExpression_18 : decode prog_8_method_22_code 18 = .ok (.aload_n 1, 1) := by decide +kernel
theorem d_Reader_lastExpression_19 : decode prog_8_method_22_code 19 = .ok (.aload_n 0, 1) := by decide +kernel
theorem d_Reader_lastExpression_20 : decode prog_8_method_22_code 20 = .ok (.invokevirtual 194, 3) := by decide +kernel
theorem d_Reader_lastExpression_23 : decode prog_8_method_22_code 23 = .ok (.putfield 213, 3) := by decide +kernel
theorem d_Reader_lastExpression_26 : decode prog_8_method_22_code 26 = .ok (.iload_n 3, 1) := by decide +kernel
theorem d_Reader_lastExpression_27 : decode prog_8_method_22_code 27 = .ok (.ireturn, 1) := by decide +kernel
theorem d_Reader_condition_0 : decode prog_8_method_21_code 0 = .ok (.aload_n 0, 1) := by decide +kernel
theorem d_Reader_condition_1 : decode prog_8_method_21_code 1 = .ok (.invokevirtual 191, 3) := by decide +kernel
theorem d_Reader_condition_4 : decode prog_8_method_21_code 4 = .ok (.ifCond .ne 5, 3) := by decide +kernel
theorem d_Reader_condition_7 : decode prog_8_method_21_code 7 = .ok (.iconst 0, 1) := by decide +kernel
theorem d_Reader_condition_8 : decode prog_8_method_21_code 8 = .ok (.ireturn, 1) := by decide +kernel
theorem d_Reader_condition_9 : decode prog_8_method_21_code 9 = .ok (.aload_n 1, 1) := by decide +kernel
theorem d_Reader_condition_10 : decode prog_8_method_21_code 10 = .ok (.aload_n 0, 1) := by decide +kernel
theorem d_Reader_condition_11 : decode prog_8_method_21_code 11 = .ok (.invokevirtual 194, 3) := by decide +kernel
theorem d_Reader_condition_14 : decode prog_8_method_21_code 14 = .ok (.putfield 213, 3) := by decide +kernel
theorem d_Reader_condition_17 : decode prog_8_method_21_code 17 = .ok (.aload_n 0, 1) := by decide +kernel
theorem d_Reader_condition_18 : decode prog_8_method_21_code 18 = .ok (.bipush 44, 2) := by decide +kernel
theorem d_Reader_condition_20 : decode prog_8_method_21_code 20 = .ok (.invokevirtual 56, 3) := by decide +kernel
theorem d_Reader_condition_23 : decode prog_8_method_21_code 23 = .ok (.ireturn, 1) := by decide +kernel
theorem d_Reader_guardInput_0 : decode prog_8_method_20_code 0 = .ok (.aload_n 0, 1) := by decide +kernel
theorem d_Reader_guardInput_1 : decode prog_8_method_20_code 1 = .ok (.invokevirtual 52, 3) := by decide +kernel
theorem d_Reader_guardInput_4 : decode prog_8_method_20_code 4 = .ok (.istore_n 2, 1) := by decide +kernel
theorem d_Reader_guardInput_5 : decode prog_8_method_20_code 5 = .ok (.iload_n 2, 1) := by decide +kernel
theorem d_Reader_guardInput_6 : decode prog_8_method_20_code 6 = .ok (.bipush 46, 2) := by decide +kernel
theorem d_Reader_guardInput_8 : decode prog_8_method_20_code 8 = .ok (.if_icmp .ne 15, 3) := by decide +kernel
theorem d_Reader_guardInput_11 : decode prog_8_method_20_code 11 = .ok (.aload_n 0, 1) := by decide +kernel
theorem d_Reader_guardInput_12 : decode prog_8_method_20_code 12 = .ok (.dup, 1) := by decide +kernel
theorem d_Reader_guardInput_13 : decode prog_8_method_20_code 13 = .ok (.getfield 29, 3) := by decide +kernel
theorem d_Reader_guardInput_16 : decode prog_8_method_20_code 16 = .ok (.iconst 1, 1) := by decide +kernel
theorem d_Reader_guardInput_17 : decode prog_8_method_20_code 17 = .ok (.iadd, 1) := by decide +kernel
theorem d_Reader_guardInput_18 : decode prog_8_method_20_code 18 = .ok (.putfield 29, 3) := by decide +kernel
theorem d_Reader_guardInput_21 : decode prog_8_method_20_code 21 = .ok (.iconst 1, 1) := by decide +kernel
theorem d_Reader_guardInput_22 : decode prog_8_method_20_code 22 = .ok (.ireturn, 1) := by decide +kernel
theorem d_Reader_guardInput_23 : decode prog_8_method_20_code 23 = .ok (.aload_n 1, 1) := by decide +kernel
theorem d_Reader_guardInput_24 : decode prog_8_method_20_code 24 = .ok (.iload_n 2, 1) := by decide +kernel
theorem d_Reader_guardInput_25 : decode prog_8_method_20_code 25 = .ok (.invokestatic 130, 3) := by decide +kernel
theorem d_Reader_guardInput_28 : decode prog_8_method_20_code 28 = .ok (.putfield 211, 3) := by decide +kernel
theorem d_Reader_guardInput_31 : decode prog_8_method_20_code 31 = .ok (.aload_n 1, 1) := by decide +kernel
theorem d_Reader_guardInput_32 : decode prog_8_method_20_code 32 = .ok (.getfield 211, 3) := by decide +kernel
theorem d_Reader_guardInput_35 : decode prog_8_method_20_code 35 = .ok (.iconst (-1), 1) := by decide +kernel
theorem d_Reader_guardInput_36 : decode prog_8_method_20_code 36 = .ok (.if_icmp .eq 11, 3) := by decide +kernel
theorem d_Reader_guardInput_39 : decode prog_8_method_20_code 39 = .ok (.aload_n 1, 1) := by decide +kernel
theorem d_Reader_guardInput_40 : decode prog_8_method_20_code 40 = .ok (.getfield 211, 3) := by decide +kernel
theorem d_Reader_guardInput_43 : decode prog_8_method_20_code 43 = .ok (.iconst 5, 1) := by decide +kernel
theorem d_Reader_guardInput_44 : decode prog_8_method_20_code 44 = .ok (.if_icmp .ne 8, 3) := by decide +kernel
theorem d_Reader_guardInput_47 : decode prog_8_method_20_code 47 = .ok (.aload_n 0, 1) := by decide +kernel
theorem d_Reader_guardInput_48 : decode prog_8_method_20_code 48 = .ok (.invokevirtual 42, 3) := by decide +kernel
theorem d_Reader_guardInput_51 : decode prog_8_method_20_code 51 = .ok (.ireturn, 1) := by decide +kernel
theorem d_Reader_guardInput_52 : decode prog_8_method_20_code 52 = .ok (.aload_n 0, 1) := by decide +kernel
theorem d_Reader_guardInput_53 : decode prog_8_method_20_code 53 = .ok (.dup, 1) := by decide +kernel
theorem d_Reader_guardInput_54 : decode prog_8_method_20_code 54 = .ok (.getfield 29, 3) := by decide +kernel
theorem d_Reader_guardInput_57 : decode prog_8_method_20_code 57 = .ok (.iconst 1, 1) := by decide +kernel
theorem d_Reader_guardInput_58 : decode prog_8_method_20_code 58 = .ok (.iadd, 1) := by decide +kernel
theorem d_Reader_guardInput_59 : decode prog_8_method_20_code 59 = .ok (.putfield 29, 3) := by decide +kernel
theorem d_Reader_guardInput_62 : decode prog_8_method_20_code 62 = .ok (.aload_n 1, 1) := by decide +kernel
theorem d_Reader_guardInput_63 : decode prog_8_method_20_code 63 = .ok (.aload_n 0, 1) := by decide +kernel
theorem d_Reader_guardInput_64 : decode prog_8_method_20_code 64 = .ok (.invokevirtual 92, 3) := by decide +kernel
theorem d_Reader_guardInput_67 : decode prog_8_method_20_code 67 = .ok (.putfield 212, 3) := by decide +kernel
theorem d_Reader_guardInput_70 : decode prog_8_method_20_code 70 = .ok (.aload_n 1, 1) := by decide +kernel
theorem d_Reader_guardInput_71 : decode prog_8_method_20_code 71 = .ok (.getfield 212, 3) := by decide +kernel
theorem d_Reader_guardInput_74 : decode prog_8_method_20_code 74 = .ok (.iconst (-1), 1) := by decide +kernel
theorem d_Reader_guardInput_75 : decode prog_8_method_20_code 75 = .ok (.if_icmp .eq 7, 3) := by decide +kernel
theorem d_Reader_guardInput_78 : decode prog_8_method_20_code 78 = .ok (.iconst 1, 1) := by decide +kernel
theorem d_Reader_guardInput_79 : decode prog_8_method_20_code 79 = .ok (.goto 4, 3) := by decide +kernel
theorem d_Reader_guardInput_82 : decode prog_8_method_20_code 82 = .ok (.iconst 0, 1) := by decide +kernel
theorem d_Reader_guardInput_83 : decode prog_8_method_20_code 83 = .ok (.ireturn, 1) := by decide +kernel
theorem d_Reader_endOfLast_0 : decode prog_8_method_23_code 0 = .ok (.aload_n 0, 1) := by decide +kernel
theorem d_Reader_endOfLast_1 : decode prog_8_method_23_code 1 = .ok (.getfield 29, 3) := by decide +kernel
theorem d_Reader_endOfLast_4 : decode prog_8_method_23_code 4 = .ok (.istore_n 2, 1) := by decide +kernel
theorem d_Reader_endOfLast_5 : decode prog_8_method_23_code 5 = .ok (.aload_n 0, 1) := by decide +kernel
theorem d_Reader_endOfLast_6 : decode prog_8_method_23_code 6 = .ok (.getfield 19, 3) := by decide +kernel
theorem d_Reader_endOfLast_9 : decode prog_8_method_23_code 9 = .ok (.istore_n 3, 1) := by decide +kernel
theorem d_Reader_endOfLast_10 : decode prog_8_method_23_code 10 = .ok (.aload_n 0, 1) := by decide +kernel
theorem d_Reader_endOfLast_11 : decode prog_8_method_23_code 11 = .ok (.getfield 19, 3) := by decide +kernel
theorem d_Reader_endOfLast_14 : decode prog_8_method_23_code 14 = .ok (.iconst 1, 1) := by decide +kernel
theorem d_Reader_endOfLast_15 : decode prog_8_method_23_code 15 = .ok (.isub, 1) := by decide +kernel
theorem d_Reader_endOfLast_16 : decode prog_8_method_23_code 16 = .ok (.istore 4, 2) := by decide +kernel
theorem d_Reader_endOfLast_18 : decode prog_8_method_23_code 18 = .ok (.iload_n 1, 1) := by decide +kernel
theorem d_Reader_endOfLast_19 : decode prog_8_method_23_code 19 = .ok (.ifCond .eq 89, 3) := by decide +kernel
theorem d_Reader_endOfLast_22 : decode prog_8_method_23_code 22 = .ok (.iload 4, 2) := by decide +kernel
theorem d_Reader_endOfLast_24 : decode prog_8_method_23_code 24 = .ok (.iload_n 2, 1) := by decide +kernel
theorem d_Reader_endOfLast_25 : decode prog_8_method_23_code 25 = .ok (.if_icmp .le 83, 3) := by decide +kernel
theorem d_Reader_endOfLast_28 : decode prog_8_method_23_code 28 = .ok (.iload_n 3, 1) := by decide +kernel
theorem d_Reader_endOfLast_29 : decode prog_8_method_23_code 29 = .ok (.aload_n 0, 1) := by decide +kernel
theorem d_Reader_endOfLast_30 : decode prog_8_method_23_code 30 = .ok (.getfield 19, 3) := by decide +kernel
theorem d_Reader_endOfLast_33 : decode prog_8_method_23_code 33 = .ok (.if_icmp .ne 75, 3) := by decide +kernel
theorem d_Reader_endOfLast_36 : decode prog_8_method_23_code 36 = .ok (.aload_n 0, 1) := by decide +kernel
theorem d_Reader_endOfLast_37 : decode prog_8_method_23_code 37 = .ok (.iload_n 2, 1) := by decide +kernel
theorem d_Reader_endOfLast_38 : decode prog_8_method_23_code 38 = .ok (.putfield 29, 3) := by decide +kernel
theorem d_Reader_endOfLast_41 : decode prog_8_method_23_code 41 = .ok (.aload_n 0, 1) := by decide +kernel
theorem d_Reader_endOfLast_42 : decode prog_8_method_23_code 42 = .ok (.iload 4, 2) := by decide +kernel
theorem d_Reader_endOfLast_44 : decode prog_8_method_23_code 44 = .ok (.putfield 26, 3) := by decide +kernel
theorem d_Reader_endOfLast_47 : decode prog_8_method_23_code 47 = .ok (.aload_n 0, 1) := by decide +kernel
theorem d_Reader_endOfLast_48 : decode prog_8_method_23_code 48 = .ok (.invokevirtual 191, 3) := by decide +kernel
theorem d_Reader_endOfLast_51 : decode prog_8_method_23_code 51 = .ok (.ifCond .eq 16, 3) := by decide +kernel
theorem d_Reader_endOfLast_54 : decode prog_8_method_23_code 54 = .ok (.aload_n 0, 1) := by decide +kernel
theorem d_Reader_endOfLast_55 : decode prog_8_method_23_code 55 = .ok (.getfield 29, 3) := by decide +kernel
theorem d_Reader_endOfLast_58 : decode prog_8_method_23_code 58 = .ok (.iload 4, 2) := by decide +kernel
theorem d_Reader_endOfLast_60 : decode prog_8_method_23_code 60 = .ok (.if_icmp .ne 7, 3) := by decide +kernel
theorem d_Reader_endOfLast_63 : decode prog_8_method_23_code 63 = .ok (.iconst 1, 1) := by decide +kernel
theorem d_Reader_endOfLast_64 : decode prog_8_method_23_code 64 = .ok (.goto 4, 3) := by decide +kernel
theorem d_Reader_endOfLast_67 : decode prog_8_method_23_code 67 = .ok (.iconst 0, 1) := by decide +kernel
theorem d_Reader_endOfLast_68 : decode prog_8_method_23_code 68 = .ok (.istore 5, 2) := by decide +kernel
theorem d_Reader_endOfLast_70 : decode prog_8_method_23_code 70 = .ok (.aload_n 0, 1) := by decide +kernel
theorem d_Reader_endOfLast_71 : decode prog_8_method_23_code 71 = .ok (.aload_n 0, 1) := by decide +kernel
theorem d_Reader_endOfLast_72 : decode prog_8_method_23_code 72 = .ok (.getfield 19, 3) := by decide +kernel
theorem d_Reader_endOfLast_75 : decode prog_8_method_23_code 75 = .ok (.putfield 26, 3) := by decide +kernel
theorem d_Reader_endOfLast_78 : decode prog_8_method_23_code 78 = .ok (.iload 5, 2) := by decide +kernel
theorem d_Reader_endOfLast_80 : decode prog_8_method_23_code 80 = .ok (.ifCond .eq 22, 3) := by decide +kernel
theorem d_Reader_endOfLast_83 : decode prog_8_method_23_code 83 = .ok (.aload_n 0, 1) := by decide +kernel
theorem d_Reader_endOfLast_84 : decode prog_8_method_23_code 84 = .ok (.invokevirtual 191, 3) := by decide +kernel
theorem d_Reader_endOfLast_87 : decode prog_8_method_23_code 87 = .ok (.ifCond .eq 15, 3) := by decide +kernel
theorem d_Reader_endOfLast_90 : decode prog_8_method_23_code 90 = .ok (.aload_n 0, 1) := by decide +kernel
theorem d_Reader_endOfLast_91 : decode prog_8_method_23_code 91 = .ok (.bipush 38, 2) := by decide +kernel
theorem d_Reader_endOfLast_93 : decode prog_8_method_23_code 93 = .ok (.invokevirtual 56, 3) := by decide +kernel
theorem d_Reader_endOfLast_96 : decode prog_8_method_23_code 96 = .ok (.ifCond .eq 6, 3) := by decide +kernel
theorem d_Reader_endOfLast_99 : decode prog_8_method_23_code 99 = .ok (.iload 4, 2) := by decide +kernel
theorem d_Reader_endOfLast_101 : decode prog_8_method_23_code 101 = .ok (.istore_n 3, 1) := by decide +kernel
theorem d_Reader_endOfLast_102 : decode prog_8_method_23_code 102 = .ok (.iinc 4 (-1), 3) := by decide +kernel
theorem d_Reader_endOfLast_105 : decode prog_8_method_23_code 105 = .ok (.goto (-87), 3) := by decide +kernel
theorem d_Reader_endOfLast_108 : decode prog_8_method_23_code 108 = .ok (.aload_n 0, 1) := by decide +kernel
theorem d_Reader_endOfLast_109 : decode prog_8_method_23_code 109 = .ok (.iload_n 2, 1) := by decide +kernel
theorem d_Reader_endOfLast_110 : decode prog_8_method_23_code 110 = .ok (.putfield 29, 3) := by decide +kernel
theorem d_Reader_endOfLast_113 : decode prog_8_method_23_code 113 = .ok (.iload_n 3, 1) := by decide +kernel
theorem d_Reader_endOfLast_114 : decode prog_8_method_23_code 114 = .ok (.ireturn, 1) := by decide +kernel
theorem y_FX.put {f f1 : Nat → Option va_E} {G J G1 J1 : Nat → Nat} {Gs Gs1 : Nat → List Nat} {S S1 : Nat → Nat} {p s' : Nat} {e : va_E} (h : y_FX f G J Gs S f1 G1 J1 Gs1 S1) (hp : f p = none) : y_FX f G J Gs S (y_Lu f1 p e) G1 J1 Gs1 (y_un S1 p s') := fun a ha => by
  have hn : a ≠ p := fun e => ha (by rw [e]; exact hp)
  obtain ⟨a1, a2, a3, a4, a5, a6⟩ := h a ha
  rw [y_Lu_n hn, y_un_n hn]
  exact ⟨a1, a2, a3, a4, a5, a6⟩
set_option maxHeartbeats 4000000 in
set_option maxRecDepth 100000 in
theorem c_Rd_begin (l : Launch) (dC : Nat → ClassId) (dI : Nat → Nat → Nat) (ar : Nat → ClassId) (N0 : Nat) (z : Nat → Nat) (ad : Nat → Nat) (I : Nat → Int32) (T : Int64) (A : Nat → Nat → Int32) (O : Nat → Option Nat) (pl : va_W) (ln cl lm aa : Nat) (f0 : Nat → Option va_E) (G J : Nat → Nat) (C Gs : Nat → List Nat) (S : Nat → Nat) (par : Option Nat) (dp : Nat) (sz w0 : Nat) (hmi : y_RD I A (ln, cl, lm, aa)) (hdx : y_DX z ar f0 G J C Gs S (y_L pl)) (hdp : dp ≤ 7) (hpar : ∀ P, par = some P → G P = 7 ∧ (J P = 6 → (C P).length < 4)) : Met l ({ cls := "ChannelMachine$Reader", name := "begin", desc := "(LChannelMachine$Process;I)LChannelMachine$Process;" } : Jvm.MethodName) ((Jvm.Cond.code ({ cls := "ChannelMachine$Reader", name := "begin", desc := "(LChannelMachine$Process;I)LChannelMachine$Process;" } : Jvm.MethodName) prog_8_method_14_code (7 : Nat) (Option.some (Jvm.ClassFile.FieldType.object "ChannelMachine$Process"))) :: x_T) ({ frames := 3, cells := 2, slots := 17, locals := 60 }) (y_Pc (dC, dI) ar N0 z (y_W ad ar I T A O pl) sz w0 [.ref (ad 1), va_rf par, .int (Int32.ofNat dp)]) (va_Qq (fun (r : Option Nat) (u : (Nat → Int32) × Int64 × (Nat → Nat → Int32) × (Nat → Option Nat) × va_W × (Nat × Nat × Nat × Nat)) => y_RD u.1 u.2.2.1 u.2.2.2.2.2 ∧ u.2.2.2.2.2.1 = ln ∧ u.2.2.2.2.2.2.2.1 = lm ∧ u.2.1 = T ∧ (∀ k, (k ≠ 0 ∨ par ≠ none) → u.2.2.2.1 k = O k) ∧ m_fr [4, 5, 6] I u.1 ∧ ((r = none ∧ u.2.2.2.2.1 = pl ∧ u.2.2.2.2.2.2.2.2 = aa) ∨ (u.2.2.2.2.2.2.2.2 = aa + 1 ∧ ∃ (p t : Nat) (jj : Nat) (ch va : Int32) (G' J' : Nat → Nat) (C' Gs' : Nat → List Nat) (S' : Nat → Nat), r = some p ∧ y_L pl p = none ∧ y_DX z ar f0 G' J' C' Gs' S' (y_L u.2.2.2.2.1) ∧ y_FX (y_L pl) G J Gs S (y_L u.2.2.2.2.1) G' J' Gs' S' ∧ (∀ a, y_L pl a ≠ none → C' a = if par = some a then C a ++ [p] else C a) ∧ (G' p = 7 ∧ J' p = jj ∧ C' p = [] ∧ Gs' p = [] ∧ S' p = 1 ∧ ∀ a, y_L pl a = none → G' a = 7 → a = p) ∧ y_L u.2.2.2.2.1 p = some (.inr (7, [.ref (z (3 + jj)), va_rf par, .null, .null, .null, .ref t, .null, .ref (z 21), .int ch, .int va])) ∧ (par = none → u.2.2.2.1 0 = some p) ∧ jj < 11 ∧ (jj = 1 ∨ jj = 2 → ∃ c9 : Nat, c9 < 6 ∧ ch = Int32.ofNat c9)))) (fun u t => va_P (dC, dI) y_cl (y_W ad ar u.1 u.2.1 u.2.2.1 u.2.2.2.1 u.2.2.2.2.1) t.heap ∧ va_D (va_A (y_W ad ar I T A O pl) sz) (y_W ad ar u.1 u.2.1 u.2.2.1 u.2.2.2.1 u.2.2.2.2.1) ∧ t.heap.size ≤ sz + 2 ∧ y_hs t.heap ≤ w0 + 17) (va_A (y_W ad ar I T A O pl) sz)) (2) (17) (va_A (y_W ad ar I T A O pl) sz) := by
  rcases par with _ | P
  · refine Met.ofW (cc := prog_8_method_14_code) (maxL := 7) (ret := (some (.object "ChannelMachine$Process"))) (by decide) rfl ?_
    intro p e s m args below meth c s₁ B hml hv
    obtain ⟨rfl, hsz, hN0, hP, hU, hZ, hD0, hw0⟩ := hv
    have hK := hU.2.1
    have hx := B.exec
    have hb := B.bytes
    have hr := B.returns
    have hts : ∀ w ∈ x_T, w.before ([.ref (ad 1), va_rf none, .int (Int32.ofNat dp)] : List Value).toArray s = true := fun w h => atoms_spec (ws := (Jvm.Cond.code ({ cls := "ChannelMachine$Reader", name := "begin", desc := "(LChannelMachine$Process;I)LChannelMachine$Process;" } : Jvm.MethodName) prog_8_method_14_code (7 : Nat) (Option.some (Jvm.ClassFile.FieldType.object "ChannelMachine$Process"))) :: x_T) B.pre w (List.mem_cons_of_mem _ h)
    have hown : s.vm.findClass "ChannelMachine$Reader" = some m.cls := findClass_of_methodNamed B.named
    have hlocks := B.notSynchronized
    subst hsz
    subst hw0
    have hD := hD0.self (sz := s.heap.size)
    have hAN := x_AN hD0 hN0
    generalize hAe : va_A (y_W ad ar I T A O pl) s.heap.size = Bq at hD hAN ⊢
    have hA : ∀ q : Nat, s.heap.size ≤ q → Bq q := fun q h => by rw [← hAe]; exact Or.inr h
    have hS : va_S Bq s.heap s.heap [] := va_S.rf
    have hl := lv_entry ([.ref (ad 1), va_rf none, .int (Int32.ofNat dp)]) (n := 7) (Nat.le_of_ble_eq_true rfl)
    rw [lg_entry_eq]
    generalize (lg_sl ([.ref (ad 1), va_rf none, .int (Int32.ofNat dp)]) ++ List.replicate (7 - (lg_sl ([.ref (ad 1), va_rf none, .int (Int32.ofNat dp)])).length) Slot.unset).toArray = ls at hl ⊢
    have hl : lv_has ls 7 [(0, .ref (ad 1)), (1, .null), (2, .int (Int32.ofNat dp))] := hl
    have hbn := hmi.2.1
    dsimp only at hbn
    refine lv_aload_n hx hb d_Reader_begin_0 rfl (lv_at hl 0 rfl) ?_
    have hFc := y_free hD hS hA
    refine va_calli (va_runV (As := []) (rest := []) ⟨hx, hb, hml, hown, hts⟩ (c_Rd_look l dC dI ar N0 z ad I T A O pl ln cl lm aa s.heap.size (y_hs s.heap) hmi) (cwV 0 hts (x_goodV k_338 k_340 kp_3 k_2 k_341) rfl rfl rfl (by decide +kernel) ⟨Nat.le_of_ble_eq_true rfl, Nat.le_of_ble_eq_true rfl⟩) ⟨y_blind, va_recv hK hP (ci := 3) (q0 := 1) rfl (y_W_ob (by decide) (by decide)), fun U9 hU9 hW9 => y_pre hU9 hW9 hP hD hU hZ hS hAN hN0⟩ rfl rfl hl.1 rfl (lv_room (Nat.le_of_ble_eq_true rfl)) d_Reader_begin_1 ⟨(by show 0 + (0) ≤ 2; omega), (by show 0 + (0) ≤ 17; omega)⟩) hS (fun q _ h => hFc q h) hFc (fun r_1 u t H1 locs ht hvm hw hB hz1 hk1 hS => ?_)
    obtain ⟨I2, T2, A2, O2, pl2, q2, s2, cq2, cs2⟩ := u
    dsimp only at hw hB
    rw [ht] at hB
    obtain ⟨hP, hD1, hac2⟩ := hB
    have hD : va_D Bq (y_W ad ar I2 T2 A2 O2 pl2) := hD1.weaken (fun _ q _ h => hFc q.1 h)
    generalize H1 = H at hP hS hac2 ⊢
    have hae2 := hac2
    try unfold y_ac at hae2
    try dsimp only at hae2
    refine W.widen (k := 0) (n := 0) (by omega) (by omega) ?_
    obtain ⟨h9, hw⟩ := hw
    cases h9
    obtain rfl := hw
    refine lv_istore_n (lv' := [(3, .int (y_lk A lm aa)), (0, .ref (ad 1)), (1, .null), (2, .int (Int32.ofNat dp))]) hx hb d_Reader_begin_4 rfl hl (by decide) rfl (fun ls hl => ?_)
    refine lv_iload_n hx hb d_Reader_begin_5 rfl (lv_at hl 0 rfl) ?_
    refine lv_aload_n hx hb d_Reader_begin_6 rfl (lv_at hl 1 rfl) ?_
    have hFc := y_free hD hS hA
    refine va_calli (va_runV (As := []) (rest := [.int (y_lk A lm aa)]) ⟨hx, hb, hml, hown, hts⟩ (c_Rd_look2 l dC dI ar N0 z ad I T A O pl ln cl lm aa H.size (y_hs H) hmi) (cwV 0 hts (x_goodV k_342 k_344 kp_4 k_2 k_345) rfl rfl rfl (by decide +kernel) ⟨Nat.le_of_ble_eq_true rfl, Nat.le_of_ble_eq_true rfl⟩) ⟨y_blind, va_recv hK hP (ci := 3) (q0 := 1) rfl (y_W_ob (by decide) (by decide)), fun U9 hU9 hW9 => y_pre hU9 hW9 hP hD hU hZ hS hAN hN0⟩ rfl rfl hl.1 rfl (lv_room (Nat.le_of_ble_eq_true rfl)) d_Reader_begin_7 ⟨(by show 0 + (0) ≤ 2; omega), (by show 0 + (0) ≤ 17; omega)⟩) hS (fun q _ h => hFc q h) hFc (fun r_3 u t H1 locs ht hvm hw hB hz1 hk1 hS => ?_)
    obtain ⟨I4, T4, A4, O4, pl4, q4, s4, cq4, cs4⟩ := u
    dsimp only at hw hB
    rw [ht] at hB
    obtain ⟨hP, hD1, hac4⟩ := hB
    have hD : va_D Bq (y_W ad ar I4 T4 A4 O4 pl4) := hD1.weaken (fun _ q _ h => hFc q.1 h)
    generalize H1 = H at hP hS hac4 ⊢
    have hae4 := hac4
    try unfold y_ac at hae4
    try dsimp only at hae4
    refine W.widen (k := 0) (n := 0) (by omega) (by omega) ?_
    cases hw
    have hFc := y_free hD hS hA
    refine va_callq (va_runS (As := [.int (y_lk A lm aa), .int r_3]) (rest := []) ⟨hx, hb, hml, hown, hts⟩ (c_Rd_kindOf l dC dI ar N0 z ad I T A O pl ((y_lk A lm aa)) (r_3) H.size (y_hs H) ) (cwS 2 hts (x_goodS k_346 k_347 k_2 k_348) rfl rfl rfl (by decide +kernel) ⟨Nat.le_of_ble_eq_true rfl, Nat.le_of_ble_eq_true rfl⟩) ⟨y_blind, fun U9 hU9 hW9 => y_pre hU9 hW9 hP hD hU hZ hS hAN hN0⟩ rfl rfl hl.1 rfl (lv_room (Nat.le_of_ble_eq_true rfl)) d_Reader_begin_10 ⟨(by show 0 + (0) ≤ 2; omega), (by show 0 + (0) ≤ 17; omega)⟩) hS (fun q _ h => hFc q h) hFc (fun r_5 u t H1 locs ht hvm hw hB hz1 hk1 hS => ?_)
    obtain ⟨I6, T6, A6, O6, pl6, q6, s6, cq6, cs6⟩ := u
    dsimp only at hw hB
    rw [ht] at hB
    obtain ⟨hP, hD1, hac6⟩ := hB
    have hD : va_D Bq (y_W ad ar I6 T6 A6 O6 pl6) := hD1.weaken (fun _ q _ h => hFc q.1 h)
    generalize H1 = H at hP hS hac6 ⊢
    have hae6 := hac6
    try unfold y_ac at hae6
    try dsimp only at hae6
    refine W.widen (k := 0) (n := 0) (by omega) (by omega) ?_
    obtain ⟨h9, hw⟩ := hw
    cases h9
    rcases hw with rfl | ⟨j7, rfl, hjj7, hzj7, hcj7⟩
    · refine W.eq (g2 := F0 m 13 ls [.null]) rfl ?_
      refine lv_astoreN (lv' := [(4, .null), (3, .int (y_lk A lm aa)), (0, .ref (ad 1)), (1, .null), (2, .int (Int32.ofNat dp))]) hx hb d_Reader_begin_13 hl (by decide) rfl (fun ls hl => ?_)
      refine lv_aloadN hx hb d_Reader_begin_15 (lv_at hl 0 rfl) ?_
      refine va_gets hx hb ((hZ.2.1.1 7 (by decide)).1.narrow hAN) hS hown (hts _ k_359) (fun _ h9 => h9) d_Reader_begin_17 ?_
      refine lv_acmp_eq (rx := none) (ry := (some ((z (3 + 7))))) (tgt := 31) hx hb d_Reader_begin_20 (by decide) (fun h_8 => ?_) (fun h_8 => ?_)
      · refine lv_iconst (v := 1) hx hb d_Reader_begin_31 (by decide) ?_
        refine lv_goto (tgt := 36) hx hb d_Reader_begin_32 (by decide) ?_
        refine lv_istore (lv' := [(5, .int 1), (4, .null), (3, .int (y_lk A lm aa)), (0, .ref (ad 1)), (1, .null), (2, .int (Int32.ofNat dp))]) hx hb d_Reader_begin_36 hl (by decide) rfl (fun ls hl => ?_)
        refine lv_aloadN hx hb d_Reader_begin_38 (lv_at hl 1 rfl) ?_
        refine lv_ifnullN (tgt := 54) hx hb d_Reader_begin_40 (by decide) ?_
        refine lv_null hx hb d_Reader_begin_54 ?_
        refine y_know (fun hy91 hy92 hy93 hy94 => ?_)
        have hac9 : H.size ≤ s.heap.size + 2 ∧ y_hs H ≤ y_hs s.heap + 17 := ⟨by omega, by omega⟩
        refine W.widen (k := 2) (n := 17) (by omega) (by omega) ?_
        exact W.aret (v := .null) hx hb hr (Or.inl ⟨_, rfl⟩) (Or.inl rfl) (fun t ht hW => ⟨⟨none, (I, T, A, O, pl, (ln, cl, lm, aa)), rfl, ⟨hmi, rfl, rfl, rfl, fun k hk => rfl, m_fr.rf, Or.inl ⟨rfl, rfl, rfl⟩⟩, (by dsimp only; rw [ht]; exact ⟨hP, hD, hac9⟩)⟩, hS.F ht⟩) hS.2.2 d_Reader_begin_55
      · refine lv_aloadN hx hb d_Reader_begin_23 (lv_at hl 0 rfl) ?_
        refine va_gets hx hb ((hZ.2.1.1 8 (by decide)).1.narrow hAN) hS hown (hts _ k_361) (fun _ h9 => h9) d_Reader_begin_25 ?_
        refine lv_acmp_ne (rx := none) (ry := (some ((z (3 + 8))))) (tgt := 35) hx hb d_Reader_begin_28 (by decide) (fun h_9 => ?_) (fun h_9 => ?_)
        · refine lv_iconst (v := 0) hx hb d_Reader_begin_35 (by decide) ?_
          refine lv_istore (lv' := [(5, .int 0), (4, .null), (3, .int (y_lk A lm aa)), (0, .ref (ad 1)), (1, .null), (2, .int (Int32.ofNat dp))]) hx hb d_Reader_begin_36 hl (by decide) rfl (fun ls hl => ?_)
          refine lv_aloadN hx hb d_Reader_begin_38 (lv_at hl 1 rfl) ?_
          refine lv_ifnullN (tgt := 54) hx hb d_Reader_begin_40 (by decide) ?_
          refine lv_null hx hb d_Reader_begin_54 ?_
          refine y_know (fun hy91 hy92 hy93 hy94 => ?_)
          have hac9 : H.size ≤ s.heap.size + 2 ∧ y_hs H ≤ y_hs s.heap + 17 := ⟨by omega, by omega⟩
          refine W.widen (k := 2) (n := 17) (by omega) (by omega) ?_
          exact W.aret (v := .null) hx hb hr (Or.inl ⟨_, rfl⟩) (Or.inl rfl) (fun t ht hW => ⟨⟨none, (I, T, A, O, pl, (ln, cl, lm, aa)), rfl, ⟨hmi, rfl, rfl, rfl, fun k hk => rfl, m_fr.rf, Or.inl ⟨rfl, rfl, rfl⟩⟩, (by dsimp only; rw [ht]; exact ⟨hP, hD, hac9⟩)⟩, hS.F ht⟩) hS.2.2 d_Reader_begin_55
        · refine lv_iconst (v := 1) hx hb d_Reader_begin_31 (by decide) ?_
          refine lv_goto (tgt := 36) hx hb d_Reader_begin_32 (by decide) ?_
          refine lv_istore (lv' := [(5, .int 1), (4, .null), (3, .int (y_lk A lm aa)), (0, .ref (ad 1)), (1, .null), (2, .int (Int32.ofNat dp))]) hx hb d_Reader_begin_36 hl (by decide) rfl (fun ls hl => ?_)
          refine lv_aloadN hx hb d_Reader_begin_38 (lv_at hl 1 rfl) ?_
          refine lv_ifnullN (tgt := 54) hx hb d_Reader_begin_40 (by decide) ?_
          refine lv_null hx hb d_Reader_begin_54 ?_
          refine y_know (fun hy91 hy92 hy93 hy94 => ?_)
          have hac9 : H.size ≤ s.heap.size + 2 ∧ y_hs H ≤ y_hs s.heap + 17 := ⟨by omega, by omega⟩
          refine W.widen (k := 2) (n := 17) (by omega) (by omega) ?_
          exact W.aret (v := .null) hx hb hr (Or.inl ⟨_, rfl⟩) (Or.inl rfl) (fun t ht hW => ⟨⟨none, (I, T, A, O, pl, (ln, cl, lm, aa)), rfl, ⟨hmi, rfl, rfl, rfl, fun k hk => rfl, m_fr.rf, Or.inl ⟨rfl, rfl, rfl⟩⟩, (by dsimp only; rw [ht]; exact ⟨hP, hD, hac9⟩)⟩, hS.F ht⟩) hS.2.2 d_Reader_begin_55
    · refine W.eq (g2 := F0 m 13 ls [.ref (z (3 + j7))]) rfl ?_
      refine lv_astore (lv' := [(4, .ref (z (3 + j7))), (3, .int (y_lk A lm aa)), (0, .ref (ad 1)), (1, .null), (2, .int (Int32.ofNat dp))]) hx hb d_Reader_begin_13 hl (by decide) rfl (fun ls hl => ?_)
      refine lv_aload hx hb d_Reader_begin_15 (lv_at hl 0 rfl) ?_
      refine va_gets hx hb ((hZ.2.1.1 7 (by decide)).1.narrow hAN) hS hown (hts _ k_359) (fun _ h9 => h9) d_Reader_begin_17 ?_
      refine lv_acmp_eq (rx := (some ((z (3 + j7))))) (ry := (some ((z (3 + 7))))) (tgt := 31) hx hb d_Reader_begin_20 (by decide) (fun h_10 => ?_) (fun h_10 => ?_)
      · refine lv_iconst (v := 1) hx hb d_Reader_begin_31 (by decide) ?_
        refine lv_goto (tgt := 36) hx hb d_Reader_begin_32 (by decide) ?_
        refine lv_istore (lv' := [(5, .int 1), (4, .ref (z (3 + j7))), (3, .int (y_lk A lm aa)), (0, .ref (ad 1)), (1, .null), (2, .int (Int32.ofNat dp))]) hx hb d_Reader_begin_36 hl (by decide) rfl (fun ls hl => ?_)
        refine lv_aload hx hb d_Reader_begin_38 (lv_at hl 1 rfl) ?_
        refine lv_ifnull hx hb d_Reader_begin_40 ?_
        refine lv_iload hx hb d_Reader_begin_43 (lv_at hl 0 rfl) ?_
        refine lv_if_eq (tgt := 56) hx hb d_Reader_begin_45 (by decide) (fun c11 => absurd c11 (by decide)) (fun _ => ?_)
        refine lv_iload_n hx hb d_Reader_begin_48 rfl (lv_at hl 5 rfl) ?_
        refine lv_bipush (v := 7) hx hb d_Reader_begin_49 (by decide) ?_
        refine lv_icmp_ne (tgt := 56) hx hb d_Reader_begin_51 (by decide) (fun c_12 => ?_) (fun c_12 => ?_)
        · have c_12 : ¬ dp = 7 := fun h9 => c_12 ((x_eqN (a := dp) (b := 7) (by omega) (by omega)).mpr h9)
          refine lv_aload_n hx hb d_Reader_begin_56 rfl (lv_at hl 3 rfl) ?_
          refine lv_aload hx hb d_Reader_begin_57 (lv_at hl 1 rfl) ?_
          refine lv_aload_nN hx hb d_Reader_begin_59 rfl (lv_at hl 4 rfl) ?_
          refine y_know (fun hya1 hya2 hya3 hya4 => ?_)
          have hFc := y_free hD hS hA
          refine va_callq (va_runV (As := [.ref (z (3 + j7)), .null]) (rest := []) ⟨hx, hb, hml, hown, hts⟩ (c_Rd_added l dC dI ar N0 z ad I T A O pl ln cl lm aa f0 G J C Gs S j7 none H.size (y_hs H) hmi hdx hjj7 hpar) (cwV 2 hts (x_goodV k_377 k_379 kp_5 k_2 k_380) rfl rfl rfl (by decide +kernel) ⟨Nat.le_of_ble_eq_true rfl, Nat.le_of_ble_eq_true rfl⟩) ⟨y_blind, va_recv hK hP (ci := 3) (q0 := 1) rfl (y_W_ob (by decide) (by decide)), fun U9 hU9 hW9 => y_pre hU9 hW9 hP hD hU hZ hS hAN hN0⟩ rfl rfl hl.1 rfl (lv_room (Nat.le_of_ble_eq_true rfl)) d_Reader_begin_60 ⟨(by show 0 + (2) ≤ 2; omega), (by show 0 + (17) ≤ 17; omega)⟩) hS (fun q _ h => hFc q h) hFc (fun r_13 u t H1 locs ht hvm hw hB hz1 hk1 hS => ?_)
          obtain ⟨I14, T14, A14, O14, pl14, q14, s14, cq14, cs14⟩ := u
          dsimp only at hw hB
          rw [ht] at hB
          obtain ⟨hP, hD1, hac14⟩ := hB
          have hD : va_D Bq (y_W ad ar I14 T14 A14 O14 pl14) := hD1.weaken (fun _ q _ h => hFc q.1 h)
          generalize H1 = H at hP hS hac14 ⊢
          have hae14 := hac14
          try unfold y_ac at hae14
          try dsimp only at hae14
          obtain ⟨hmi, e5, e2, e3, hO14, fr14, p14, t14, G14, J14, C14, Gs14, S14, rfl, hzp14, hdx, hfx14, hcx14, ⟨hg1, hg2, hg3, hg4, hg5, hg6⟩, hfp14, hpr14⟩ := hw
          cases e5
          rw [e2, e3] at hP hD
          have hP : va_P (dC, dI) y_cl (y_W ad ar I14 T A O14 pl14) H := hP
          have hD : va_D Bq (y_W ad ar I14 T A O14 pl14) := hD
          rw [e3] at hmi
          have hmi : y_RD I14 A (ln, cl, lm, aa) := hmi
          have hfp14 : y_L pl14 p14 = some (.inr (7, [.ref (z (3 + j7)), .null, .null, .null, .null, .ref t14, .null, .ref (z 21), .int (-1), .int (-1)])) := hfp14
          have hfp0 := hfp14
          refine W.eq (g2 := F0 m 63 ls [.ref p14]) rfl ?_
          refine lv_astore (lv' := [(6, .ref p14), (5, .int 1), (4, .ref (z (3 + j7))), (3, .int (y_lk A lm aa)), (0, .ref (ad 1)), (1, .null), (2, .int (Int32.ofNat dp))]) hx hb d_Reader_begin_63 hl (by decide) rfl (fun ls hl => ?_)
          refine lv_aload hx hb d_Reader_begin_65 (lv_at hl 0 rfl) ?_
          refine lv_iload_n hx hb d_Reader_begin_67 rfl (lv_at hl 3 rfl) ?_
          have hFc := y_free hD hS hA
          refine va_calli (va_runS (As := [.int (y_lk A lm aa)]) (rest := [.ref p14]) ⟨hx, hb, hml, hown, hts⟩ (c_Rd_channelOf l dC dI ar N0 z ad I14 T A O14 pl14 ((y_lk A lm aa)) H.size (y_hs H) ) (cwS 1 hts (x_goodS k_374 k_375 k_2 k_376) rfl rfl rfl (by decide +kernel) ⟨Nat.le_of_ble_eq_true rfl, Nat.le_of_ble_eq_true rfl⟩) ⟨y_blind, fun U9 hU9 hW9 => y_pre hU9 hW9 hP hD hU hZ hS hAN hN0⟩ rfl rfl hl.1 rfl (lv_room (Nat.le_of_ble_eq_true rfl)) d_Reader_begin_68 ⟨(by show 0 + (2) + (0) ≤ 2; omega), (by show 0 + (17) + (0) ≤ 17; omega)⟩) hS (fun q _ h => hFc q h) hFc (fun r_15 u t H1 locs ht hvm hw hB hz1 hk1 hS => ?_)
          obtain ⟨I16, T16, A16, O16, pl16, q16, s16, cq16, cs16⟩ := u
          dsimp only at hw hB
          rw [ht] at hB
          obtain ⟨hP, hD1, hac16⟩ := hB
          have hD : va_D Bq (y_W ad ar I16 T16 A16 O16 pl16) := hD1.weaken (fun _ q _ h => hFc q.1 h)
          generalize H1 = H at hP hS hac16 ⊢
          have hae16 := hac16
          try unfold y_ac at hae16
          try dsimp only at hae16
          refine W.widen (k := 0 + (2)) (n := 0 + (17)) (by omega) (by omega) ?_
          obtain ⟨h9, hw⟩ := hw
          cases h9
          obtain rfl := hw
          refine d_pN (C := "ChannelMachine$Process") (F := F_Process) (N := 10) hx hb hts i_Process hown t_Process t_Process_ok n_Process hK hP hD hS hfp14 8 rfl (by decide) (hU.1.2.1 _ kn_418) (fun _ h9 => h9) rfl (ty := .int) (v := .int (x_ch ((y_lk A lm aa)))) (by decide +kernel) rfl rfl (Nat.le_of_ble_eq_true rfl) d_Reader_begin_71 (fun pl17 H locs hL hP hD hS => ?_)
          have hfp14 : y_L pl17 p14 = some (.inr (7, [.ref (z (3 + j7)), .null, .null, .null, .null, .ref t14, .null, .ref (z 21), .int (x_ch ((y_lk A lm aa))), .int (-1)])) := by rw [hL]; exact y_Lu_s
          have hoth : ∀ b, b ≠ p14 → y_L pl17 b = y_L pl14 b := fun b n0 => by rw [hL, y_Lu_n n0]
          clear hL
          refine lv_aload hx hb d_Reader_begin_74 (lv_at hl 2 rfl) ?_
          refine va_gets hx hb ((hZ.2.1.1 0 (by decide)).1.narrow hAN) hS hown (hts _ k_372) (fun _ h9 => h9) d_Reader_begin_76 ?_
          refine lv_acmp_ne (rx := (some ((z (3 + j7))))) (ry := (some ((z (3 + 0))))) (tgt := 91) hx hb d_Reader_begin_79 (by decide) (fun h_18 => ?_) (fun h_18 => ?_)
          · have hlt : aa < lm := y_lk_lt hzj7
            refine lv_aload_n hx hb d_Reader_begin_91 rfl (lv_at hl 4 rfl) ?_
            refine lv_dup hx hb d_Reader_begin_92 rfl ?_
            refine k_g (C := "ChannelMachine$Reader") (F := F_Reader) (N := 9) hx hb hts i_Reader hown hK hP 1 5 (by decide) (by decide) rfl (by decide) (d := (1, 4)) rfl (hts _ k_49) (fun _ h9 => h9) (v := .int (Int32.ofNat aa)) (congrArg Value.int hmi.1.2.2.2) d_Reader_begin_93 ?_
            refine lv_iconst (v := 1) hx hb d_Reader_begin_96 (by decide) ?_
            refine lv_iadd hx hb d_Reader_begin_97 ?_
            refine W.eq (g2 := F0 m 98 ls [.int (Int32.ofNat (aa + 1)), .ref (ad 1)]) (by rw [← x_addN (a := aa) (b := 1)] <;> rfl) ?_
            refine k_pi (C := "ChannelMachine$Reader") (F := F_Reader) (N := 9) hx hb hts i_Reader hown t_Reader t_Reader_ok n_Reader hK hP hD hS 1 5 (by decide) (by decide) rfl (by decide) (j := 4) (x := (Int32.ofNat (aa + 1))) rfl (hts _ k_49) (fun _ h9 => h9) rfl (by decide +kernel) d_Reader_begin_98 (fun H locs hP hD hS => ?_)
            have hmi : y_RD (upd I14 4 (Int32.ofNat (aa + 1))) A (ln, cl, lm, (aa + 1)) := hmi.at4 (by omega)
            have hbn := hmi.2.1
            dsimp only at hbn
            refine lv_aload hx hb d_Reader_begin_101 (lv_at hl 0 rfl) ?_
            have hpf : y_L pl14 p14 = some (.inr (7, y_Pf z C14 Gs14 p14 (J14 p14) none none (some t14) (z 21) (-1) (-1))) := by rw [hfp0]; unfold y_Pf; rw [hg2, hg3, hg4]; rfl
            have hd9 := hdx.put (s' := 1) (co' := z 21) (ch' := (x_ch ((y_lk A lm aa)))) (va' := (-1)) hg1 hpf (fun h9 => absurd rfl h9) (fun h9 => by omega)
            have hx9 := y_FX.put (s' := 1) (e := .inr (7, y_Pf z C14 Gs14 p14 (J14 p14) none none (some t14) (z 21) ((x_ch ((y_lk A lm aa)))) ((-1)))) hfx14 hzp14
            have hL9 : y_L pl17 = y_Lu (y_L pl14) p14 (.inr (7, y_Pf z C14 Gs14 p14 (J14 p14) none none (some t14) (z 21) ((x_ch ((y_lk A lm aa)))) ((-1)))) := y_Lu_eq (by rw [hfp14]; unfold y_Pf; rw [hg2, hg3, hg4]; rfl) (fun b hb => hoth b hb)
            rw [← hL9] at hd9 hx9
            refine y_know (fun hy91 hy92 hy93 hy94 => ?_)
            have hac9 : H.size ≤ s.heap.size + 2 ∧ y_hs H ≤ y_hs s.heap + 17 := ⟨by omega, by omega⟩
            refine W.widen (k := 2) (n := 17) (by omega) (by omega) ?_
            exact W.aret (v := .ref p14) hx hb hr (Or.inl ⟨_, rfl⟩) (Or.inr ⟨_, rfl⟩) (fun t ht hW => ⟨⟨(some p14), ((upd I14 4 (Int32.ofNat (aa + 1))), T, A, O14, pl17, (ln, cl, lm, (aa + 1))), rfl, ⟨hmi, rfl, rfl, rfl, fun k hk => hO14 k hk, ((m_fr.rf.tr fr14 (by decide)).up (by decide) _), Or.inr ⟨rfl, p14, t14, j7, (x_ch ((y_lk A lm aa))), (-1), G14, J14, C14, Gs14, y_un S14 p14 1, rfl, hzp14, hd9, hx9, hcx14, ⟨hg1, hg2, hg3, hg4, y_un_s, hg6⟩, hfp14, hpr14, hjj7, fun h9 => ((y_ch_ok _).resolve_left (hcj7 h9)).2⟩⟩, (by dsimp only; rw [ht]; exact ⟨hP, hD, hac9⟩)⟩, hS.F ht⟩) hS.2.2 d_Reader_begin_103
          · refine lv_aload hx hb d_Reader_begin_82 (lv_at hl 0 rfl) ?_
            refine lv_iload_n hx hb d_Reader_begin_84 rfl (lv_at hl 3 rfl) ?_
            refine lv_bipush (v := 97) hx hb d_Reader_begin_85 (by decide) ?_
            refine lv_isub hx hb d_Reader_begin_87 ?_
            refine d_pN (C := "ChannelMachine$Process") (F := F_Process) (N := 10) hx hb hts i_Process hown t_Process t_Process_ok n_Process hK hP hD hS hfp14 9 rfl (by decide) (hU.1.2.1 _ kn_421) (fun _ h9 => h9) rfl (ty := .int) (v := .int ((y_lk A lm aa) - 97)) (by decide +kernel) rfl rfl (Nat.le_of_ble_eq_true rfl) d_Reader_begin_88 (fun pl19 H locs hL hP hD hS => ?_)
            have hfp14 : y_L pl19 p14 = some (.inr (7, [.ref (z (3 + j7)), .null, .null, .null, .null, .ref t14, .null, .ref (z 21), .int (x_ch ((y_lk A lm aa))), .int ((y_lk A lm aa) - 97)])) := by rw [hL]; exact y_Lu_s
            have hoth : ∀ b, b ≠ p14 → y_L pl19 b = y_L pl14 b := fun b n0 => by rw [hL, y_Lu_n n0]; exact hoth b n0
            clear hL
            have hlt : aa < lm := y_lk_lt hzj7
            refine lv_aload_n hx hb d_Reader_begin_91 rfl (lv_at hl 4 rfl) ?_
            refine lv_dup hx hb d_Reader_begin_92 rfl ?_
            refine k_g (C := "ChannelMachine$Reader") (F := F_Reader) (N := 9) hx hb hts i_Reader hown hK hP 1 5 (by decide) (by decide) rfl (by decide) (d := (1, 4)) rfl (hts _ k_49) (fun _ h9 => h9) (v := .int (Int32.ofNat aa)) (congrArg Value.int hmi.1.2.2.2) d_Reader_begin_93 ?_
            refine lv_iconst (v := 1) hx hb d_Reader_begin_96 (by decide) ?_
            refine lv_iadd hx hb d_Reader_begin_97 ?_
            refine W.eq (g2 := F0 m 98 ls [.int (Int32.ofNat (aa + 1)), .ref (ad 1)]) (by rw [← x_addN (a := aa) (b := 1)] <;> rfl) ?_
            refine k_pi (C := "ChannelMachine$Reader") (F := F_Reader) (N := 9) hx hb hts i_Reader hown t_Reader t_Reader_ok n_Reader hK hP hD hS 1 5 (by decide) (by decide) rfl (by decide) (j := 4) (x := (Int32.ofNat (aa + 1))) rfl (hts _ k_49) (fun _ h9 => h9) rfl (by decide +kernel) d_Reader_begin_98 (fun H locs hP hD hS => ?_)
            have hmi : y_RD (upd I14 4 (Int32.ofNat (aa + 1))) A (ln, cl, lm, (aa + 1)) := hmi.at4 (by omega)
            have hbn := hmi.2.1
            dsimp only at hbn
            refine lv_aload hx hb d_Reader_begin_101 (lv_at hl 0 rfl) ?_
            have hpf : y_L pl14 p14 = some (.inr (7, y_Pf z C14 Gs14 p14 (J14 p14) none none (some t14) (z 21) (-1) (-1))) := by rw [hfp0]; unfold y_Pf; rw [hg2, hg3, hg4]; rfl
            have hd9 := hdx.put (s' := 1) (co' := z 21) (ch' := (x_ch ((y_lk A lm aa)))) (va' := ((y_lk A lm aa) - 97)) hg1 hpf (fun h9 => absurd rfl h9) (fun h9 => by omega)
            have hx9 := y_FX.put (s' := 1) (e := .inr (7, y_Pf z C14 Gs14 p14 (J14 p14) none none (some t14) (z 21) ((x_ch ((y_lk A lm aa)))) (((y_lk A lm aa) - 97)))) hfx14 hzp14
            have hL9 : y_L pl19 = y_Lu (y_L pl14) p14 (.inr (7, y_Pf z C14 Gs14 p14 (J14 p14) none none (some t14) (z 21) ((x_ch ((y_lk A lm aa)))) (((y_lk A lm aa) - 97)))) := y_Lu_eq (by rw [hfp14]; unfold y_Pf; rw [hg2, hg3, hg4]; rfl) (fun b hb => hoth b hb)
            rw [← hL9] at hd9 hx9
            refine y_know (fun hy91 hy92 hy93 hy94 => ?_)
            have hac9 : H.size ≤ s.heap.size + 2 ∧ y_hs H ≤ y_hs s.heap + 17 := ⟨by omega, by omega⟩
            refine W.widen (k := 2) (n := 17) (by omega) (by omega) ?_
            exact W.aret (v := .ref p14) hx hb hr (Or.inl ⟨_, rfl⟩) (Or.inr ⟨_, rfl⟩) (fun t ht hW => ⟨⟨(some p14), ((upd I14 4 (Int32.ofNat (aa + 1))), T, A, O14, pl19, (ln, cl, lm, (aa + 1))), rfl, ⟨hmi, rfl, rfl, rfl, fun k hk => hO14 k hk, ((m_fr.rf.tr fr14 (by decide)).up (by decide) _), Or.inr ⟨rfl, p14, t14, j7, (x_ch ((y_lk A lm aa))), ((y_lk A lm aa) - 97), G14, J14, C14, Gs14, y_un S14 p14 1, rfl, hzp14, hd9, hx9, hcx14, ⟨hg1, hg2, hg3, hg4, y_un_s, hg6⟩, hfp14, hpr14, hjj7, fun h9 => ((y_ch_ok _).resolve_left (hcj7 h9)).2⟩⟩, (by dsimp only; rw [ht]; exact ⟨hP, hD, hac9⟩)⟩, hS.F ht⟩) hS.2.2 d_Reader_begin_103
        · have c_12 : dp = 7 := (x_eqN (a := dp) (b := 7) (by omega) (by omega)).mp c_12
          refine lv_null hx hb d_Reader_begin_54 ?_
          refine y_know (fun hy91 hy92 hy93 hy94 => ?_)
          have hac9 : H.size ≤ s.heap.size + 2 ∧ y_hs H ≤ y_hs s.heap + 17 := ⟨by omega, by omega⟩
          refine W.widen (k := 2) (n := 17) (by omega) (by omega) ?_
          exact W.aret (v := .null) hx hb hr (Or.inl ⟨_, rfl⟩) (Or.inl rfl) (fun t ht hW => ⟨⟨none, (I, T, A, O, pl, (ln, cl, lm, aa)), rfl, ⟨hmi, rfl, rfl, rfl, fun k hk => rfl, m_fr.rf, Or.inl ⟨rfl, rfl, rfl⟩⟩, (by dsimp only; rw [ht]; exact ⟨hP, hD, hac9⟩)⟩, hS.F ht⟩) hS.2.2 d_Reader_begin_55
      · refine lv_aload hx hb d_Reader_begin_23 (lv_at hl 0 rfl) ?_
        refine va_gets hx hb ((hZ.2.1.1 8 (by decide)).1.narrow hAN) hS hown (hts _ k_361) (fun _ h9 => h9) d_Reader_begin_25 ?_
        refine lv_acmp_ne (rx := (some ((z (3 + j7))))) (ry := (some ((z (3 + 8))))) (tgt := 35) hx hb d_Reader_begin_28 (by decide) (fun h_20 => ?_) (fun h_20 => ?_)
        · refine lv_iconst (v := 0) hx hb d_Reader_begin_35 (by decide) ?_
          refine lv_istore (lv' := [(5, .int 0), (4, .ref (z (3 + j7))), (3, .int (y_lk A lm aa)), (0, .ref (ad 1)), (1, .null), (2, .int (Int32.ofNat dp))]) hx hb d_Reader_begin_36 hl (by decide) rfl (fun ls hl => ?_)
          refine lv_aload hx hb d_Reader_begin_38 (lv_at hl 1 rfl) ?_
          refine lv_ifnull hx hb d_Reader_begin_40 ?_
          refine lv_iload hx hb d_Reader_begin_43 (lv_at hl 0 rfl) ?_
          refine lv_if_eq (tgt := 56) hx hb d_Reader_begin_45 (by decide) (fun _ => ?_) (fun c21 => absurd (by decide) c21)
          refine lv_aload_n hx hb d_Reader_begin_56 rfl (lv_at hl 3 rfl) ?_
          refine lv_aload hx hb d_Reader_begin_57 (lv_at hl 1 rfl) ?_
          refine lv_aload_nN hx hb d_Reader_begin_59 rfl (lv_at hl 4 rfl) ?_
          refine y_know (fun hya1 hya2 hya3 hya4 => ?_)
          have hFc := y_free hD hS hA
          refine va_callq (va_runV (As := [.ref (z (3 + j7)), .null]) (rest := []) ⟨hx, hb, hml, hown, hts⟩ (c_Rd_added l dC dI ar N0 z ad I T A O pl ln cl lm aa f0 G J C Gs S j7 none H.size (y_hs H) hmi hdx hjj7 hpar) (cwV 2 hts (x_goodV k_377 k_379 kp_5 k_2 k_380) rfl rfl rfl (by decide +kernel) ⟨Nat.le_of_ble_eq_true rfl, Nat.le_of_ble_eq_true rfl⟩) ⟨y_blind, va_recv hK hP (ci := 3) (q0 := 1) rfl (y_W_ob (by decide) (by decide)), fun U9 hU9 hW9 => y_pre hU9 hW9 hP hD hU hZ hS hAN hN0⟩ rfl rfl hl.1 rfl (lv_room (Nat.le_of_ble_eq_true rfl)) d_Reader_begin_60 ⟨(by show 0 + (2) ≤ 2; omega), (by show 0 + (17) ≤ 17; omega)⟩) hS (fun q _ h => hFc q h) hFc (fun r_22 u t H1 locs ht hvm hw hB hz1 hk1 hS => ?_)
          obtain ⟨I23, T23, A23, O23, pl23, q23, s23, cq23, cs23⟩ := u
          dsimp only at hw hB
          rw [ht] at hB
          obtain ⟨hP, hD1, hac23⟩ := hB
          have hD : va_D Bq (y_W ad ar I23 T23 A23 O23 pl23) := hD1.weaken (fun _ q _ h => hFc q.1 h)
          generalize H1 = H at hP hS hac23 ⊢
          have hae23 := hac23
          try unfold y_ac at hae23
          try dsimp only at hae23
          obtain ⟨hmi, e5, e2, e3, hO23, fr23, p23, t23, G23, J23, C23, Gs23, S23, rfl, hzp23, hdx, hfx23, hcx23, ⟨hg1, hg2, hg3, hg4, hg5, hg6⟩, hfp23, hpr23⟩ := hw
          cases e5
          rw [e2, e3] at hP hD
          have hP : va_P (dC, dI) y_cl (y_W ad ar I23 T A O23 pl23) H := hP
          have hD : va_D Bq (y_W ad ar I23 T A O23 pl23) := hD
          rw [e3] at hmi
          have hmi : y_RD I23 A (ln, cl, lm, aa) := hmi
          have hfp23 : y_L pl23 p23 = some (.inr (7, [.ref (z (3 + j7)), .null, .null, .null, .null, .ref t23, .null, .ref (z 21), .int (-1), .int (-1)])) := hfp23
          have hfp0 := hfp23
          refine W.eq (g2 := F0 m 63 ls [.ref p23]) rfl ?_
          refine lv_astore (lv' := [(6, .ref p23), (5, .int 0), (4, .ref (z (3 + j7))), (3, .int (y_lk A lm aa)), (0, .ref (ad 1)), (1, .null), (2, .int (Int32.ofNat dp))]) hx hb d_Reader_begin_63 hl (by decide) rfl (fun ls hl => ?_)
          refine lv_aload hx hb d_Reader_begin_65 (lv_at hl 0 rfl) ?_
          refine lv_iload_n hx hb d_Reader_begin_67 rfl (lv_at hl 3 rfl) ?_
          have hFc := y_free hD hS hA
          refine va_calli (va_runS (As := [.int (y_lk A lm aa)]) (rest := [.ref p23]) ⟨hx, hb, hml, hown, hts⟩ (c_Rd_channelOf l dC dI ar N0 z ad I23 T A O23 pl23 ((y_lk A lm aa)) H.size (y_hs H) ) (cwS 1 hts (x_goodS k_374 k_375 k_2 k_376) rfl rfl rfl (by decide +kernel) ⟨Nat.le_of_ble_eq_true rfl, Nat.le_of_ble_eq_true rfl⟩) ⟨y_blind, fun U9 hU9 hW9 => y_pre hU9 hW9 hP hD hU hZ hS hAN hN0⟩ rfl rfl hl.1 rfl (lv_room (Nat.le_of_ble_eq_true rfl)) d_Reader_begin_68 ⟨(by show 0 + (2) + (0) ≤ 2; omega), (by show 0 + (17) + (0) ≤ 17; omega)⟩) hS (fun q _ h => hFc q h) hFc (fun r_24 u t H1 locs ht hvm hw hB hz1 hk1 hS => ?_)
          obtain ⟨I25, T25, A25, O25, pl25, q25, s25, cq25, cs25⟩ := u
          dsimp only at hw hB
          rw [ht] at hB
          obtain ⟨hP, hD1, hac25⟩ := hB
          have hD : va_D Bq (y_W ad ar I25 T25 A25 O25 pl25) := hD1.weaken (fun _ q _ h => hFc q.1 h)
          generalize H1 = H at hP hS hac25 ⊢
          have hae25 := hac25
          try unfold y_ac at hae25
          try dsimp only at hae25
          refine W.widen (k := 0 + (2)) (n := 0 + (17)) (by omega) (by omega) ?_
          obtain ⟨h9, hw⟩ := hw
          cases h9
          obtain rfl := hw
          refine d_pN (C := "ChannelMachine$Process") (F := F_Process) (N := 10) hx hb hts i_Process hown t_Process t_Process_ok n_Process hK hP hD hS hfp23 8 rfl (by decide) (hU.1.2.1 _ kn_418) (fun _ h9 => h9) rfl (ty := .int) (v := .int (x_ch ((y_lk A lm aa)))) (by decide +kernel) rfl rfl (Nat.le_of_ble_eq_true rfl) d_Reader_begin_71 (fun pl26 H locs hL hP hD hS => ?_)
          have hfp23 : y_L pl26 p23 = some (.inr (7, [.ref (z (3 + j7)), .null, .null, .null, .null, .ref t23, .null, .ref (z 21), .int (x_ch ((y_lk A lm aa))), .int (-1)])) := by rw [hL]; exact y_Lu_s
          have hoth : ∀ b, b ≠ p23 → y_L pl26 b = y_L pl23 b := fun b n0 => by rw [hL, y_Lu_n n0]
          clear hL
          refine lv_aload hx hb d_Reader_begin_74 (lv_at hl 2 rfl) ?_
          refine va_gets hx hb ((hZ.2.1.1 0 (by decide)).1.narrow hAN) hS hown (hts _ k_372) (fun _ h9 => h9) d_Reader_begin_76 ?_
          refine lv_acmp_ne (rx := (some ((z (3 + j7))))) (ry := (some ((z (3 + 0))))) (tgt := 91) hx hb d_Reader_begin_79 (by decide) (fun h_27 => ?_) (fun h_27 => ?_)
          · have hlt : aa < lm := y_lk_lt hzj7
            refine lv_aload_n hx hb d_Reader_begin_91 rfl (lv_at hl 4 rfl) ?_
            refine lv_dup hx hb d_Reader_begin_92 rfl ?_
            refine k_g (C := "ChannelMachine$Reader") (F := F_Reader) (N := 9) hx hb hts i_Reader hown hK hP 1 5 (by decide) (by decide) rfl (by decide) (d := (1, 4)) rfl (hts _ k_49) (fun _ h9 => h9) (v := .int (Int32.ofNat aa)) (congrArg Value.int hmi.1.2.2.2) d_Reader_begin_93 ?_
            refine lv_iconst (v := 1) hx hb d_Reader_begin_96 (by decide) ?_
            refine lv_iadd hx hb d_Reader_begin_97 ?_
            refine W.eq (g2 := F0 m 98 ls [.int (Int32.ofNat (aa + 1)), .ref (ad 1)]) (by rw [← x_addN (a := aa) (b := 1)] <;> rfl) ?_
            refine k_pi (C := "ChannelMachine$Reader") (F := F_Reader) (N := 9) hx hb hts i_Reader hown t_Reader t_Reader_ok n_Reader hK hP hD hS 1 5 (by decide) (by decide) rfl (by decide) (j := 4) (x := (Int32.ofNat (aa + 1))) rfl (hts _ k_49) (fun _ h9 => h9) rfl (by decide +kernel) d_Reader_begin_98 (fun H locs hP hD hS => ?_)
            have hmi : y_RD (upd I23 4 (Int32.ofNat (aa + 1))) A (ln, cl, lm, (aa + 1)) := hmi.at4 (by omega)
            have hbn := hmi.2.1
            dsimp only at hbn
            refine lv_aload hx hb d_Reader_begin_101 (lv_at hl 0 rfl) ?_
            have hpf : y_L pl23 p23 = some (.inr (7, y_Pf z C23 Gs23 p23 (J23 p23) none none (some t23) (z 21) (-1) (-1))) := by rw [hfp0]; unfold y_Pf; rw [hg2, hg3, hg4]; rfl
            have hd9 := hdx.put (s' := 1) (co' := z 21) (ch' := (x_ch ((y_lk A lm aa)))) (va' := (-1)) hg1 hpf (fun h9 => absurd rfl h9) (fun h9 => by omega)
            have hx9 := y_FX.put (s' := 1) (e := .inr (7, y_Pf z C23 Gs23 p23 (J23 p23) none none (some t23) (z 21) ((x_ch ((y_lk A lm aa)))) ((-1)))) hfx23 hzp23
            have hL9 : y_L pl26 = y_Lu (y_L pl23) p23 (.inr (7, y_Pf z C23 Gs23 p23 (J23 p23) none none (some t23) (z 21) ((x_ch ((y_lk A lm aa)))) ((-1)))) := y_Lu_eq (by rw [hfp23]; unfold y_Pf; rw [hg2, hg3, hg4]; rfl) (fun b hb => hoth b hb)
            rw [← hL9] at hd9 hx9
            refine y_know (fun hy91 hy92 hy93 hy94 => ?_)
            have hac9 : H.size ≤ s.heap.size + 2 ∧ y_hs H ≤ y_hs s.heap + 17 := ⟨by omega, by omega⟩
            refine W.widen (k := 2) (n := 17) (by omega) (by omega) ?_
            exact W.aret (v := .ref p23) hx hb hr (Or.inl ⟨_, rfl⟩) (Or.inr ⟨_, rfl⟩) (fun t ht hW => ⟨⟨(some p23), ((upd I23 4 (Int32.ofNat (aa + 1))), T, A, O23, pl26, (ln, cl, lm, (aa + 1))), rfl, ⟨hmi, rfl, rfl, rfl, fun k hk => hO23 k hk, ((m_fr.rf.tr fr23 (by decide)).up (by decide) _), Or.inr ⟨rfl, p23, t23, j7, (x_ch ((y_lk A lm aa))), (-1), G23, J23, C23, Gs23, y_un S23 p23 1, rfl, hzp23, hd9, hx9, hcx23, ⟨hg1, hg2, hg3, hg4, y_un_s, hg6⟩, hfp23, hpr23, hjj7, fun h9 => ((y_ch_ok _).resolve_left (hcj7 h9)).2⟩⟩, (by dsimp only; rw [ht]; exact ⟨hP, hD, hac9⟩)⟩, hS.F ht⟩) hS.2.2 d_Reader_begin_103
          · refine lv_aload hx hb d_Reader_begin_82 (lv_at hl 0 rfl) ?_
            refine lv_iload_n hx hb d_Reader_begin_84 rfl (lv_at hl 3 rfl) ?_
            refine lv_bipush (v := 97) hx hb d_Reader_begin_85 (by decide) ?_
            refine lv_isub hx hb d_Reader_begin_87 ?_
            refine d_pN (C := "ChannelMachine$Process") (F := F_Process) (N := 10) hx hb hts i_Process hown t_Process t_Process_ok n_Process hK hP hD hS hfp23 9 rfl (by decide) (hU.1.2.1 _ kn_421) (fun _ h9 => h9) rfl (ty := .int) (v := .int ((y_lk A lm aa) - 97)) (by decide +kernel) rfl rfl (Nat.le_of_ble_eq_true rfl) d_Reader_begin_88 (fun pl28 H locs hL hP hD hS => ?_)
            have hfp23 : y_L pl28 p23 = some (.inr (7, [.ref (z (3 + j7)), .null, .null, .null, .null, .ref t23, .null, .ref (z 21), .int (x_ch ((y_lk A lm aa))), .int ((y_lk A lm aa) - 97)])) := by rw [hL]; exact y_Lu_s
            have hoth : ∀ b, b ≠ p23 → y_L pl28 b = y_L pl23 b := fun b n0 => by rw [hL, y_Lu_n n0]; exact hoth b n0
            clear hL
            have hlt : aa < lm := y_lk_lt hzj7
            refine lv_aload_n hx hb d_Reader_begin_91 rfl (lv_at hl 4 rfl) ?_
            refine lv_dup hx hb d_Reader_begin_92 rfl ?_
            refine k_g (C := "ChannelMachine$Reader") (F := F_Reader) (N := 9) hx hb hts i_Reader hown hK hP 1 5 (by decide) (by decide) rfl (by decide) (d := (1, 4)) rfl (hts _ k_49) (fun _ h9 => h9) (v := .int (Int32.ofNat aa)) (congrArg Value.int hmi.1.2.2.2) d_Reader_begin_93 ?_
            refine lv_iconst (v := 1) hx hb d_Reader_begin_96 (by decide) ?_
            refine lv_iadd hx hb d_Reader_begin_97 ?_
            refine W.eq (g2 := F0 m 98 ls [.int (Int32.ofNat (aa + 1)), .ref (ad 1)]) (by rw [← x_addN (a := aa) (b := 1)] <;> rfl) ?_
            refine k_pi (C := "ChannelMachine$Reader") (F := F_Reader) (N := 9) hx hb hts i_Reader hown t_Reader t_Reader_ok n_Reader hK hP hD hS 1 5 (by decide) (by decide) rfl (by decide) (j := 4) (x := (Int32.ofNat (aa + 1))) rfl (hts _ k_49) (fun _ h9 => h9) rfl (by decide +kernel) d_Reader_begin_98 (fun H locs hP hD hS => ?_)
            have hmi : y_RD (upd I23 4 (Int32.ofNat (aa + 1))) A (ln, cl, lm, (aa + 1)) := hmi.at4 (by omega)
            have hbn := hmi.2.1
            dsimp only at hbn
            refine lv_aload hx hb d_Reader_begin_101 (lv_at hl 0 rfl) ?_
            have hpf : y_L pl23 p23 = some (.inr (7, y_Pf z C23 Gs23 p23 (J23 p23) none none (some t23) (z 21) (-1) (-1))) := by rw [hfp0]; unfold y_Pf; rw [hg2, hg3, hg4]; rfl
            have hd9 := hdx.put (s' := 1) (co' := z 21) (ch' := (x_ch ((y_lk A lm aa)))) (va' := ((y_lk A lm aa) - 97)) hg1 hpf (fun h9 => absurd rfl h9) (fun h9 => by omega)
            have hx9 := y_FX.put (s' := 1) (e := .inr (7, y_Pf z C23 Gs23 p23 (J23 p23) none none (some t23) (z 21) ((x_ch ((y_lk A lm aa)))) (((y_lk A lm aa) - 97)))) hfx23 hzp23
            have hL9 : y_L pl28 = y_Lu (y_L pl23) p23 (.inr (7, y_Pf z C23 Gs23 p23 (J23 p23) none none (some t23) (z 21) ((x_ch ((y_lk A lm aa)))) (((y_lk A lm aa) - 97)))) := y_Lu_eq (by rw [hfp23]; unfold y_Pf; rw [hg2, hg3, hg4]; rfl) (fun b hb => hoth b hb)
            rw [← hL9] at hd9 hx9
            refine y_know (fun hy91 hy92 hy93 hy94 => ?_)
            have hac9 : H.size ≤ s.heap.size + 2 ∧ y_hs H ≤ y_hs s.heap + 17 := ⟨by omega, by omega⟩
            refine W.widen (k := 2) (n := 17) (by omega) (by omega) ?_
            exact W.aret (v := .ref p23) hx hb hr (Or.inl ⟨_, rfl⟩) (Or.inr ⟨_, rfl⟩) (fun t ht hW => ⟨⟨(some p23), ((upd I23 4 (Int32.ofNat (aa + 1))), T, A, O23, pl28, (ln, cl, lm, (aa + 1))), rfl, ⟨hmi, rfl, rfl, rfl, fun k hk => hO23 k hk, ((m_fr.rf.tr fr23 (by decide)).up (by decide) _), Or.inr ⟨rfl, p23, t23, j7, (x_ch ((y_lk A lm aa))), ((y_lk A lm aa) - 97), G23, J23, C23, Gs23, y_un S23 p23 1, rfl, hzp23, hd9, hx9, hcx23, ⟨hg1, hg2, hg3, hg4, y_un_s, hg6⟩, hfp23, hpr23, hjj7, fun h9 => ((y_ch_ok _).resolve_left (hcj7 h9)).2⟩⟩, (by dsimp only; rw [ht]; exact ⟨hP, hD, hac9⟩)⟩, hS.F ht⟩) hS.2.2 d_Reader_begin_103
        · refine lv_iconst (v := 1) hx hb d_Reader_begin_31 (by decide) ?_
          refine lv_goto (tgt := 36) hx hb d_Reader_begin_32 (by decide) ?_
          refine lv_istore (lv' := [(5, .int 1), (4, .ref (z (3 + j7))), (3, .int (y_lk A lm aa)), (0, .ref (ad 1)), (1, .null), (2, .int (Int32.ofNat dp))]) hx hb d_Reader_begin_36 hl (by decide) rfl (fun ls hl => ?_)
          refine lv_aload hx hb d_Reader_begin_38 (lv_at hl 1 rfl) ?_
          refine lv_ifnull hx hb d_Reader_begin_40 ?_
          refine lv_iload hx hb d_Reader_begin_43 (lv_at hl 0 rfl) ?_
          refine lv_if_eq (tgt := 56) hx hb d_Reader_begin_45 (by decide) (fun c29 => absurd c29 (by decide)) (fun _ => ?_)
          refine lv_iload_n hx hb d_Reader_begin_48 rfl (lv_at hl 5 rfl) ?_
          refine lv_bipush (v := 7) hx hb d_Reader_begin_49 (by decide) ?_
          refine lv_icmp_ne (tgt := 56) hx hb d_Reader_begin_51 (by decide) (fun c_30 => ?_) (fun c_30 => ?_)
          · have c_30 : ¬ dp = 7 := fun h9 => c_30 ((x_eqN (a := dp) (b := 7) (by omega) (by omega)).mpr h9)
            refine lv_aload_n hx hb d_Reader_begin_56 rfl (lv_at hl 3 rfl) ?_
            refine lv_aload hx hb d_Reader_begin_57 (lv_at hl 1 rfl) ?_
            refine lv_aload_nN hx hb d_Reader_begin_59 rfl (lv_at hl 4 rfl) ?_
            refine y_know (fun hya1 hya2 hya3 hya4 => ?_)
            have hFc := y_free hD hS hA
            refine va_callq (va_runV (As := [.ref (z (3 + j7)), .null]) (rest := []) ⟨hx, hb, hml, hown, hts⟩ (c_Rd_added l dC dI ar N0 z ad I T A O pl ln cl lm aa f0 G J C Gs S j7 none H.size (y_hs H) hmi hdx hjj7 hpar) (cwV 2 hts (x_goodV k_377 k_379 kp_5 k_2 k_380) rfl rfl rfl (by decide +kernel) ⟨Nat.le_of_ble_eq_true rfl, Nat.le_of_ble_eq_true rfl⟩) ⟨y_blind, va_recv hK hP (ci := 3) (q0 := 1) rfl (y_W_ob (by decide) (by decide)), fun U9 hU9 hW9 => y_pre hU9 hW9 hP hD hU hZ hS hAN hN0⟩ rfl rfl hl.1 rfl (lv_room (Nat.le_of_ble_eq_true rfl)) d_Reader_begin_60 ⟨(by show 0 + (2) ≤ 2; omega), (by show 0 + (17) ≤ 17; omega)⟩) hS (fun q _ h => hFc q h) hFc (fun r_31 u t H1 locs ht hvm hw hB hz1 hk1 hS => ?_)
            obtain ⟨I32, T32, A32, O32, pl32, q32, s32, cq32, cs32⟩ := u
            dsimp only at hw hB
            rw [ht] at hB
            obtain ⟨hP, hD1, hac32⟩ := hB
            have hD : va_D Bq (y_W ad ar I32 T32 A32 O32 pl32) := hD1.weaken (fun _ q _ h => hFc q.1 h)
            generalize H1 = H at hP hS hac32 ⊢
            have hae32 := hac32
            try unfold y_ac at hae32
            try dsimp only at hae32
            obtain ⟨hmi, e5, e2, e3, hO32, fr32, p32, t32, G32, J32, C32, Gs32, S32, rfl, hzp32, hdx, hfx32, hcx32, ⟨hg1, hg2, hg3, hg4, hg5, hg6⟩, hfp32, hpr32⟩ := hw
            cases e5
            rw [e2, e3] at hP hD
            have hP : va_P (dC, dI) y_cl (y_W ad ar I32 T A O32 pl32) H := hP
            have hD : va_D Bq (y_W ad ar I32 T A O32 pl32) := hD
            rw [e3] at hmi
            have hmi : y_RD I32 A (ln, cl, lm, aa) := hmi
            have hfp32 : y_L pl32 p32 = some (.inr (7, [.ref (z (3 + j7)), .null, .null, .null, .null, .ref t32, .null, .ref (z 21), .int (-1), .int (-1)])) := hfp32
            have hfp0 := hfp32
            refine W.eq (g2 := F0 m 63 ls [.ref p32]) rfl ?_
            refine lv_astore (lv' := [(6, .ref p32), (5, .int 1), (4, .ref (z (3 + j7))), (3, .int (y_lk A lm aa)), (0, .ref (ad 1)), (1, .null), (2, .int (Int32.ofNat dp))]) hx hb d_Reader_begin_63 hl (by decide) rfl (fun ls hl => ?_)
            refine lv_aload hx hb d_Reader_begin_65 (lv_at hl 0 rfl) ?_
            refine lv_iload_n hx hb d_Reader_begin_67 rfl (lv_at hl 3 rfl) ?_
            have hFc := y_free hD hS hA
            refine va_calli (va_runS (As := [.int (y_lk A lm aa)]) (rest := [.ref p32]) ⟨hx, hb, hml, hown, hts⟩ (c_Rd_channelOf l dC dI ar N0 z ad I32 T A O32 pl32 ((y_lk A lm aa)) H.size (y_hs H) ) (cwS 1 hts (x_goodS k_374 k_375 k_2 k_376) rfl rfl rfl (by decide +kernel) ⟨Nat.le_of_ble_eq_true rfl, Nat.le_of_ble_eq_true rfl⟩) ⟨y_blind, fun U9 hU9 hW9 => y_pre hU9 hW9 hP hD hU hZ hS hAN hN0⟩ rfl rfl hl.1 rfl (lv_room (Nat.le_of_ble_eq_true rfl)) d_Reader_begin_68 ⟨(by show 0 + (2) + (0) ≤ 2; omega), (by show 0 + (17) + (0) ≤ 17; omega)⟩) hS (fun q _ h => hFc q h) hFc (fun r_33 u t H1 locs ht hvm hw hB hz1 hk1 hS => ?_)
            obtain ⟨I34, T34, A34, O34, pl34, q34, s34, cq34, cs34⟩ := u
            dsimp only at hw hB
            rw [ht] at hB
            obtain ⟨hP, hD1, hac34⟩ := hB
            have hD : va_D Bq (y_W ad ar I34 T34 A34 O34 pl34) := hD1.weaken (fun _ q _ h => hFc q.1 h)
            generalize H1 = H at hP hS hac34 ⊢
            have hae34 := hac34
            try unfold y_ac at hae34
            try dsimp only at hae34
            refine W.widen (k := 0 + (2)) (n := 0 + (17)) (by omega) (by omega) ?_
            obtain ⟨h9, hw⟩ := hw
            cases h9
            obtain rfl := hw
            refine d_pN (C := "ChannelMachine$Process") (F := F_Process) (N := 10) hx hb hts i_Process hown t_Process t_Process_ok n_Process hK hP hD hS hfp32 8 rfl (by decide) (hU.1.2.1 _ kn_418) (fun _ h9 => h9) rfl (ty := .int) (v := .int (x_ch ((y_lk A lm aa)))) (by decide +kernel) rfl rfl (Nat.le_of_ble_eq_true rfl) d_Reader_begin_71 (fun pl35 H locs hL hP hD hS => ?_)
            have hfp32 : y_L pl35 p32 = some (.inr (7, [.ref (z (3 + j7)), .null, .null, .null, .null, .ref t32, .null, .ref (z 21), .int (x_ch ((y_lk A lm aa))), .int (-1)])) := by rw [hL]; exact y_Lu_s
            have hoth : ∀ b, b ≠ p32 → y_L pl35 b = y_L pl32 b := fun b n0 => by rw [hL, y_Lu_n n0]
            clear hL
            refine lv_aload hx hb d_Reader_begin_74 (lv_at hl 2 rfl) ?_
            refine va_gets hx hb ((hZ.2.1.1 0 (by decide)).1.narrow hAN) hS hown (hts _ k_372) (fun _ h9 => h9) d_Reader_begin_76 ?_
            refine lv_acmp_ne (rx := (some ((z (3 + j7))))) (ry := (some ((z (3 + 0))))) (tgt := 91) hx hb d_Reader_begin_79 (by decide) (fun h_36 => ?_) (fun h_36 => ?_)
            · have hlt : aa < lm := y_lk_lt hzj7
              refine lv_aload_n hx hb d_Reader_begin_91 rfl (lv_at hl 4 rfl) ?_
              refine lv_dup hx hb d_Reader_begin_92 rfl ?_
              refine k_g (C := "ChannelMachine$Reader") (F := F_Reader) (N := 9) hx hb hts i_Reader hown hK hP 1 5 (by decide) (by decide) rfl (by decide) (d := (1, 4)) rfl (hts _ k_49) (fun _ h9 => h9) (v := .int (Int32.ofNat aa)) (congrArg Value.int hmi.1.2.2.2) d_Reader_begin_93 ?_
              refine lv_iconst (v := 1) hx hb d_Reader_begin_96 (by decide) ?_
              refine lv_iadd hx hb d_Reader_begin_97 ?_
              refine W.eq (g2 := F0 m 98 ls [.int (Int32.ofNat (aa + 1)), .ref (ad 1)]) (by rw [← x_addN (a := aa) (b := 1)] <;> rfl) ?_
              refine k_pi (C := "ChannelMachine$Reader") (F := F_Reader) (N := 9) hx hb hts i_Reader hown t_Reader t_Reader_ok n_Reader hK hP hD hS 1 5 (by decide) (by decide) rfl (by decide) (j := 4) (x := (Int32.ofNat (aa + 1))) rfl (hts _ k_49) (fun _ h9 => h9) rfl (by decide +kernel) d_Reader_begin_98 (fun H locs hP hD hS => ?_)
              have hmi : y_RD (upd I32 4 (Int32.ofNat (aa + 1))) A (ln, cl, lm, (aa + 1)) := hmi.at4 (by omega)
              have hbn := hmi.2.1
              dsimp only at hbn
              refine lv_aload hx hb d_Reader_begin_101 (lv_at hl 0 rfl) ?_
              have hpf : y_L pl32 p32 = some (.inr (7, y_Pf z C32 Gs32 p32 (J32 p32) none none (some t32) (z 21) (-1) (-1))) := by rw [hfp0]; unfold y_Pf; rw [hg2, hg3, hg4]; rfl
              have hd9 := hdx.put (s' := 1) (co' := z 21) (ch' := (x_ch ((y_lk A lm aa)))) (va' := (-1)) hg1 hpf (fun h9 => absurd rfl h9) (fun h9 => by omega)
              have hx9 := y_FX.put (s' := 1) (e := .inr (7, y_Pf z C32 Gs32 p32 (J32 p32) none none (some t32) (z 21) ((x_ch ((y_lk A lm aa)))) ((-1)))) hfx32 hzp32
              have hL9 : y_L pl35 = y_Lu (y_L pl32) p32 (.inr (7, y_Pf z C32 Gs32 p32 (J32 p32) none none (some t32) (z 21) ((x_ch ((y_lk A lm aa)))) ((-1)))) := y_Lu_eq (by rw [hfp32]; unfold y_Pf; rw [hg2, hg3, hg4]; rfl) (fun b hb => hoth b hb)
              rw [← hL9] at hd9 hx9
              refine y_know (fun hy91 hy92 hy93 hy94 => ?_)
              have hac9 : H.size ≤ s.heap.size + 2 ∧ y_hs H ≤ y_hs s.heap + 17 := ⟨by omega, by omega⟩
              refine W.widen (k := 2) (n := 17) (by omega) (by omega) ?_
              exact W.aret (v := .ref p32) hx hb hr (Or.inl ⟨_, rfl⟩) (Or.inr ⟨_, rfl⟩) (fun t ht hW => ⟨⟨(some p32), ((upd I32 4 (Int32.ofNat (aa + 1))), T, A, O32, pl35, (ln, cl, lm, (aa + 1))), rfl, ⟨hmi, rfl, rfl, rfl, fun k hk => hO32 k hk, ((m_fr.rf.tr fr32 (by decide)).up (by decide) _), Or.inr ⟨rfl, p32, t32, j7, (x_ch ((y_lk A lm aa))), (-1), G32, J32, C32, Gs32, y_un S32 p32 1, rfl, hzp32, hd9, hx9, hcx32, ⟨hg1, hg2, hg3, hg4, y_un_s, hg6⟩, hfp32, hpr32, hjj7, fun h9 => ((y_ch_ok _).resolve_left (hcj7 h9)).2⟩⟩, (by dsimp only; rw [ht]; exact ⟨hP, hD, hac9⟩)⟩, hS.F ht⟩) hS.2.2 d_Reader_begin_103
            · refine lv_aload hx hb d_Reader_begin_82 (lv_at hl 0 rfl) ?_
              refine lv_iload_n hx hb d_Reader_begin_84 rfl (lv_at hl 3 rfl) ?_
              refine lv_bipush (v := 97) hx hb d_Reader_begin_85 (by decide) ?_
              refine lv_isub hx hb d_Reader_begin_87 ?_
              refine d_pN (C := "ChannelMachine$Process") (F := F_Process) (N := 10) hx hb hts i_Process hown t_Process t_Process_ok n_Process hK hP hD hS hfp32 9 rfl (by decide) (hU.1.2.1 _ kn_421) (fun _ h9 => h9) rfl (ty := .int) (v := .int ((y_lk A lm aa) - 97)) (by decide +kernel) rfl rfl (Nat.le_of_ble_eq_true rfl) d_Reader_begin_88 (fun pl37 H locs hL hP hD hS => ?_)
              have hfp32 : y_L pl37 p32 = some (.inr (7, [.ref (z (3 + j7)), .null, .null, .null, .null, .ref t32, .null, .ref (z 21), .int (x_ch ((y_lk A lm aa))), .int ((y_lk A lm aa) - 97)])) := by rw [hL]; exact y_Lu_s
              have hoth : ∀ b, b ≠ p32 → y_L pl37 b = y_L pl32 b := fun b n0 => by rw [hL, y_Lu_n n0]; exact hoth b n0
              clear hL
              have hlt : aa < lm := y_lk_lt hzj7
              refine lv_aload_n hx hb d_Reader_begin_91 rfl (lv_at hl 4 rfl) ?_
              refine lv_dup hx hb d_Reader_begin_92 rfl ?_
              refine k_g (C := "ChannelMachine$Reader") (F := F_Reader) (N := 9) hx hb hts i_Reader hown hK hP 1 5 (by decide) (by decide) rfl (by decide) (d := (1, 4)) rfl (hts _ k_49) (fun _ h9 => h9) (v := .int (Int32.ofNat aa)) (congrArg Value.int hmi.1.2.2.2) d_Reader_begin_93 ?_
              refine lv_iconst (v := 1) hx hb d_Reader_begin_96 (by decide) ?_
              refine lv_iadd hx hb d_Reader_begin_97 ?_
              refine W.eq (g2 := F0 m 98 ls [.int (Int32.ofNat (aa + 1)), .ref (ad 1)]) (by rw [← x_addN (a := aa) (b := 1)] <;> rfl) ?_
              refine k_pi (C := "ChannelMachine$Reader") (F := F_Reader) (N := 9) hx hb hts i_Reader hown t_Reader t_Reader_ok n_Reader hK hP hD hS 1 5 (by decide) (by decide) rfl (by decide) (j := 4) (x := (Int32.ofNat (aa + 1))) rfl (hts _ k_49) (fun _ h9 => h9) rfl (by decide +kernel) d_Reader_begin_98 (fun H locs hP hD hS => ?_)
              have hmi : y_RD (upd I32 4 (Int32.ofNat (aa + 1))) A (ln, cl, lm, (aa + 1)) := hmi.at4 (by omega)
              have hbn := hmi.2.1
              dsimp only at hbn
              refine lv_aload hx hb d_Reader_begin_101 (lv_at hl 0 rfl) ?_
              have hpf : y_L pl32 p32 = some (.inr (7, y_Pf z C32 Gs32 p32 (J32 p32) none none (some t32) (z 21) (-1) (-1))) := by rw [hfp0]; unfold y_Pf; rw [hg2, hg3, hg4]; rfl
              have hd9 := hdx.put (s' := 1) (co' := z 21) (ch' := (x_ch ((y_lk A lm aa)))) (va' := ((y_lk A lm aa) - 97)) hg1 hpf (fun h9 => absurd rfl h9) (fun h9 => by omega)
              have hx9 := y_FX.put (s' := 1) (e := .inr (7, y_Pf z C32 Gs32 p32 (J32 p32) none none (some t32) (z 21) ((x_ch ((y_lk A lm aa)))) (((y_lk A lm aa) - 97)))) hfx32 hzp32
              have hL9 : y_L pl37 = y_Lu (y_L pl32) p32 (.inr (7, y_Pf z C32 Gs32 p32 (J32 p32) none none (some t32) (z 21) ((x_ch ((y_lk A lm aa)))) (((y_lk A lm aa) - 97)))) := y_Lu_eq (by rw [hfp32]; unfold y_Pf; rw [hg2, hg3, hg4]; rfl) (fun b hb => hoth b hb)
              rw [← hL9] at hd9 hx9
              refine y_know (fun hy91 hy92 hy93 hy94 => ?_)
              have hac9 : H.size ≤ s.heap.size + 2 ∧ y_hs H ≤ y_hs s.heap + 17 := ⟨by omega, by omega⟩
              refine W.widen (k := 2) (n := 17) (by omega) (by omega) ?_
              exact W.aret (v := .ref p32) hx hb hr (Or.inl ⟨_, rfl⟩) (Or.inr ⟨_, rfl⟩) (fun t ht hW => ⟨⟨(some p32), ((upd I32 4 (Int32.ofNat (aa + 1))), T, A, O32, pl37, (ln, cl, lm, (aa + 1))), rfl, ⟨hmi, rfl, rfl, rfl, fun k hk => hO32 k hk, ((m_fr.rf.tr fr32 (by decide)).up (by decide) _), Or.inr ⟨rfl, p32, t32, j7, (x_ch ((y_lk A lm aa))), ((y_lk A lm aa) - 97), G32, J32, C32, Gs32, y_un S32 p32 1, rfl, hzp32, hd9, hx9, hcx32, ⟨hg1, hg2, hg3, hg4, y_un_s, hg6⟩, hfp32, hpr32, hjj7, fun h9 => ((y_ch_ok _).resolve_left (hcj7 h9)).2⟩⟩, (by dsimp only; rw [ht]; exact ⟨hP, hD, hac9⟩)⟩, hS.F ht⟩) hS.2.2 d_Reader_begin_103
          · have c_30 : dp = 7 := (x_eqN (a := dp) (b := 7) (by omega) (by omega)).mp c_30
            refine lv_null hx hb d_Reader_begin_54 ?_
            refine y_know (fun hy91 hy92 hy93 hy94 => ?_)
            have hac9 : H.size ≤ s.heap.size + 2 ∧ y_hs H ≤ y_hs s.heap + 17 := ⟨by omega, by omega⟩
            refine W.widen (k := 2) (n := 17) (by omega) (by omega) ?_
            exact W.aret (v := .null) hx hb hr (Or.inl ⟨_, rfl⟩) (Or.inl rfl) (fun t ht hW => ⟨⟨none, (I, T, A, O, pl, (ln, cl, lm, aa)), rfl, ⟨hmi, rfl, rfl, rfl, fun k hk => rfl, m_fr.rf, Or.inl ⟨rfl, rfl, rfl⟩⟩, (by dsimp only; rw [ht]; exact ⟨hP, hD, hac9⟩)⟩, hS.F ht⟩) hS.2.2 d_Reader_begin_55
  · refine Met.ofW (cc := prog_8_method_14_code) (maxL := 7) (ret := (some (.object "ChannelMachine$Process"))) (by decide) rfl ?_
    intro p e s m args below meth c s₁ B hml hv
    obtain ⟨rfl, hsz, hN0, hP, hU, hZ, hD0, hw0⟩ := hv
    have hK := hU.2.1
    have hx := B.exec
    have hb := B.bytes
    have hr := B.returns
    have hts : ∀ w ∈ x_T, w.before ([.ref (ad 1), va_rf (some P), .int (Int32.ofNat dp)] : List Value).toArray s = true := fun w h => atoms_spec (ws := (Jvm.Cond.code ({ cls := "ChannelMachine$Reader", name := "begin", desc := "(LChannelMachine$Process;I)LChannelMachine$Process;" } : Jvm.MethodName) prog_8_method_14_code (7 : Nat) (Option.some (Jvm.ClassFile.FieldType.object "ChannelMachine$Process"))) :: x_T) B.pre w (List.mem_cons_of_mem _ h)
    have hown : s.vm.findClass "ChannelMachine$Reader" = some m.cls := findClass_of_methodNamed B.named
    have hlocks := B.notSynchronized
    subst hsz
    subst hw0
    have hD := hD0.self (sz := s.heap.size)
    have hAN := x_AN hD0 hN0
    generalize hAe : va_A (y_W ad ar I T A O pl) s.heap.size = Bq at hD hAN ⊢
    have hA : ∀ q : Nat, s.heap.size ≤ q → Bq q := fun q h => by rw [← hAe]; exact Or.inr h
    have hS : va_S Bq s.heap s.heap [] := va_S.rf
    have hl := lv_entry ([.ref (ad 1), va_rf (some P), .int (Int32.ofNat dp)]) (n := 7) (Nat.le_of_ble_eq_true rfl)
    rw [lg_entry_eq]
    generalize (lg_sl ([.ref (ad 1), va_rf (some P), .int (Int32.ofNat dp)]) ++ List.replicate (7 - (lg_sl ([.ref (ad 1), va_rf (some P), .int (Int32.ofNat dp)])).length) Slot.unset).toArray = ls at hl ⊢
    have hl : lv_has ls 7 [(0, .ref (ad 1)), (1, .ref P), (2, .int (Int32.ofNat dp))] := hl
    have hbn := hmi.2.1
    dsimp only at hbn
    refine lv_aload_n hx hb d_Reader_begin_0 rfl (lv_at hl 0 rfl) ?_
    have hFc := y_free hD hS hA
    refine va_calli (va_runV (As := []) (rest := []) ⟨hx, hb, hml, hown, hts⟩ (c_Rd_look l dC dI ar N0 z ad I T A O pl ln cl lm aa s.heap.size (y_hs s.heap) hmi) (cwV 0 hts (x_goodV k_338 k_340 kp_3 k_2 k_341) rfl rfl rfl (by decide +kernel) ⟨Nat.le_of_ble_eq_true rfl, Nat.le_of_ble_eq_true rfl⟩) ⟨y_blind, va_recv hK hP (ci := 3) (q0 := 1) rfl (y_W_ob (by decide) (by decide)), fun U9 hU9 hW9 => y_pre hU9 hW9 hP hD hU hZ hS hAN hN0⟩ rfl rfl hl.1 rfl (lv_room (Nat.le_of_ble_eq_true rfl)) d_Reader_begin_1 ⟨(by show 0 + (0) ≤ 2; omega), (by show 0 + (0) ≤ 17; omega)⟩) hS (fun q _ h => hFc q h) hFc (fun r_38 u t H1 locs ht hvm hw hB hz1 hk1 hS => ?_)
    obtain ⟨I39, T39, A39, O39, pl39, q39, s39, cq39, cs39⟩ := u
    dsimp only at hw hB
    rw [ht] at hB
    obtain ⟨hP, hD1, hac39⟩ := hB
    have hD : va_D Bq (y_W ad ar I39 T39 A39 O39 pl39) := hD1.weaken (fun _ q _ h => hFc q.1 h)
    generalize H1 = H at hP hS hac39 ⊢
    have hae39 := hac39
    try unfold y_ac at hae39
    try dsimp only at hae39
    refine W.widen (k := 0) (n := 0) (by omega) (by omega) ?_
    obtain ⟨h9, hw⟩ := hw
    cases h9
    obtain rfl := hw
    refine lv_istore_n (lv' := [(3, .int (y_lk A lm aa)), (0, .ref (ad 1)), (1, .ref P), (2, .int (Int32.ofNat dp))]) hx hb d_Reader_begin_4 rfl hl (by decide) rfl (fun ls hl => ?_)
    refine lv_iload_n hx hb d_Reader_begin_5 rfl (lv_at hl 0 rfl) ?_
    refine lv_aload_n hx hb d_Reader_begin_6 rfl (lv_at hl 1 rfl) ?_
    have hFc := y_free hD hS hA
    refine va_calli (va_runV (As := []) (rest := [.int (y_lk A lm aa)]) ⟨hx, hb, hml, hown, hts⟩ (c_Rd_look2 l dC dI ar N0 z ad I T A O pl ln cl lm aa H.size (y_hs H) hmi) (cwV 0 hts (x_goodV k_342 k_344 kp_4 k_2 k_345) rfl rfl rfl (by decide +kernel) ⟨Nat.le_of_ble_eq_true rfl, Nat.le_of_ble_eq_true rfl⟩) ⟨y_blind, va_recv hK hP (ci := 3) (q0 := 1) rfl (y_W_ob (by decide) (by decide)), fun U9 hU9 hW9 => y_pre hU9 hW9 hP hD hU hZ hS hAN hN0⟩ rfl rfl hl.1 rfl (lv_room (Nat.le_of_ble_eq_true rfl)) d_Reader_begin_7 ⟨(by show 0 + (0) ≤ 2; omega), (by show 0 + (0) ≤ 17; omega)⟩) hS (fun q _ h => hFc q h) hFc (fun r_40 u t H1 locs ht hvm hw hB hz1 hk1 hS => ?_)
    obtain ⟨I41, T41, A41, O41, pl41, q41, s41, cq41, cs41⟩ := u
    dsimp only at hw hB
    rw [ht] at hB
    obtain ⟨hP, hD1, hac41⟩ := hB
    have hD : va_D Bq (y_W ad ar I41 T41 A41 O41 pl41) := hD1.weaken (fun _ q _ h => hFc q.1 h)
    generalize H1 = H at hP hS hac41 ⊢
    have hae41 := hac41
    try unfold y_ac at hae41
    try dsimp only at hae41
    refine W.widen (k := 0) (n := 0) (by omega) (by omega) ?_
    cases hw
    have hFc := y_free hD hS hA
    refine va_callq (va_runS (As := [.int (y_lk A lm aa), .int r_40]) (rest := []) ⟨hx, hb, hml, hown, hts⟩ (c_Rd_kindOf l dC dI ar N0 z ad I T A O pl ((y_lk A lm aa)) (r_40) H.size (y_hs H) ) (cwS 2 hts (x_goodS k_346 k_347 k_2 k_348) rfl rfl rfl (by decide +kernel) ⟨Nat.le_of_ble_eq_true rfl, Nat.le_of_ble_eq_true rfl⟩) ⟨y_blind, fun U9 hU9 hW9 => y_pre hU9 hW9 hP hD hU hZ hS hAN hN0⟩ rfl rfl hl.1 rfl (lv_room (Nat.le_of_ble_eq_true rfl)) d_Reader_begin_10 ⟨(by show 0 + (0) ≤ 2; omega), (by show 0 + (0) ≤ 17; omega)⟩) hS (fun q _ h => hFc q h) hFc (fun r_42 u t H1 locs ht hvm hw hB hz1 hk1 hS => ?_)
    obtain ⟨I43, T43, A43, O43, pl43, q43, s43, cq43, cs43⟩ := u
    dsimp only at hw hB
    rw [ht] at hB
    obtain ⟨hP, hD1, hac43⟩ := hB
    have hD : va_D Bq (y_W ad ar I43 T43 A43 O43 pl43) := hD1.weaken (fun _ q _ h => hFc q.1 h)
    generalize H1 = H at hP hS hac43 ⊢
    have hae43 := hac43
    try unfold y_ac at hae43
    try dsimp only at hae43
    refine W.widen (k := 0) (n := 0) (by omega) (by omega) ?_
    obtain ⟨h9, hw⟩ := hw
    cases h9
    rcases hw with rfl | ⟨j44, rfl, hjj44, hzj44, hcj44⟩
    · refine W.eq (g2 := F0 m 13 ls [.null]) rfl ?_
      refine lv_astoreN (lv' := [(4, .null), (3, .int (y_lk A lm aa)), (0, .ref (ad 1)), (1, .ref P), (2, .int (Int32.ofNat dp))]) hx hb d_Reader_begin_13 hl (by decide) rfl (fun ls hl => ?_)
      refine lv_aloadN hx hb d_Reader_begin_15 (lv_at hl 0 rfl) ?_
      refine va_gets hx hb ((hZ.2.1.1 7 (by decide)).1.narrow hAN) hS hown (hts _ k_359) (fun _ h9 => h9) d_Reader_begin_17 ?_
      refine lv_acmp_eq (rx := none) (ry := (some ((z (3 + 7))))) (tgt := 31) hx hb d_Reader_begin_20 (by decide) (fun h_45 => ?_) (fun h_45 => ?_)
      · refine lv_iconst (v := 1) hx hb d_Reader_begin_31 (by decide) ?_
        refine lv_goto (tgt := 36) hx hb d_Reader_begin_32 (by decide) ?_
        refine lv_istore (lv' := [(5, .int 1), (4, .null), (3, .int (y_lk A lm aa)), (0, .ref (ad 1)), (1, .ref P), (2, .int (Int32.ofNat dp))]) hx hb d_Reader_begin_36 hl (by decide) rfl (fun ls hl => ?_)
        refine lv_aloadN hx hb d_Reader_begin_38 (lv_at hl 1 rfl) ?_
        refine lv_ifnullN (tgt := 54) hx hb d_Reader_begin_40 (by decide) ?_
        refine lv_null hx hb d_Reader_begin_54 ?_
        refine y_know (fun hy91 hy92 hy93 hy94 => ?_)
        have hac9 : H.size ≤ s.heap.size + 2 ∧ y_hs H ≤ y_hs s.heap + 17 := ⟨by omega, by omega⟩
        refine W.widen (k := 2) (n := 17) (by omega) (by omega) ?_
        exact W.aret (v := .null) hx hb hr (Or.inl ⟨_, rfl⟩) (Or.inl rfl) (fun t ht hW => ⟨⟨none, (I, T, A, O, pl, (ln, cl, lm, aa)), rfl, ⟨hmi, rfl, rfl, rfl, fun k hk => rfl, m_fr.rf, Or.inl ⟨rfl, rfl, rfl⟩⟩, (by dsimp only; rw [ht]; exact ⟨hP, hD, hac9⟩)⟩, hS.F ht⟩) hS.2.2 d_Reader_begin_55
      · refine lv_aloadN hx hb d_Reader_begin_23 (lv_at hl 0 rfl) ?_
        refine va_gets hx hb ((hZ.2.1.1 8 (by decide)).1.narrow hAN) hS hown (hts _ k_361) (fun _ h9 => h9) d_Reader_begin_25 ?_
        refine lv_acmp_ne (rx := none) (ry := (some ((z (3 + 8))))) (tgt := 35) hx hb d_Reader_begin_28 (by decide) (fun h_46 => ?_) (fun h_46 => ?_)
        · refine lv_iconst (v := 0) hx hb d_Reader_begin_35 (by decide) ?_
          refine lv_istore (lv' := [(5, .int 0), (4, .null), (3, .int (y_lk A lm aa)), (0, .ref (ad 1)), (1, .ref P), (2, .int (Int32.ofNat dp))]) hx hb d_Reader_begin_36 hl (by decide) rfl (fun ls hl => ?_)
          refine lv_aloadN hx hb d_Reader_begin_38 (lv_at hl 1 rfl) ?_
          refine lv_ifnullN (tgt := 54) hx hb d_Reader_begin_40 (by decide) ?_
          refine lv_null hx hb d_Reader_begin_54 ?_
          refine y_know (fun hy91 hy92 hy93 hy94 => ?_)
          have hac9 : H.size ≤ s.heap.size + 2 ∧ y_hs H ≤ y_hs s.heap + 17 := ⟨by omega, by omega⟩
          refine W.widen (k := 2) (n := 17) (by omega) (by omega) ?_
          exact W.aret (v := .null) hx hb hr (Or.inl ⟨_, rfl⟩) (Or.inl rfl) (fun t ht hW => ⟨⟨none, (I, T, A, O, pl, (ln, cl, lm, aa)), rfl, ⟨hmi, rfl, rfl, rfl, fun k hk => rfl, m_fr.rf, Or.inl ⟨rfl, rfl, rfl⟩⟩, (by dsimp only; rw [ht]; exact ⟨hP, hD, hac9⟩)⟩, hS.F ht⟩) hS.2.2 d_Reader_begin_55
        · refine lv_iconst (v := 1) hx hb d_Reader_begin_31 (by decide) ?_
          refine lv_goto (tgt := 36) hx hb d_Reader_begin_32 (by decide) ?_
          refine lv_istore (lv' := [(5, .int 1), (4, .null), (3, .int (y_lk A lm aa)), (0, .ref (ad 1)), (1, .ref P), (2, .int (Int32.ofNat dp))]) hx hb d_Reader_begin_36 hl (by decide) rfl (fun ls hl => ?_)
          refine lv_aloadN hx hb d_Reader_begin_38 (lv_at hl 1 rfl) ?_
          refine lv_ifnullN (tgt := 54) hx hb d_Reader_begin_40 (by decide) ?_
          refine lv_null hx hb d_Reader_begin_54 ?_
          refine y_know (fun hy91 hy92 hy93 hy94 => ?_)
          have hac9 : H.size ≤ s.heap.size + 2 ∧ y_hs H ≤ y_hs s.heap + 17 := ⟨by omega, by omega⟩
          refine W.widen (k := 2) (n := 17) (by omega) (by omega) ?_
          exact W.aret (v := .null) hx hb hr (Or.inl ⟨_, rfl⟩) (Or.inl rfl) (fun t ht hW => ⟨⟨none, (I, T, A, O, pl, (ln, cl, lm, aa)), rfl, ⟨hmi, rfl, rfl, rfl, fun k hk => rfl, m_fr.rf, Or.inl ⟨rfl, rfl, rfl⟩⟩, (by dsimp only; rw [ht]; exact ⟨hP, hD, hac9⟩)⟩, hS.F ht⟩) hS.2.2 d_Reader_begin_55
    · refine W.eq (g2 := F0 m 13 ls [.ref (z (3 + j44))]) rfl ?_
      refine lv_astore (lv' := [(4, .ref (z (3 + j44))), (3, .int (y_lk A lm aa)), (0, .ref (ad 1)), (1, .ref P), (2, .int (Int32.ofNat dp))]) hx hb d_Reader_begin_13 hl (by decide) rfl (fun ls hl => ?_)
      refine lv_aload hx hb d_Reader_begin_15 (lv_at hl 0 rfl) ?_
      refine va_gets hx hb ((hZ.2.1.1 7 (by decide)).1.narrow hAN) hS hown (hts _ k_359) (fun _ h9 => h9) d_Reader_begin_17 ?_
      refine lv_acmp_eq (rx := (some ((z (3 + j44))))) (ry := (some ((z (3 + 7))))) (tgt := 31) hx hb d_Reader_begin_20 (by decide) (fun h_47 => ?_) (fun h_47 => ?_)
      · refine lv_iconst (v := 1) hx hb d_Reader_begin_31 (by decide) ?_
        refine lv_goto (tgt := 36) hx hb d_Reader_begin_32 (by decide) ?_
        refine lv_istore (lv' := [(5, .int 1), (4, .ref (z (3 + j44))), (3, .int (y_lk A lm aa)), (0, .ref (ad 1)), (1, .ref P), (2, .int (Int32.ofNat dp))]) hx hb d_Reader_begin_36 hl (by decide) rfl (fun ls hl => ?_)
        refine lv_aload hx hb d_Reader_begin_38 (lv_at hl 1 rfl) ?_
        refine lv_ifnull hx hb d_Reader_begin_40 ?_
        refine lv_iload hx hb d_Reader_begin_43 (lv_at hl 0 rfl) ?_
        refine lv_if_eq (tgt := 56) hx hb d_Reader_begin_45 (by decide) (fun c48 => absurd c48 (by decide)) (fun _ => ?_)
        refine lv_iload_n hx hb d_Reader_begin_48 rfl (lv_at hl 5 rfl) ?_
        refine lv_bipush (v := 7) hx hb d_Reader_begin_49 (by decide) ?_
        refine lv_icmp_ne (tgt := 56) hx hb d_Reader_begin_51 (by decide) (fun c_49 => ?_) (fun c_49 => ?_)
        · have c_49 : ¬ dp = 7 := fun h9 => c_49 ((x_eqN (a := dp) (b := 7) (by omega) (by omega)).mpr h9)
          refine lv_aload_n hx hb d_Reader_begin_56 rfl (lv_at hl 3 rfl) ?_
          refine lv_aload hx hb d_Reader_begin_57 (lv_at hl 1 rfl) ?_
          refine lv_aload_n hx hb d_Reader_begin_59 rfl (lv_at hl 4 rfl) ?_
          refine y_know (fun hya1 hya2 hya3 hya4 => ?_)
          have hFc := y_free hD hS hA
          refine va_callq (va_runV (As := [.ref (z (3 + j44)), .ref P]) (rest := []) ⟨hx, hb, hml, hown, hts⟩ (c_Rd_added l dC dI ar N0 z ad I T A O pl ln cl lm aa f0 G J C Gs S j44 (some P) H.size (y_hs H) hmi hdx hjj44 hpar) (cwV 2 hts (x_goodV k_377 k_379 kp_5 k_2 k_380) rfl rfl rfl (by decide +kernel) ⟨Nat.le_of_ble_eq_true rfl, Nat.le_of_ble_eq_true rfl⟩) ⟨y_blind, va_recv hK hP (ci := 3) (q0 := 1) rfl (y_W_ob (by decide) (by decide)), fun U9 hU9 hW9 => y_pre hU9 hW9 hP hD hU hZ hS hAN hN0⟩ rfl rfl hl.1 rfl (lv_room (Nat.le_of_ble_eq_true rfl)) d_Reader_begin_60 ⟨(by show 0 + (2) ≤ 2; omega), (by show 0 + (17) ≤ 17; omega)⟩) hS (fun q _ h => hFc q h) hFc (fun r_50 u t H1 locs ht hvm hw hB hz1 hk1 hS => ?_)
          obtain ⟨I51, T51, A51, O51, pl51, q51, s51, cq51, cs51⟩ := u
          dsimp only at hw hB
          rw [ht] at hB
          obtain ⟨hP, hD1, hac51⟩ := hB
          have hD : va_D Bq (y_W ad ar I51 T51 A51 O51 pl51) := hD1.weaken (fun _ q _ h => hFc q.1 h)
          generalize H1 = H at hP hS hac51 ⊢
          have hae51 := hac51
          try unfold y_ac at hae51
          try dsimp only at hae51
          obtain ⟨hmi, e5, e2, e3, hO51, fr51, p51, t51, G51, J51, C51, Gs51, S51, rfl, hzp51, hdx, hfx51, hcx51, ⟨hg1, hg2, hg3, hg4, hg5, hg6⟩, hfp51, hpr51⟩ := hw
          cases e5
          rw [e2, e3] at hP hD
          have hP : va_P (dC, dI) y_cl (y_W ad ar I51 T A O51 pl51) H := hP
          have hD : va_D Bq (y_W ad ar I51 T A O51 pl51) := hD
          rw [e3] at hmi
          have hmi : y_RD I51 A (ln, cl, lm, aa) := hmi
          have hfp51 : y_L pl51 p51 = some (.inr (7, [.ref (z (3 + j44)), .ref P, .null, .null, .null, .ref t51, .null, .ref (z 21), .int (-1), .int (-1)])) := hfp51
          have hfp0 := hfp51
          refine W.eq (g2 := F0 m 63 ls [.ref p51]) rfl ?_
          refine lv_astore (lv' := [(6, .ref p51), (5, .int 1), (4, .ref (z (3 + j44))), (3, .int (y_lk A lm aa)), (0, .ref (ad 1)), (1, .ref P), (2, .int (Int32.ofNat dp))]) hx hb d_Reader_begin_63 hl (by decide) rfl (fun ls hl => ?_)
          refine lv_aload hx hb d_Reader_begin_65 (lv_at hl 0 rfl) ?_
          refine lv_iload_n hx hb d_Reader_begin_67 rfl (lv_at hl 3 rfl) ?_
          have hFc := y_free hD hS hA
          refine va_calli (va_runS (As := [.int (y_lk A lm aa)]) (rest := [.ref p51]) ⟨hx, hb, hml, hown, hts⟩ (c_Rd_channelOf l dC dI ar N0 z ad I51 T A O51 pl51 ((y_lk A lm aa)) H.size (y_hs H) ) (cwS 1 hts (x_goodS k_374 k_375 k_2 k_376) rfl rfl rfl (by decide +kernel) ⟨Nat.le_of_ble_eq_true rfl, Nat.le_of_ble_eq_true rfl⟩) ⟨y_blind, fun U9 hU9 hW9 => y_pre hU9 hW9 hP hD hU hZ hS hAN hN0⟩ rfl rfl hl.1 rfl (lv_room (Nat.le_of_ble_eq_true rfl)) d_Reader_begin_68 ⟨(by show 0 + (2) + (0) ≤ 2; omega), (by show 0 + (17) + (0) ≤ 17; omega)⟩) hS (fun q _ h => hFc q h) hFc (fun r_52 u t H1 locs ht hvm hw hB hz1 hk1 hS => ?_)
          obtain ⟨I53, T53, A53, O53, pl53, q53, s53, cq53, cs53⟩ := u
          dsimp only at hw hB
          rw [ht] at hB
          obtain ⟨hP, hD1, hac53⟩ := hB
          have hD : va_D Bq (y_W ad ar I53 T53 A53 O53 pl53) := hD1.weaken (fun _ q _ h => hFc q.1 h)
          generalize H1 = H at hP hS hac53 ⊢
          have hae53 := hac53
          try unfold y_ac at hae53
          try dsimp only at hae53
          refine W.widen (k := 0 + (2)) (n := 0 + (17)) (by omega) (by omega) ?_
          obtain ⟨h9, hw⟩ := hw
          cases h9
          obtain rfl := hw
          refine d_pN (C := "ChannelMachine$Process") (F := F_Process) (N := 10) hx hb hts i_Process hown t_Process t_Process_ok n_Process hK hP hD hS hfp51 8 rfl (by decide) (hU.1.2.1 _ kn_418) (fun _ h9 => h9) rfl (ty := .int) (v := .int (x_ch ((y_lk A lm aa)))) (by decide +kernel) rfl rfl (Nat.le_of_ble_eq_true rfl) d_Reader_begin_71 (fun pl54 H locs hL hP hD hS => ?_)
          have hfp51 : y_L pl54 p51 = some (.inr (7, [.ref (z (3 + j44)), .ref P, .null, .null, .null, .ref t51, .null, .ref (z 21), .int (x_ch ((y_lk A lm aa))), .int (-1)])) := by rw [hL]; exact y_Lu_s
          have hoth : ∀ b, b ≠ p51 → y_L pl54 b = y_L pl51 b := fun b n0 => by rw [hL, y_Lu_n n0]
          clear hL
          refine lv_aload hx hb d_Reader_begin_74 (lv_at hl 2 rfl) ?_
          refine va_gets hx hb ((hZ.2.1.1 0 (by decide)).1.narrow hAN) hS hown (hts _ k_372) (fun _ h9 => h9) d_Reader_begin_76 ?_
          refine lv_acmp_ne (rx := (some ((z (3 + j44))))) (ry := (some ((z (3 + 0))))) (tgt := 91) hx hb d_Reader_begin_79 (by decide) (fun h_55 => ?_) (fun h_55 => ?_)
          · have hlt : aa < lm := y_lk_lt hzj44
            refine lv_aload_n hx hb d_Reader_begin_91 rfl (lv_at hl 4 rfl) ?_
            refine lv_dup hx hb d_Reader_begin_92 rfl ?_
            refine k_g (C := "ChannelMachine$Reader") (F := F_Reader) (N := 9) hx hb hts i_Reader hown hK hP 1 5 (by decide) (by decide) rfl (by decide) (d := (1, 4)) rfl (hts _ k_49) (fun _ h9 => h9) (v := .int (Int32.ofNat aa)) (congrArg Value.int hmi.1.2.2.2) d_Reader_begin_93 ?_
            refine lv_iconst (v := 1) hx hb d_Reader_begin_96 (by decide) ?_
            refine lv_iadd hx hb d_Reader_begin_97 ?_
            refine W.eq (g2 := F0 m 98 ls [.int (Int32.ofNat (aa + 1)), .ref (ad 1)]) (by rw [← x_addN (a := aa) (b := 1)] <;> rfl) ?_
            refine k_pi (C := "ChannelMachine$Reader") (F := F_Reader) (N := 9) hx hb hts i_Reader hown t_Reader t_Reader_ok n_Reader hK hP hD hS 1 5 (by decide) (by decide) rfl (by decide) (j := 4) (x := (Int32.ofNat (aa + 1))) rfl (hts _ k_49) (fun _ h9 => h9) rfl (by decide +kernel) d_Reader_begin_98 (fun H locs hP hD hS => ?_)
            have hmi : y_RD (upd I51 4 (Int32.ofNat (aa + 1))) A (ln, cl, lm, (aa + 1)) := hmi.at4 (by omega)
            have hbn := hmi.2.1
            dsimp only at hbn
            refine lv_aload hx hb d_Reader_begin_101 (lv_at hl 0 rfl) ?_
            have hpf : y_L pl51 p51 = some (.inr (7, y_Pf z C51 Gs51 p51 (J51 p51) (some P) none (some t51) (z 21) (-1) (-1))) := by rw [hfp0]; unfold y_Pf; rw [hg2, hg3, hg4]; rfl
            have hd9 := hdx.put (s' := 1) (co' := z 21) (ch' := (x_ch ((y_lk A lm aa)))) (va' := (-1)) hg1 hpf (fun h9 => absurd rfl h9) (fun h9 => by omega)
            have hx9 := y_FX.put (s' := 1) (e := .inr (7, y_Pf z C51 Gs51 p51 (J51 p51) (some P) none (some t51) (z 21) ((x_ch ((y_lk A lm aa)))) ((-1)))) hfx51 hzp51
            have hL9 : y_L pl54 = y_Lu (y_L pl51) p51 (.inr (7, y_Pf z C51 Gs51 p51 (J51 p51) (some P) none (some t51) (z 21) ((x_ch ((y_lk A lm aa)))) ((-1)))) := y_Lu_eq (by rw [hfp51]; unfold y_Pf; rw [hg2, hg3, hg4]; rfl) (fun b hb => hoth b hb)
            rw [← hL9] at hd9 hx9
            refine y_know (fun hy91 hy92 hy93 hy94 => ?_)
            have hac9 : H.size ≤ s.heap.size + 2 ∧ y_hs H ≤ y_hs s.heap + 17 := ⟨by omega, by omega⟩
            refine W.widen (k := 2) (n := 17) (by omega) (by omega) ?_
            exact W.aret (v := .ref p51) hx hb hr (Or.inl ⟨_, rfl⟩) (Or.inr ⟨_, rfl⟩) (fun t ht hW => ⟨⟨(some p51), ((upd I51 4 (Int32.ofNat (aa + 1))), T, A, O51, pl54, (ln, cl, lm, (aa + 1))), rfl, ⟨hmi, rfl, rfl, rfl, fun k hk => hO51 k hk, ((m_fr.rf.tr fr51 (by decide)).up (by decide) _), Or.inr ⟨rfl, p51, t51, j44, (x_ch ((y_lk A lm aa))), (-1), G51, J51, C51, Gs51, y_un S51 p51 1, rfl, hzp51, hd9, hx9, hcx51, ⟨hg1, hg2, hg3, hg4, y_un_s, hg6⟩, hfp51, hpr51, hjj44, fun h9 => ((y_ch_ok _).resolve_left (hcj44 h9)).2⟩⟩, (by dsimp only; rw [ht]; exact ⟨hP, hD, hac9⟩)⟩, hS.F ht⟩) hS.2.2 d_Reader_begin_103
          · refine lv_aload hx hb d_Reader_begin_82 (lv_at hl 0 rfl) ?_
            refine lv_iload_n hx hb d_Reader_begin_84 rfl (lv_at hl 3 rfl) ?_
            refine lv_bipush (v := 97) hx hb d_Reader_begin_85 (by decide) ?_
            refine lv_isub hx hb d_Reader_begin_87 ?_
            refine d_pN (C := "ChannelMachine$Process") (F := F_Process) (N := 10) hx hb hts i_Process hown t_Process t_Process_ok n_Process hK hP hD hS hfp51 9 rfl (by decide) (hU.1.2.1 _ kn_421) (fun _ h9 => h9) rfl (ty := .int) (v := .int ((y_lk A lm aa) - 97)) (by decide +kernel) rfl rfl (Nat.le_of_ble_eq_true rfl) d_Reader_begin_88 (fun pl56 H locs hL hP hD hS => ?_)
            have hfp51 : y_L pl56 p51 = some (.inr (7, [.ref (z (3 + j44)), .ref P, .null, .null, .null, .ref t51, .null, .ref (z 21), .int (x_ch ((y_lk A lm aa))), .int ((y_lk A lm aa) - 97)])) := by rw [hL]; exact y_Lu_s
            have hoth : ∀ b, b ≠ p51 → y_L pl56 b = y_L pl51 b := fun b n0 => by rw [hL, y_Lu_n n0]; exact hoth b n0
            clear hL
            have hlt : aa < lm := y_lk_lt hzj44
            refine lv_aload_n hx hb d_Reader_begin_91 rfl (lv_at hl 4 rfl) ?_
            refine lv_dup hx hb d_Reader_begin_92 rfl ?_
            refine k_g (C := "ChannelMachine$Reader") (F := F_Reader) (N := 9) hx hb hts i_Reader hown hK hP 1 5 (by decide) (by decide) rfl (by decide) (d := (1, 4)) rfl (hts _ k_49) (fun _ h9 => h9) (v := .int (Int32.ofNat aa)) (congrArg Value.int hmi.1.2.2.2) d_Reader_begin_93 ?_
            refine lv_iconst (v := 1) hx hb d_Reader_begin_96 (by decide) ?_
            refine lv_iadd hx hb d_Reader_begin_97 ?_
            refine W.eq (g2 := F0 m 98 ls [.int (Int32.ofNat (aa + 1)), .ref (ad 1)]) (by rw [← x_addN (a := aa) (b := 1)] <;> rfl) ?_
            refine k_pi (C := "ChannelMachine$Reader") (F := F_Reader) (N := 9) hx hb hts i_Reader hown t_Reader t_Reader_ok n_Reader hK hP hD hS 1 5 (by decide) (by decide) rfl (by decide) (j := 4) (x := (Int32.ofNat (aa + 1))) rfl (hts _ k_49) (fun _ h9 => h9) rfl (by decide +kernel) d_Reader_begin_98 (fun H locs hP hD hS => ?_)
            have hmi : y_RD (upd I51 4 (Int32.ofNat (aa + 1))) A (ln, cl, lm, (aa + 1)) := hmi.at4 (by omega)
            have hbn := hmi.2.1
            dsimp only at hbn
            refine lv_aload hx hb d_Reader_begin_101 (lv_at hl 0 rfl) ?_
            have hpf : y_L pl51 p51 = some (.inr (7, y_Pf z C51 Gs51 p51 (J51 p51) (some P) none (some t51) (z 21) (-1) (-1))) := by rw [hfp0]; unfold y_Pf; rw [hg2, hg3, hg4]; rfl
            have hd9 := hdx.put (s' := 1) (co' := z 21) (ch' := (x_ch ((y_lk A lm aa)))) (va' := ((y_lk A lm aa) - 97)) hg1 hpf (fun h9 => absurd rfl h9) (fun h9 => by omega)
            have hx9 := y_FX.put (s' := 1) (e := .inr (7, y_Pf z C51 Gs51 p51 (J51 p51) (some P) none (some t51) (z 21) ((x_ch ((y_lk A lm aa)))) (((y_lk A lm aa) - 97)))) hfx51 hzp51
            have hL9 : y_L pl56 = y_Lu (y_L pl51) p51 (.inr (7, y_Pf z C51 Gs51 p51 (J51 p51) (some P) none (some t51) (z 21) ((x_ch ((y_lk A lm aa)))) (((y_lk A lm aa) - 97)))) := y_Lu_eq (by rw [hfp51]; unfold y_Pf; rw [hg2, hg3, hg4]; rfl) (fun b hb => hoth b hb)
            rw [← hL9] at hd9 hx9
            refine y_know (fun hy91 hy92 hy93 hy94 => ?_)
            have hac9 : H.size ≤ s.heap.size + 2 ∧ y_hs H ≤ y_hs s.heap + 17 := ⟨by omega, by omega⟩
            refine W.widen (k := 2) (n := 17) (by omega) (by omega) ?_
            exact W.aret (v := .ref p51) hx hb hr (Or.inl ⟨_, rfl⟩) (Or.inr ⟨_, rfl⟩) (fun t ht hW => ⟨⟨(some p51), ((upd I51 4 (Int32.ofNat (aa + 1))), T, A, O51, pl56, (ln, cl, lm, (aa + 1))), rfl, ⟨hmi, rfl, rfl, rfl, fun k hk => hO51 k hk, ((m_fr.rf.tr fr51 (by decide)).up (by decide) _), Or.inr ⟨rfl, p51, t51, j44, (x_ch ((y_lk A lm aa))), ((y_lk A lm aa) - 97), G51, J51, C51, Gs51, y_un S51 p51 1, rfl, hzp51, hd9, hx9, hcx51, ⟨hg1, hg2, hg3, hg4, y_un_s, hg6⟩, hfp51, hpr51, hjj44, fun h9 => ((y_ch_ok _).resolve_left (hcj44 h9)).2⟩⟩, (by dsimp only; rw [ht]; exact ⟨hP, hD, hac9⟩)⟩, hS.F ht⟩) hS.2.2 d_Reader_begin_103
        · have c_49 : dp = 7 := (x_eqN (a := dp) (b := 7) (by omega) (by omega)).mp c_49
          refine lv_null hx hb d_Reader_begin_54 ?_
          refine y_know (fun hy91 hy92 hy93 hy94 => ?_)
          have hac9 : H.size ≤ s.heap.size + 2 ∧ y_hs H ≤ y_hs s.heap + 17 := ⟨by omega, by omega⟩
          refine W.widen (k := 2) (n := 17) (by omega) (by omega) ?_
          exact W.aret (v := .null) hx hb hr (Or.inl ⟨_, rfl⟩) (Or.inl rfl) (fun t ht hW => ⟨⟨none, (I, T, A, O, pl, (ln, cl, lm, aa)), rfl, ⟨hmi, rfl, rfl, rfl, fun k hk => rfl, m_fr.rf, Or.inl ⟨rfl, rfl, rfl⟩⟩, (by dsimp only; rw [ht]; exact ⟨hP, hD, hac9⟩)⟩, hS.F ht⟩) hS.2.2 d_Reader_begin_55
      · refine lv_aload hx hb d_Reader_begin_23 (lv_at hl 0 rfl) ?_
        refine va_gets hx hb ((hZ.2.1.1 8 (by decide)).1.narrow hAN) hS hown (hts _ k_361) (fun _ h9 => h9) d_Reader_begin_25 ?_
        refine lv_acmp_ne (rx := (some ((z (3 + j44))))) (ry := (some ((z (3 + 8))))) (tgt := 35) hx hb d_Reader_begin_28 (by decide) (fun h_57 => ?_) (fun h_57 => ?_)
        · refine lv_iconst (v := 0) hx hb d_Reader_begin_35 (by decide) ?_
          refine lv_istore (lv' := [(5, .int 0), (4, .ref (z (3 + j44))), (3, .int (y_lk A lm aa)), (0, .ref (ad 1)), (1, .ref P), (2, .int (Int32.ofNat dp))]) hx hb d_Reader_begin_36 hl (by decide) rfl (fun ls hl => ?_)
          refine lv_aload hx hb d_Reader_begin_38 (lv_at hl 1 rfl) ?_
          refine lv_ifnull hx hb d_Reader_begin_40 ?_
          refine lv_iload hx hb d_Reader_begin_43 (lv_at hl 0 rfl) ?_
          refine lv_if_eq (tgt := 56) hx hb d_Reader_begin_45 (by decide) (fun _ => ?_) (fun c58 => absurd (by decide) c58)
          refine lv_aload_n hx hb d_Reader_begin_56 rfl (lv_at hl 3 rfl) ?_
          refine lv_aload hx hb d_Reader_begin_57 (lv_at hl 1 rfl) ?_
          refine lv_aload_n hx hb d_Reader_begin_59 rfl (lv_at hl 4 rfl) ?_
          refine y_know (fun hya1 hya2 hya3 hya4 => ?_)
          have hFc := y_free hD hS hA
          refine va_callq (va_runV (As := [.ref (z (3 + j44)), .ref P]) (rest := []) ⟨hx, hb, hml, hown, hts⟩ (c_Rd_added l dC dI ar N0 z ad I T A O pl ln cl lm aa f0 G J C Gs S j44 (some P) H.size (y_hs H) hmi hdx hjj44 hpar) (cwV 2 hts (x_goodV k_377 k_379 kp_5 k_2 k_380) rfl rfl rfl (by decide +kernel) ⟨Nat.le_of_ble_eq_true rfl, Nat.le_of_ble_eq_true rfl⟩) ⟨y_blind, va_recv hK hP (ci := 3) (q0 := 1) rfl (y_W_ob (by decide) (by decide)), fun U9 hU9 hW9 => y_pre hU9 hW9 hP hD hU hZ hS hAN hN0⟩ rfl rfl hl.1 rfl (lv_room (Nat.le_of_ble_eq_true rfl)) d_Reader_begin_60 ⟨(by show 0 + (2) ≤ 2; omega), (by show 0 + (17) ≤ 17; omega)⟩) hS (fun q _ h => hFc q h) hFc (fun r_59 u t H1 locs ht hvm hw hB hz1 hk1 hS => ?_)
          obtain ⟨I60, T60, A60, O60, pl60, q60, s60, cq60, cs60⟩ := u
          dsimp only at hw hB
          rw [ht] at hB
          obtain ⟨hP, hD1, hac60⟩ := hB
          have hD : va_D Bq (y_W ad ar I60 T60 A60 O60 pl60) := hD1.weaken (fun _ q _ h => hFc q.1 h)
          generalize H1 = H at hP hS hac60 ⊢
          have hae60 := hac60
          try unfold y_ac at hae60
          try dsimp only at hae60
          obtain ⟨hmi, e5, e2, e3, hO60, fr60, p60, t60, G60, J60, C60, Gs60, S60, rfl, hzp60, hdx, hfx60, hcx60, ⟨hg1, hg2, hg3, hg4, hg5, hg6⟩, hfp60, hpr60⟩ := hw
          cases e5
          rw [e2, e3] at hP hD
          have hP : va_P (dC, dI) y_cl (y_W ad ar I60 T A O60 pl60) H := hP
          have hD : va_D Bq (y_W ad ar I60 T A O60 pl60) := hD
          rw [e3] at hmi
          have hmi : y_RD I60 A (ln, cl, lm, aa) := hmi
          have hfp60 : y_L pl60 p60 = some (.inr (7, [.ref (z (3 + j44)), .ref P, .null, .null, .null, .ref t60, .null, .ref (z 21), .int (-1), .int (-1)])) := hfp60
          have hfp0 := hfp60
          refine W.eq (g2 := F0 m 63 ls [.ref p60]) rfl ?_
          refine lv_astore (lv' := [(6, .ref p60), (5, .int 0), (4, .ref (z (3 + j44))), (3, .int (y_lk A lm aa)), (0, .ref (ad 1)), (1, .ref P), (2, .int (Int32.ofNat dp))]) hx hb d_Reader_begin_63 hl (by decide) rfl (fun ls hl => ?_)
          refine lv_aload hx hb d_Reader_begin_65 (lv_at hl 0 rfl) ?_
          refine lv_iload_n hx hb d_Reader_begin_67 rfl (lv_at hl 3 rfl) ?_
          have hFc := y_free hD hS hA
          refine va_calli (va_runS (As := [.int (y_lk A lm aa)]) (rest := [.ref p60]) ⟨hx, hb, hml, hown, hts⟩ (c_Rd_channelOf l dC dI ar N0 z ad I60 T A O60 pl60 ((y_lk A lm aa)) H.size (y_hs H) ) (cwS 1 hts (x_goodS k_374 k_375 k_2 k_376) rfl rfl rfl (by decide +kernel) ⟨Nat.le_of_ble_eq_true rfl, Nat.le_of_ble_eq_true rfl⟩) ⟨y_blind, fun U9 hU9 hW9 => y_pre hU9 hW9 hP hD hU hZ hS hAN hN0⟩ rfl rfl hl.1 rfl (lv_room (Nat.le_of_ble_eq_true rfl)) d_Reader_begin_68 ⟨(by show 0 + (2) + (0) ≤ 2; omega), (by show 0 + (17) + (0) ≤ 17; omega)⟩) hS (fun q _ h => hFc q h) hFc (fun r_61 u t H1 locs ht hvm hw hB hz1 hk1 hS => ?_)
          obtain ⟨I62, T62, A62, O62, pl62, q62, s62, cq62, cs62⟩ := u
          dsimp only at hw hB
          rw [ht] at hB
          obtain ⟨hP, hD1, hac62⟩ := hB
          have hD : va_D Bq (y_W ad ar I62 T62 A62 O62 pl62) := hD1.weaken (fun _ q _ h => hFc q.1 h)
          generalize H1 = H at hP hS hac62 ⊢
          have hae62 := hac62
          try unfold y_ac at hae62
          try dsimp only at hae62
          refine W.widen (k := 0 + (2)) (n := 0 + (17)) (by omega) (by omega) ?_
          obtain ⟨h9, hw⟩ := hw
          cases h9
          obtain rfl := hw
          refine d_pN (C := "ChannelMachine$Process") (F := F_Process) (N := 10) hx hb hts i_Process hown t_Process t_Process_ok n_Process hK hP hD hS hfp60 8 rfl (by decide) (hU.1.2.1 _ kn_418) (fun _ h9 => h9) rfl (ty := .int) (v := .int (x_ch ((y_lk A lm aa)))) (by decide +kernel) rfl rfl (Nat.le_of_ble_eq_true rfl) d_Reader_begin_71 (fun pl63 H locs hL hP hD hS => ?_)
          have hfp60 : y_L pl63 p60 = some (.inr (7, [.ref (z (3 + j44)), .ref P, .null, .null, .null, .ref t60, .null, .ref (z 21), .int (x_ch ((y_lk A lm aa))), .int (-1)])) := by rw [hL]; exact y_Lu_s
          have hoth : ∀ b, b ≠ p60 → y_L pl63 b = y_L pl60 b := fun b n0 => by rw [hL, y_Lu_n n0]
          clear hL
          refine lv_aload hx hb d_Reader_begin_74 (lv_at hl 2 rfl) ?_
          refine va_gets hx hb ((hZ.2.1.1 0 (by decide)).1.narrow hAN) hS hown (hts _ k_372) (fun _ h9 => h9) d_Reader_begin_76 ?_
          refine lv_acmp_ne (rx := (some ((z (3 + j44))))) (ry := (some ((z (3 + 0))))) (tgt := 91) hx hb d_Reader_begin_79 (by decide) (fun h_64 => ?_) (fun h_64 => ?_)
          · have hlt : aa < lm := y_lk_lt hzj44
            refine lv_aload_n hx hb d_Reader_begin_91 rfl (lv_at hl 4 rfl) ?_
            refine lv_dup hx hb d_Reader_begin_92 rfl ?_
            refine k_g (C := "ChannelMachine$Reader") (F := F_Reader) (N := 9) hx hb hts i_Reader hown hK hP 1 5 (by decide) (by decide) rfl (by decide) (d := (1, 4)) rfl (hts _ k_49) (fun _ h9 => h9) (v := .int (Int32.ofNat aa)) (congrArg Value.int hmi.1.2.2.2) d_Reader_begin_93 ?_
            refine lv_iconst (v := 1) hx hb d_Reader_begin_96 (by decide) ?_
            refine lv_iadd hx hb d_Reader_begin_97 ?_
            refine W.eq (g2 := F0 m 98 ls [.int (Int32.ofNat (aa + 1)), .ref (ad 1)]) (by rw [← x_addN (a := aa) (b := 1)] <;> rfl) ?_
            refine k_pi (C := "ChannelMachine$Reader") (F := F_Reader) (N := 9) hx hb hts i_Reader hown t_Reader t_Reader_ok n_Reader hK hP hD hS 1 5 (by decide) (by decide) rfl (by decide) (j := 4) (x := (Int32.ofNat (aa + 1))) rfl (hts _ k_49) (fun _ h9 => h9) rfl (by decide +kernel) d_Reader_begin_98 (fun H locs hP hD hS => ?_)
            have hmi : y_RD (upd I60 4 (Int32.ofNat (aa + 1))) A (ln, cl, lm, (aa + 1)) := hmi.at4 (by omega)
            have hbn := hmi.2.1
            dsimp only at hbn
            refine lv_aload hx hb d_Reader_begin_101 (lv_at hl 0 rfl) ?_
            have hpf : y_L pl60 p60 = some (.inr (7, y_Pf z C60 Gs60 p60 (J60 p60) (some P) none (some t60) (z 21) (-1) (-1))) := by rw [hfp0]; unfold y_Pf; rw [hg2, hg3, hg4]; rfl
            have hd9 := hdx.put (s' := 1) (co' := z 21) (ch' := (x_ch ((y_lk A lm aa)))) (va' := (-1)) hg1 hpf (fun h9 => absurd rfl h9) (fun h9 => by omega)
            have hx9 := y_FX.put (s' := 1) (e := .inr (7, y_Pf z C60 Gs60 p60 (J60 p60) (some P) none (some t60) (z 21) ((x_ch ((y_lk A lm aa)))) ((-1)))) hfx60 hzp60
            have hL9 : y_L pl63 = y_Lu (y_L pl60) p60 (.inr (7, y_Pf z C60 Gs60 p60 (J60 p60) (some P) none (some t60) (z 21) ((x_ch ((y_lk A lm aa)))) ((-1)))) := y_Lu_eq (by rw [hfp60]; unfold y_Pf; rw [hg2, hg3, hg4]; rfl) (fun b hb => hoth b hb)
            rw [← hL9] at hd9 hx9
            refine y_know (fun hy91 hy92 hy93 hy94 => ?_)
            have hac9 : H.size ≤ s.heap.size + 2 ∧ y_hs H ≤ y_hs s.heap + 17 := ⟨by omega, by omega⟩
            refine W.widen (k := 2) (n := 17) (by omega) (by omega) ?_
            exact W.aret (v := .ref p60) hx hb hr (Or.inl ⟨_, rfl⟩) (Or.inr ⟨_, rfl⟩) (fun t ht hW => ⟨⟨(some p60), ((upd I60 4 (Int32.ofNat (aa + 1))), T, A, O60, pl63, (ln, cl, lm, (aa + 1))), rfl, ⟨hmi, rfl, rfl, rfl, fun k hk => hO60 k hk, ((m_fr.rf.tr fr60 (by decide)).up (by decide) _), Or.inr ⟨rfl, p60, t60, j44, (x_ch ((y_lk A lm aa))), (-1), G60, J60, C60, Gs60, y_un S60 p60 1, rfl, hzp60, hd9, hx9, hcx60, ⟨hg1, hg2, hg3, hg4, y_un_s, hg6⟩, hfp60, hpr60, hjj44, fun h9 => ((y_ch_ok _).resolve_left (hcj44 h9)).2⟩⟩, (by dsimp only; rw [ht]; exact ⟨hP, hD, hac9⟩)⟩, hS.F ht⟩) hS.2.2 d_Reader_begin_103
          · refine lv_aload hx hb d_Reader_begin_82 (lv_at hl 0 rfl) ?_
            refine lv_iload_n hx hb d_Reader_begin_84 rfl (lv_at hl 3 rfl) ?_
            refine lv_bipush (v := 97) hx hb d_Reader_begin_85 (by decide) ?_
            refine lv_isub hx hb d_Reader_begin_87 ?_
            refine d_pN (C := "ChannelMachine$Process") (F := F_Process) (N := 10) hx hb hts i_Process hown t_Process t_Process_ok n_Process hK hP hD hS hfp60 9 rfl (by decide) (hU.1.2.1 _ kn_421) (fun _ h9 => h9) rfl (ty := .int) (v := .int ((y_lk A lm aa) - 97)) (by decide +kernel) rfl rfl (Nat.le_of_ble_eq_true rfl) d_Reader_begin_88 (fun pl65 H locs hL hP hD hS => ?_)
            have hfp60 : y_L pl65 p60 = some (.inr (7, [.ref (z (3 + j44)), .ref P, .null, .null, .null, .ref t60, .null, .ref (z 21), .int (x_ch ((y_lk A lm aa))), .int ((y_lk A lm aa) - 97)])) := by rw [hL]; exact y_Lu_s
            have hoth : ∀ b, b ≠ p60 → y_L pl65 b = y_L pl60 b := fun b n0 => by rw [hL, y_Lu_n n0]; exact hoth b n0
            clear hL
            have hlt : aa < lm := y_lk_lt hzj44
            refine lv_aload_n hx hb d_Reader_begin_91 rfl (lv_at hl 4 rfl) ?_
            refine lv_dup hx hb d_Reader_begin_92 rfl ?_
            refine k_g (C := "ChannelMachine$Reader") (F := F_Reader) (N := 9) hx hb hts i_Reader hown hK hP 1 5 (by decide) (by decide) rfl (by decide) (d := (1, 4)) rfl (hts _ k_49) (fun _ h9 => h9) (v := .int (Int32.ofNat aa)) (congrArg Value.int hmi.1.2.2.2) d_Reader_begin_93 ?_
            refine lv_iconst (v := 1) hx hb d_Reader_begin_96 (by decide) ?_
            refine lv_iadd hx hb d_Reader_begin_97 ?_
            refine W.eq (g2 := F0 m 98 ls [.int (Int32.ofNat (aa + 1)), .ref (ad 1)]) (by rw [← x_addN (a := aa) (b := 1)] <;> rfl) ?_
            refine k_pi (C := "ChannelMachine$Reader") (F := F_Reader) (N := 9) hx hb hts i_Reader hown t_Reader t_Reader_ok n_Reader hK hP hD hS 1 5 (by decide) (by decide) rfl (by decide) (j := 4) (x := (Int32.ofNat (aa + 1))) rfl (hts _ k_49) (fun _ h9 => h9) rfl (by decide +kernel) d_Reader_begin_98 (fun H locs hP hD hS => ?_)
            have hmi : y_RD (upd I60 4 (Int32.ofNat (aa + 1))) A (ln, cl, lm, (aa + 1)) := hmi.at4 (by omega)
            have hbn := hmi.2.1
            dsimp only at hbn
            refine lv_aload hx hb d_Reader_begin_101 (lv_at hl 0 rfl) ?_
            have hpf : y_L pl60 p60 = some (.inr (7, y_Pf z C60 Gs60 p60 (J60 p60) (some P) none (some t60) (z 21) (-1) (-1))) := by rw [hfp0]; unfold y_Pf; rw [hg2, hg3, hg4]; rfl
            have hd9 := hdx.put (s' := 1) (co' := z 21) (ch' := (x_ch ((y_lk A lm aa)))) (va' := ((y_lk A lm aa) - 97)) hg1 hpf (fun h9 => absurd rfl h9) (fun h9 => by omega)
            have hx9 := y_FX.put (s' := 1) (e := .inr (7, y_Pf z C60 Gs60 p60 (J60 p60) (some P) none (some t60) (z 21) ((x_ch ((y_lk A lm aa)))) (((y_lk A lm aa) - 97)))) hfx60 hzp60
            have hL9 : y_L pl65 = y_Lu (y_L pl60) p60 (.inr (7, y_Pf z C60 Gs60 p60 (J60 p60) (some P) none (some t60) (z 21) ((x_ch ((y_lk A lm aa)))) (((y_lk A lm aa) - 97)))) := y_Lu_eq (by rw [hfp60]; unfold y_Pf; rw [hg2, hg3, hg4]; rfl) (fun b hb => hoth b hb)
            rw [← hL9] at hd9 hx9
            refine y_know (fun hy91 hy92 hy93 hy94 => ?_)
            have hac9 : H.size ≤ s.heap.size + 2 ∧ y_hs H ≤ y_hs s.heap + 17 := ⟨by omega, by omega⟩
            refine W.widen (k := 2) (n := 17) (by omega) (by omega) ?_
            exact W.aret (v := .ref p60) hx hb hr (Or.inl ⟨_, rfl⟩) (Or.inr ⟨_, rfl⟩) (fun t ht hW => ⟨⟨(some p60), ((upd I60 4 (Int32.ofNat (aa + 1))), T, A, O60, pl65, (ln, cl, lm, (aa + 1))), rfl, ⟨hmi, rfl, rfl, rfl, fun k hk => hO60 k hk, ((m_fr.rf.tr fr60 (by decide)).up (by decide) _), Or.inr ⟨rfl, p60, t60, j44, (x_ch ((y_lk A lm aa))), ((y_lk A lm aa) - 97), G60, J60, C60, Gs60, y_un S60 p60 1, rfl, hzp60, hd9, hx9, hcx60, ⟨hg1, hg2, hg3, hg4, y_un_s, hg6⟩, hfp60, hpr60, hjj44, fun h9 => ((y_ch_ok _).resolve_left (hcj44 h9)).2⟩⟩, (by dsimp only; rw [ht]; exact ⟨hP, hD, hac9⟩)⟩, hS.F ht⟩) hS.2.2 d_Reader_begin_103
        · refine lv_iconst (v := 1) hx hb d_Reader_begin_31 (by decide) ?_
          refine lv_goto (tgt := 36) hx hb d_Reader_begin_32 (by decide) ?_
          refine lv_istore (lv' := [(5, .int 1), (4, .ref (z (3 + j44))), (3, .int (y_lk A lm aa)), (0, .ref (ad 1)), (1, .ref P), (2, .int (Int32.ofNat dp))]) hx hb d_Reader_begin_36 hl (by decide) rfl (fun ls hl => ?_)
          refine lv_aload hx hb d_Reader_begin_38 (lv_at hl 1 rfl) ?_
          refine lv_ifnull hx hb d_Reader_begin_40 ?_
          refine lv_iload hx hb d_Reader_begin_43 (lv_at hl 0 rfl) ?_
          refine lv_if_eq (tgt := 56) hx hb d_Reader_begin_45 (by decide) (fun c66 => absurd c66 (by decide)) (fun _ => ?_)
          refine lv_iload_n hx hb d_Reader_begin_48 rfl (lv_at hl 5 rfl) ?_
          refine lv_bipush (v := 7) hx hb d_Reader_begin_49 (by decide) ?_
          refine lv_icmp_ne (tgt := 56) hx hb d_Reader_begin_51 (by decide) (fun c_67 => ?_) (fun c_67 => ?_)
          · have c_67 : ¬ dp = 7 := fun h9 => c_67 ((x_eqN (a := dp) (b := 7) (by omega) (by omega)).mpr h9)
            refine lv_aload_n hx hb d_Reader_begin_56 rfl (lv_at hl 3 rfl) ?_
            refine lv_aload hx hb d_Reader_begin_57 (lv_at hl 1 rfl) ?_
            refine lv_aload_n hx hb d_Reader_begin_59 rfl (lv_at hl 4 rfl) ?_
            refine y_know (fun hya1 hya2 hya3 hya4 => ?_)
            have hFc := y_free hD hS hA
            refine va_callq (va_runV (As := [.ref (z (3 + j44)), .ref P]) (rest := []) ⟨hx, hb, hml, hown, hts⟩ (c_Rd_added l dC dI ar N0 z ad I T A O pl ln cl lm aa f0 G J C Gs S j44 (some P) H.size (y_hs H) hmi hdx hjj44 hpar) (cwV 2 hts (x_goodV k_377 k_379 kp_5 k_2 k_380) rfl rfl rfl (by decide +kernel) ⟨Nat.le_of_ble_eq_true rfl, Nat.le_of_ble_eq_true rfl⟩) ⟨y_blind, va_recv hK hP (ci := 3) (q0 := 1) rfl (y_W_ob (by decide) (by decide)), fun U9 hU9 hW9 => y_pre hU9 hW9 hP hD hU hZ hS hAN hN0⟩ rfl rfl hl.1 rfl (lv_room (Nat.le_of_ble_eq_true rfl)) d_Reader_begin_60 ⟨(by show 0 + (2) ≤ 2; omega), (by show 0 + (17) ≤ 17; omega)⟩) hS (fun q _ h => hFc q h) hFc (fun r_68 u t H1 locs ht hvm hw hB hz1 hk1 hS => ?_)
            obtain ⟨I69, T69, A69, O69, pl69, q69, s69, cq69, cs69⟩ := u
            dsimp only at hw hB
            rw [ht] at hB
            obtain ⟨hP, hD1, hac69⟩ := hB
            have hD : va_D Bq (y_W ad ar I69 T69 A69 O69 pl69) := hD1.weaken (fun _ q _ h => hFc q.1 h)
            generalize H1 = H at hP hS hac69 ⊢
            have hae69 := hac69
            try unfold y_ac at hae69
            try dsimp only at hae69
            obtain ⟨hmi, e5, e2, e3, hO69, fr69, p69, t69, G69, J69, C69, Gs69, S69, rfl, hzp69, hdx, hfx69, hcx69, ⟨hg1, hg2, hg3, hg4, hg5, hg6⟩, hfp69, hpr69⟩ := hw
            cases e5
            rw [e2, e3] at hP hD
            have hP : va_P (dC, dI) y_cl (y_W ad ar I69 T A O69 pl69) H := hP
            have hD : va_D Bq (y_W ad ar I69 T A O69 pl69) := hD
            rw [e3] at hmi
            have hmi : y_RD I69 A (ln, cl, lm, aa) := hmi
            have hfp69 : y_L pl69 p69 = some (.inr (7, [.ref (z (3 + j44)), .ref P, .null, .null, .null, .ref t69, .null, .ref (z 21), .int (-1), .int (-1)])) := hfp69
            have hfp0 := hfp69
            refine W.eq (g2 := F0 m 63 ls [.ref p69]) rfl ?_
            refine lv_astore (lv' := [(6, .ref p69), (5, .int 1), (4, .ref (z (3 + j44))), (3, .int (y_lk A lm aa)), (0, .ref (ad 1)), (1, .ref P), (2, .int (Int32.ofNat dp))]) hx hb d_Reader_begin_63 hl (by decide) rfl (fun ls hl => ?_)
            refine lv_aload hx hb d_Reader_begin_65 (lv_at hl 0 rfl) ?_
            refine lv_iload_n hx hb d_Reader_begin_67 rfl (lv_at hl 3 rfl) ?_
            have hFc := y_free hD hS hA
            refine va_calli (va_runS (As := [.int (y_lk A lm aa)]) (rest := [.ref p69]) ⟨hx, hb, hml, hown, hts⟩ (c_Rd_channelOf l dC dI ar N0 z ad I69 T A O69 pl69 ((y_lk A lm aa)) H.size (y_hs H) ) (cwS 1 hts (x_goodS k_374 k_375 k_2 k_376) rfl rfl rfl (by decide +kernel) ⟨Nat.le_of_ble_eq_true rfl, Nat.le_of_ble_eq_true rfl⟩) ⟨y_blind, fun U9 hU9 hW9 => y_pre hU9 hW9 hP hD hU hZ hS hAN hN0⟩ rfl rfl hl.1 rfl (lv_room (Nat.le_of_ble_eq_true rfl)) d_Reader_begin_68 ⟨(by show 0 + (2) + (0) ≤ 2; omega), (by show 0 + (17) + (0) ≤ 17; omega)⟩) hS (fun q _ h => hFc q h) hFc (fun r_70 u t H1 locs ht hvm hw hB hz1 hk1 hS => ?_)
            obtain ⟨I71, T71, A71, O71, pl71, q71, s71, cq71, cs71⟩ := u
            dsimp only at hw hB
            rw [ht] at hB
            obtain ⟨hP, hD1, hac71⟩ := hB
            have hD : va_D Bq (y_W ad ar I71 T71 A71 O71 pl71) := hD1.weaken (fun _ q _ h => hFc q.1 h)
            generalize H1 = H at hP hS hac71 ⊢
            have hae71 := hac71
            try unfold y_ac at hae71
            try dsimp only at hae71
            refine W.widen (k := 0 + (2)) (n := 0 + (17)) (by omega) (by omega) ?_
            obtain ⟨h9, hw⟩ := hw
            cases h9
            obtain rfl := hw
            refine d_pN (C := "ChannelMachine$Process") (F := F_Process) (N := 10) hx hb hts i_Process hown t_Process t_Process_ok n_Process hK hP hD hS hfp69 8 rfl (by decide) (hU.1.2.1 _ kn_418) (fun _ h9 => h9) rfl (ty := .int) (v := .int (x_ch ((y_lk A lm aa)))) (by decide +kernel) rfl rfl (Nat.le_of_ble_eq_true rfl) d_Reader_begin_71 (fun pl72 H locs hL hP hD hS => ?_)
            have hfp69 : y_L pl72 p69 = some (.inr (7, [.ref (z (3 + j44)), .ref P, .null, .null, .null, .ref t69, .null, .ref (z 21), .int (x_ch ((y_lk A lm aa))), .int (-1)])) := by rw [hL]; exact y_Lu_s
            have hoth : ∀ b, b ≠ p69 → y_L pl72 b = y_L pl69 b := fun b n0 => by rw [hL, y_Lu_n n0]
            clear hL
            refine lv_aload hx hb d_Reader_begin_74 (lv_at hl 2 rfl) ?_
            refine va_gets hx hb ((hZ.2.1.1 0 (by decide)).1.narrow hAN) hS hown (hts _ k_372) (fun _ h9 => h9) d_Reader_begin_76 ?_
            refine lv_acmp_ne (rx := (some ((z (3 + j44))))) (ry := (some ((z (3 + 0))))) (tgt := 91) hx hb d_Reader_begin_79 (by decide) (fun h_73 => ?_) (fun h_73 => ?_)
            · have hlt : aa < lm := y_lk_lt hzj44
              refine lv_aload_n hx hb d_Reader_begin_91 rfl (lv_at hl 4 rfl) ?_
              refine lv_dup hx hb d_Reader_begin_92 rfl ?_
              refine k_g (C := "ChannelMachine$Reader") (F := F_Reader) (N := 9) hx hb hts i_Reader hown hK hP 1 5 (by decide) (by decide) rfl (by decide) (d := (1, 4)) rfl (hts _ k_49) (fun _ h9 => h9) (v := .int (Int32.ofNat aa)) (congrArg Value.int hmi.1.2.2.2) d_Reader_begin_93 ?_
              refine lv_iconst (v := 1) hx hb d_Reader_begin_96 (by decide) ?_
              refine lv_iadd hx hb d_Reader_begin_97 ?_
              refine W.eq (g2 := F0 m 98 ls [.int (Int32.ofNat (aa + 1)), .ref (ad 1)]) (by rw [← x_addN (a := aa) (b := 1)] <;> rfl) ?_
              refine k_pi (C := "ChannelMachine$Reader") (F := F_Reader) (N := 9) hx hb hts i_Reader hown t_Reader t_Reader_ok n_Reader hK hP hD hS 1 5 (by decide) (by decide) rfl (by decide) (j := 4) (x := (Int32.ofNat (aa + 1))) rfl (hts _ k_49) (fun _ h9 => h9) rfl (by decide +kernel) d_Reader_begin_98 (fun H locs hP hD hS => ?_)
              have hmi : y_RD (upd I69 4 (Int32.ofNat (aa + 1))) A (ln, cl, lm, (aa + 1)) := hmi.at4 (by omega)
              have hbn := hmi.2.1
              dsimp only at hbn
              refine lv_aload hx hb d_Reader_begin_101 (lv_at hl 0 rfl) ?_
              have hpf : y_L pl69 p69 = some (.inr (7, y_Pf z C69 Gs69 p69 (J69 p69) (some P) none (some t69) (z 21) (-1) (-1))) := by rw [hfp0]; unfold y_Pf; rw [hg2, hg3, hg4]; rfl
              have hd9 := hdx.put (s' := 1) (co' := z 21) (ch' := (x_ch ((y_lk A lm aa)))) (va' := (-1)) hg1 hpf (fun h9 => absurd rfl h9) (fun h9 => by omega)
              have hx9 := y_FX.put (s' := 1) (e := .inr (7, y_Pf z C69 Gs69 p69 (J69 p69) (some P) none (some t69) (z 21) ((x_ch ((y_lk A lm aa)))) ((-1)))) hfx69 hzp69
              have hL9 : y_L pl72 = y_Lu (y_L pl69) p69 (.inr (7, y_Pf z C69 Gs69 p69 (J69 p69) (some P) none (some t69) (z 21) ((x_ch ((y_lk A lm aa)))) ((-1)))) := y_Lu_eq (by rw [hfp69]; unfold y_Pf; rw [hg2, hg3, hg4]; rfl) (fun b hb => hoth b hb)
              rw [← hL9] at hd9 hx9
              refine y_know (fun hy91 hy92 hy93 hy94 => ?_)
              have hac9 : H.size ≤ s.heap.size + 2 ∧ y_hs H ≤ y_hs s.heap + 17 := ⟨by omega, by omega⟩
              refine W.widen (k := 2) (n := 17) (by omega) (by omega) ?_
              exact W.aret (v := .ref p69) hx hb hr (Or.inl ⟨_, rfl⟩) (Or.inr ⟨_, rfl⟩) (fun t ht hW => ⟨⟨(some p69), ((upd I69 4 (Int32.ofNat (aa + 1))), T, A, O69, pl72, (ln, cl, lm, (aa + 1))), rfl, ⟨hmi, rfl, rfl, rfl, fun k hk => hO69 k hk, ((m_fr.rf.tr fr69 (by decide)).up (by decide) _), Or.inr ⟨rfl, p69, t69, j44, (x_ch ((y_lk A lm aa))), (-1), G69, J69, C69, Gs69, y_un S69 p69 1, rfl, hzp69, hd9, hx9, hcx69, ⟨hg1, hg2, hg3, hg4, y_un_s, hg6⟩, hfp69, hpr69, hjj44, fun h9 => ((y_ch_ok _).resolve_left (hcj44 h9)).2⟩⟩, (by dsimp only; rw [ht]; exact ⟨hP, hD, hac9⟩)⟩, hS.F ht⟩) hS.2.2 d_Reader_begin_103
            · refine lv_aload hx hb d_Reader_begin_82 (lv_at hl 0 rfl) ?_
              refine lv_iload_n hx hb d_Reader_begin_84 rfl (lv_at hl 3 rfl) ?_
              refine lv_bipush (v := 97) hx hb d_Reader_begin_85 (by decide) ?_
              refine lv_isub hx hb d_Reader_begin_87 ?_
              refine d_pN (C := "ChannelMachine$Process") (F := F_Process) (N := 10) hx hb hts i_Process hown t_Process t_Process_ok n_Process hK hP hD hS hfp69 9 rfl (by decide) (hU.1.2.1 _ kn_421) (fun _ h9 => h9) rfl (ty := .int) (v := .int ((y_lk A lm aa) - 97)) (by decide +kernel) rfl rfl (Nat.le_of_ble_eq_true rfl) d_Reader_begin_88 (fun pl74 H locs hL hP hD hS => ?_)
              have hfp69 : y_L pl74 p69 = some (.inr (7, [.ref (z (3 + j44)), .ref P, .null, .null, .null, .ref t69, .null, .ref (z 21), .int (x_ch ((y_lk A lm aa))), .int ((y_lk A lm aa) - 97)])) := by rw [hL]; exact y_Lu_s
              have hoth : ∀ b, b ≠ p69 → y_L pl74 b = y_L pl69 b := fun b n0 => by rw [hL, y_Lu_n n0]; exact hoth b n0
              clear hL
              have hlt : aa < lm := y_lk_lt hzj44
              refine lv_aload_n hx hb d_Reader_begin_91 rfl (lv_at hl 4 rfl) ?_
              refine lv_dup hx hb d_Reader_begin_92 rfl ?_
              refine k_g (C := "ChannelMachine$Reader") (F := F_Reader) (N := 9) hx hb hts i_Reader hown hK hP 1 5 (by decide) (by decide) rfl (by decide) (d := (1, 4)) rfl (hts _ k_49) (fun _ h9 => h9) (v := .int (Int32.ofNat aa)) (congrArg Value.int hmi.1.2.2.2) d_Reader_begin_93 ?_
              refine lv_iconst (v := 1) hx hb d_Reader_begin_96 (by decide) ?_
              refine lv_iadd hx hb d_Reader_begin_97 ?_
              refine W.eq (g2 := F0 m 98 ls [.int (Int32.ofNat (aa + 1)), .ref (ad 1)]) (by rw [← x_addN (a := aa) (b := 1)] <;> rfl) ?_
              refine k_pi (C := "ChannelMachine$Reader") (F := F_Reader) (N := 9) hx hb hts i_Reader hown t_Reader t_Reader_ok n_Reader hK hP hD hS 1 5 (by decide) (by decide) rfl (by decide) (j := 4) (x := (Int32.ofNat (aa + 1))) rfl (hts _ k_49) (fun _ h9 => h9) rfl (by decide +kernel) d_Reader_begin_98 (fun H locs hP hD hS => ?_)
              have hmi : y_RD (upd I69 4 (Int32.ofNat (aa + 1))) A (ln, cl, lm, (aa + 1)) := hmi.at4 (by omega)
              have hbn := hmi.2.1
              dsimp only at hbn
              refine lv_aload hx hb d_Reader_begin_101 (lv_at hl 0 rfl) ?_
              have hpf : y_L pl69 p69 = some (.inr (7, y_Pf z C69 Gs69 p69 (J69 p69) (some P) none (some t69) (z 21) (-1) (-1))) := by rw [hfp0]; unfold y_Pf; rw [hg2, hg3, hg4]; rfl
              have hd9 := hdx.put (s' := 1) (co' := z 21) (ch' := (x_ch ((y_lk A lm aa)))) (va' := ((y_lk A lm aa) - 97)) hg1 hpf (fun h9 => absurd rfl h9) (fun h9 => by omega)
              have hx9 := y_FX.put (s' := 1) (e := .inr (7, y_Pf z C69 Gs69 p69 (J69 p69) (some P) none (some t69) (z 21) ((x_ch ((y_lk A lm aa)))) (((y_lk A lm aa) - 97)))) hfx69 hzp69
              have hL9 : y_L pl74 = y_Lu (y_L pl69) p69 (.inr (7, y_Pf z C69 Gs69 p69 (J69 p69) (some P) none (some t69) (z 21) ((x_ch ((y_lk A lm aa)))) (((y_lk A lm aa) - 97)))) := y_Lu_eq (by rw [hfp69]; unfold y_Pf; rw [hg2, hg3, hg4]; rfl) (fun b hb => hoth b hb)
              rw [← hL9] at hd9 hx9
              refine y_know (fun hy91 hy92 hy93 hy94 => ?_)
              have hac9 : H.size ≤ s.heap.size + 2 ∧ y_hs H ≤ y_hs s.heap + 17 := ⟨by omega, by omega⟩
              refine W.widen (k := 2) (n := 17) (by omega) (by omega) ?_
              exact W.aret (v := .ref p69) hx hb hr (Or.inl ⟨_, rfl⟩) (Or.inr ⟨_, rfl⟩) (fun t ht hW => ⟨⟨(some p69), ((upd I69 4 (Int32.ofNat (aa + 1))), T, A, O69, pl74, (ln, cl, lm, (aa + 1))), rfl, ⟨hmi, rfl, rfl, rfl, fun k hk => hO69 k hk, ((m_fr.rf.tr fr69 (by decide)).up (by decide) _), Or.inr ⟨rfl, p69, t69, j44, (x_ch ((y_lk A lm aa))), ((y_lk A lm aa) - 97), G69, J69, C69, Gs69, y_un S69 p69 1, rfl, hzp69, hd9, hx9, hcx69, ⟨hg1, hg2, hg3, hg4, y_un_s, hg6⟩, hfp69, hpr69, hjj44, fun h9 => ((y_ch_ok _).resolve_left (hcj44 h9)).2⟩⟩, (by dsimp only; rw [ht]; exact ⟨hP, hD, hac9⟩)⟩, hS.F ht⟩) hS.2.2 d_Reader_begin_103
          · have c_67 : dp = 7 := (x_eqN (a := dp) (b := 7) (by omega) (by omega)).mp c_67
            refine lv_null hx hb d_Reader_begin_54 ?_
            refine y_know (fun hy91 hy92 hy93 hy94 => ?_)
            have hac9 : H.size ≤ s.heap.size + 2 ∧ y_hs H ≤ y_hs s.heap + 17 := ⟨by omega, by omega⟩
            refine W.widen (k := 2) (n := 17) (by omega) (by omega) ?_
            exact W.aret (v := .null) hx hb hr (Or.inl ⟨_, rfl⟩) (Or.inl rfl) (fun t ht hW => ⟨⟨none, (I, T, A, O, pl, (ln, cl, lm, aa)), rfl, ⟨hmi, rfl, rfl, rfl, fun k hk => rfl, m_fr.rf, Or.inl ⟨rfl, rfl, rfl⟩⟩, (by dsimp only; rw [ht]; exact ⟨hP, hD, hac9⟩)⟩, hS.F ht⟩) hS.2.2 d_Reader_begin_55
set_option maxHeartbeats 4000000 in
set_option maxRecDepth 100000 in
theorem c_Rd_lastExpression (l : Launch) (dC : Nat → ClassId) (dI : Nat → Nat → Nat) (ar : Nat → ClassId) (N0 : Nat) (z : Nat → Nat) (ad : Nat → Nat) (I : Nat → Int32) (T : Int64) (A : Nat → Nat → Int32) (O : Nat → Option Nat) (pl : va_W) (ln cl lm aa : Nat) (pp en : Nat) (v0 v1 v2 v3 v4 v5 v6 v7 v8 v9 : Value) (sz w0 : Nat) (hmi : y_RD I A (ln, cl, lm, aa)) (hf : y_L pl pp = some (.inr (7, [v0, v1, v2, v3, v4, v5, v6, v7, v8, v9]))) (hen : aa ≤ en ∧ en ≤ ln) : Met l ({ cls := "ChannelMachine$Reader", name := "lastExpression", desc := "(LChannelMachine$Process;I)Z" } : Jvm.MethodName) ((Jvm.Cond.code ({ cls := "ChannelMachine$Reader", name := "lastExpression", desc := "(LChannelMachine$Process;I)Z" } : Jvm.MethodName) prog_8_method_22_code (4 : Nat) (Option.some Jvm.ClassFile.FieldType.boolean)) :: x_T) ({ frames := 32, cells := 1, slots := 72, locals := 1165 }) (y_Pc (dC, dI) ar N0 z (y_W ad ar I T A O pl) sz w0 [.ref (ad 1), .ref pp, .int (Int32.ofNat en)]) (va_Qi (fun (r : Int32) (u : (Nat → Int32) × Int64 × (Nat → Nat → Int32) × (Nat → Option Nat) × va_W × (Nat × Nat × Nat × Nat)) => y_RD u.1 u.2.2.1 u.2.2.2.2.2 ∧ u.2.1 = T ∧ u.2.2.2.1 = O ∧ m_fr [2, 3, 4, 5] I u.1 ∧ u.2.2.2.2.2.1 = ln ∧ u.2.2.2.2.2.2.2.1 = ln ∧ aa ≤ u.2.2.2.2.2.2.2.2 ∧ (r = 0 ∨ r = 1) ∧ ∃ (q n : Nat) (h : Nat → Int32), y_L pl q = none ∧ n ≤ 72 ∧ y_cok n h ∧ y_L u.2.2.2.2.1 q = some (.inl (ar 0, n, .inl h)) ∧ y_L u.2.2.2.2.1 pp = some (.inr (7, [v0, v1, v2, v3, v4, v5, v6, .ref q, v8, v9])) ∧ ∀ b, b ≠ q → b ≠ pp → y_L u.2.2.2.2.1 b = y_L pl b) (fun u t => va_P (dC, dI) y_cl (y_W ad ar u.1 u.2.1 u.2.2.1 u.2.2.2.1 u.2.2.2.2.1) t.heap ∧ va_D (va_A (y_W ad ar I T A O pl) sz) (y_W ad ar u.1 u.2.1 u.2.2.1 u.2.2.2.1 u.2.2.2.2.1) ∧ t.heap.size ≤ sz + 1 ∧ y_hs t.heap ≤ w0 + 72) (va_A (y_W ad ar I T A O pl) sz)) (1) (72) (va_A (y_W ad ar I T A O pl) sz) := by
  refine Met.ofW (cc := prog_8_method_22_code) (maxL := 4) (ret := (some .boolean)) (by decide) rfl ?_
  intro p e s m args below meth c s₁ B hml hv
  obtain ⟨rfl, hsz, hN0, hP, hU, hZ, hD0, hw0⟩ := hv
  have hK := hU.2.1
  have hx := B.exec
  have hb := B.bytes
  have hr := B.returns
  have hts : ∀ w ∈ x_T, w.before ([.ref (ad 1), .ref pp, .int (Int32.ofNat en)] : List Value).toArray s = true := fun w h => atoms_spec (ws := (Jvm.Cond.code ({ cls := "ChannelMachine$Reader", name := "lastExpression", desc := "(LChannelMachine$Process;I)Z" } : Jvm.MethodName) prog_8_method_22_code (4 : Nat) (Option.some Jvm.ClassFile.FieldType.boolean)) :: x_T) B.pre w (List.mem_cons_of_mem _ h)
  have hown : s.vm.findClass "ChannelMachine$Reader" = some m.cls := findClass_of_methodNamed B.named
  have hlocks := B.notSynchronized
  subst hsz
  subst hw0
  have hD := hD0.self (sz := s.heap.size)
  have hAN := x_AN hD0 hN0
  generalize hAe : va_A (y_W ad ar I T A O pl) s.heap.size = Bq at hD hAN ⊢
  have hA : ∀ q : Nat, s.heap.size ≤ q → Bq q := fun q h => by rw [← hAe]; exact Or.inr h
  have hS : va_S Bq s.heap s.heap [] := va_S.rf
  have hl := lv_entry ([.ref (ad 1), .ref pp, .int (Int32.ofNat en)]) (n := 4) (Nat.le_of_ble_eq_true rfl)
  rw [lg_entry_eq]
  generalize (lg_sl ([.ref (ad 1), .ref pp, .int (Int32.ofNat en)]) ++ List.replicate (4 - (lg_sl ([.ref (ad 1), .ref pp, .int (Int32.ofNat en)])).length) Slot.unset).toArray = ls at hl ⊢
  have hl : lv_has ls 4 [(0, .ref (ad 1)), (1, .ref pp), (2, .int (Int32.ofNat en))] := hl
  have hbn := hmi.2.1
  dsimp only at hbn
  refine lv_aload_n hx hb d_Reader_lastExpression_0 rfl (lv_at hl 0 rfl) ?_
  refine lv_iload_n hx hb d_Reader_lastExpression_1 rfl (lv_at hl 2 rfl) ?_
  refine k_pi (C := "ChannelMachine$Reader") (F := F_Reader) (N := 9) hx hb hts i_Reader hown t_Reader t_Reader_ok n_Reader hK hP hD hS 1 4 (by decide) (by decide) rfl (by decide) (j := 3) (x := (Int32.ofNat en)) rfl (hts _ k_48) (fun _ h9 => h9) rfl (by decide +kernel) d_Reader_lastExpression_2 (fun H locs hP hD hS => ?_)
  have hmi : y_RD (upd I 3 (Int32.ofNat en)) A (ln, cl, en, aa) := hmi.lm3 (by omega) (by omega)
  have hbn := hmi.2.1
  dsimp only at hbn
  refine lv_aload_n hx hb d_Reader_lastExpression_5 rfl (lv_at hl 0 rfl) ?_
  have hFc := y_free hD hS hA
  refine va_calli (va_runV (As := []) (rest := []) ⟨hx, hb, hml, hown, hts⟩ (c_Rd_expression l dC dI ar N0 z ad (upd I 3 (Int32.ofNat en)) T A O pl ln cl en aa H.size (y_hs H) hmi) (cwV 0 hts (x_goodV k_500 k_502 kp_9 k_2 k_503) rfl rfl rfl (by decide +kernel) ⟨Nat.le_of_ble_eq_true rfl, Nat.le_of_ble_eq_true rfl⟩) ⟨y_blind, va_recv hK hP (ci := 3) (q0 := 1) rfl (y_W_ob (by decide) (by decide)), fun U9 hU9 hW9 => y_pre hU9 hW9 hP hD hU hZ hS hAN hN0⟩ rfl rfl hl.1 rfl (lv_room (Nat.le_of_ble_eq_true rfl)) d_Reader_lastExpression_6 ⟨(by show 0 + (0) ≤ 1; omega), (by show 0 + (0) ≤ 72; omega)⟩) hS (fun q _ h => hFc q h) hFc (fun r_1 u t H1 locs ht hvm hw hB hz1 hk1 hS => ?_)
  obtain ⟨I2, T2, A2, O2, pl2, q2, s2, cq2, cs2⟩ := u
  dsimp only at hw hB
  rw [ht] at hB
  obtain ⟨hP, hD1, hac2⟩ := hB
  have hD : va_D Bq (y_W ad ar I2 T2 A2 O2 pl2) := hD1.weaken (fun _ q _ h => hFc q.1 h)
  generalize H1 = H at hP hS hac2 ⊢
  have hae2 := hac2
  try unfold y_ac at hae2
  try dsimp only at hae2
  refine W.widen (k := 0) (n := 0) (by omega) (by omega) ?_
  obtain ⟨hmi, e2, e4, e5, fr2, e6, e7, hge2, hcc2, hcz, hr9⟩ := hw
  rw [e2, e4, e5] at hP hD
  rw [e6, e7] at hmi
  have hP : va_P (dC, dI) y_cl (y_W ad ar I2 T A2 O pl) H := hP
  have hD : va_D Bq (y_W ad ar I2 T A2 O pl) := hD
  have hbn := hmi.2.1
  dsimp only at hbn
  rcases hr9 with rfl | rfl
  · refine lv_istore_n (lv' := [(3, .int 0), (0, .ref (ad 1)), (1, .ref pp), (2, .int (Int32.ofNat en))]) hx hb d_Reader_lastExpression_9 rfl hl (by decide) rfl (fun ls hl => ?_)
    refine lv_aload_n hx hb d_Reader_lastExpression_10 rfl (lv_at hl 1 rfl) ?_
    refine lv_aload_n hx hb d_Reader_lastExpression_11 rfl (lv_at hl 1 rfl) ?_
    refine k_g (C := "ChannelMachine$Reader") (F := F_Reader) (N := 9) hx hb hts i_Reader hown hK hP 1 2 (by decide) (by decide) rfl (by decide) (d := (1, 1)) rfl (hts _ k_45) (fun _ h9 => h9) (v := .int (Int32.ofNat ln)) (congrArg Value.int hmi.1.1) d_Reader_lastExpression_12 ?_
    refine k_pi (C := "ChannelMachine$Reader") (F := F_Reader) (N := 9) hx hb hts i_Reader hown t_Reader t_Reader_ok n_Reader hK hP hD hS 1 4 (by decide) (by decide) rfl (by decide) (j := 3) (x := (Int32.ofNat ln)) rfl (hts _ k_48) (fun _ h9 => h9) rfl (by decide +kernel) d_Reader_lastExpression_15 (fun H locs hP hD hS => ?_)
    have hmi : y_RD (upd I2 3 (Int32.ofNat ln)) A2 (ln, s2, ln, cs2) := hmi.lm3 (by omega) (by omega)
    have hbn := hmi.2.1
    dsimp only at hbn
    refine lv_aload_n hx hb d_Reader_lastExpression_18 rfl (lv_at hl 2 rfl) ?_
    refine lv_aload_n hx hb d_Reader_lastExpression_19 rfl (lv_at hl 1 rfl) ?_
    refine y_know (fun hya1 hya2 hya3 hya4 => ?_)
    have hFc := y_free hD hS hA
    refine va_callq (va_runV (As := []) (rest := [.ref pp]) ⟨hx, hb, hml, hown, hts⟩ (c_Rd_codeRead l dC dI ar N0 z ad (upd I2 3 (Int32.ofNat ln)) T A2 O pl ln s2 ln cs2 H.size (y_hs H) hmi (by omega)) (cwV 0 hts (x_goodV k_526 k_528 kp_14 k_2 k_529) rfl rfl rfl (by decide +kernel) ⟨Nat.le_of_ble_eq_true rfl, Nat.le_of_ble_eq_true rfl⟩) ⟨y_blind, va_recv hK hP (ci := 3) (q0 := 1) rfl (y_W_ob (by decide) (by decide)), fun U9 hU9 hW9 => y_pre hU9 hW9 hP hD hU hZ hS hAN hN0⟩ rfl rfl hl.1 rfl (lv_room (Nat.le_of_ble_eq_true rfl)) d_Reader_lastExpression_20 ⟨(by show 0 + (1) ≤ 1; omega), (by show 0 + (s2) ≤ 72; omega)⟩) hS (fun q _ h => hFc q h) hFc (fun r_3 u t H1 locs ht hvm hw hB hz1 hk1 hS => ?_)
    obtain ⟨I4, T4, A4, O4, pl4, q4, s4, cq4, cs4⟩ := u
    dsimp only at hw hB
    rw [ht] at hB
    obtain ⟨hP, hD1, hac4⟩ := hB
    have hD : va_D Bq (y_W ad ar I4 T4 A4 O4 pl4) := hD1.weaken (fun _ q _ h => hFc q.1 h)
    generalize H1 = H at hP hS hac4 ⊢
    have hae4 := hac4
    try unfold y_ac at hae4
    try dsimp only at hae4
    obtain ⟨q4, h14, rfl, hno4, e1, e2, e3, e4, hL4, hcp4⟩ := hw
    rw [e1, e2, e3, e4] at hP hD
    refine W.eq (g2 := F0 m 23 ls [.ref q4, .ref pp]) rfl ?_
    have hP : va_P (dC, dI) y_cl (y_W ad ar (upd I2 3 (Int32.ofNat ln)) T A2 O pl4) H := hP
    have hD : va_D Bq (y_W ad ar (upd I2 3 (Int32.ofNat ln)) T A2 O pl4) := hD
    have hne5_q4 : pp ≠ q4 := fun h9 => by rw [h9, hno4] at hf; cases hf
    have hzq4 : y_L pl q4 = none := by exact hno4
    have hf : y_L pl4 pp = some (.inr (7, [v0, v1, v2, v3, v4, v5, v6, v7, v8, v9])) := by rw [hL4, y_Lu_n hne5_q4]; exact hf
    have hqq4 : y_L pl4 q4 = some (.inl (ar 0, s2, .inl h14)) := by rw [hL4]; exact y_Lu_s
    have hoth : ∀ b, b ≠ q4 → y_L pl4 b = y_L pl b := fun b n0 => by rw [hL4, y_Lu_n n0]
    have hokq4 : y_cok s2 h14 := fun j hj => by rw [hcp4 j hj]; exact hmi.2.2 j hj (by dsimp only; omega)
    clear hL4
    refine d_pN (C := "ChannelMachine$Process") (F := F_Process) (N := 10) hx hb hts i_Process hown t_Process t_Process_ok n_Process hK hP hD hS hf 7 rfl (by decide) (hU.1.2.1 _ kn_415) (fun _ h9 => h9) rfl (ty := (.array .int)) (v := .ref q4) (by decide +kernel) rfl rfl (Nat.le_of_ble_eq_true rfl) d_Reader_lastExpression_23 (fun pl6 H locs hL hP hD hS => ?_)
    have hqq4 : y_L pl6 q4 = some (.inl (ar 0, s2, .inl h14)) := by rw [hL, y_Lu_n (Ne.symm hne5_q4)]; exact hqq4
    have hf : y_L pl6 pp = some (.inr (7, [v0, v1, v2, v3, v4, v5, v6, .ref q4, v8, v9])) := by rw [hL]; exact y_Lu_s
    have hoth : ∀ b, b ≠ q4 → b ≠ pp → y_L pl6 b = y_L pl b := fun b n0 n1 => by rw [hL, y_Lu_n n1]; exact hoth b n0
    clear hL
    refine lv_iload_n hx hb d_Reader_lastExpression_26 rfl (lv_at hl 0 rfl) ?_
    refine y_know (fun hy91 hy92 hy93 hy94 => ?_)
    have hac9 : H.size ≤ s.heap.size + 1 ∧ y_hs H ≤ y_hs s.heap + 72 := ⟨by omega, by omega⟩
    refine W.widen (k := 1) (n := 72) (by omega) (by omega) ?_
    exact W.zret (v := 0) hx hb hr (rfl) (fun t ht hW => ⟨⟨0, ((upd I2 3 (Int32.ofNat ln)), T, A2, O, pl6, (ln, s2, ln, cs2)), rfl, ⟨hmi, rfl, rfl, (((m_fr.rf.up (by decide) _).tr fr2 (by decide)).up (by decide) _), rfl, rfl, by dsimp only; omega, Or.inl rfl, q4, s2, h14, hzq4, by omega, hokq4, hqq4, hf, fun b h1 h2 => hoth b h1 h2⟩, (by dsimp only; rw [ht]; exact ⟨hP, hD, hac9⟩)⟩, hS.F ht⟩) hS.2.2 d_Reader_lastExpression_27
  · refine lv_istore_n (lv' := [(3, .int 1), (0, .ref (ad 1)), (1, .ref pp), (2, .int (Int32.ofNat en))]) hx hb d_Reader_lastExpression_9 rfl hl (by decide) rfl (fun ls hl => ?_)
    refine lv_aload_n hx hb d_Reader_lastExpression_10 rfl (lv_at hl 1 rfl) ?_
    refine lv_aload_n hx hb d_Reader_lastExpression_11 rfl (lv_at hl 1 rfl) ?_
    refine k_g (C := "ChannelMachine$Reader") (F := F_Reader) (N := 9) hx hb hts i_Reader hown hK hP 1 2 (by decide) (by decide) rfl (by decide) (d := (1, 1)) rfl (hts _ k_45) (fun _ h9 => h9) (v := .int (Int32.ofNat ln)) (congrArg Value.int hmi.1.1) d_Reader_lastExpression_12 ?_
    refine k_pi (C := "ChannelMachine$Reader") (F := F_Reader) (N := 9) hx hb hts i_Reader hown t_Reader t_Reader_ok n_Reader hK hP hD hS 1 4 (by decide) (by decide) rfl (by decide) (j := 3) (x := (Int32.ofNat ln)) rfl (hts _ k_48) (fun _ h9 => h9) rfl (by decide +kernel) d_Reader_lastExpression_15 (fun H locs hP hD hS => ?_)
    have hmi : y_RD (upd I2 3 (Int32.ofNat ln)) A2 (ln, s2, ln, cs2) := hmi.lm3 (by omega) (by omega)
    have hbn := hmi.2.1
    dsimp only at hbn
    refine lv_aload_n hx hb d_Reader_lastExpression_18 rfl (lv_at hl 2 rfl) ?_
    refine lv_aload_n hx hb d_Reader_lastExpression_19 rfl (lv_at hl 1 rfl) ?_
    refine y_know (fun hya1 hya2 hya3 hya4 => ?_)
    have hFc := y_free hD hS hA
    refine va_callq (va_runV (As := []) (rest := [.ref pp]) ⟨hx, hb, hml, hown, hts⟩ (c_Rd_codeRead l dC dI ar N0 z ad (upd I2 3 (Int32.ofNat ln)) T A2 O pl ln s2 ln cs2 H.size (y_hs H) hmi (by omega)) (cwV 0 hts (x_goodV k_526 k_528 kp_14 k_2 k_529) rfl rfl rfl (by decide +kernel) ⟨Nat.le_of_ble_eq_true rfl, Nat.le_of_ble_eq_true rfl⟩) ⟨y_blind, va_recv hK hP (ci := 3) (q0 := 1) rfl (y_W_ob (by decide) (by decide)), fun U9 hU9 hW9 => y_pre hU9 hW9 hP hD hU hZ hS hAN hN0⟩ rfl rfl hl.1 rfl (lv_room (Nat.le_of_ble_eq_true rfl)) d_Reader_lastExpression_20 ⟨(by show 0 + (1) ≤ 1; omega), (by show 0 + (s2) ≤ 72; omega)⟩) hS (fun q _ h => hFc q h) hFc (fun r_7 u t H1 locs ht hvm hw hB hz1 hk1 hS => ?_)
    obtain ⟨I8, T8, A8, O8, pl8, q8, s8, cq8, cs8⟩ := u
    dsimp only at hw hB
    rw [ht] at hB
    obtain ⟨hP, hD1, hac8⟩ := hB
    have hD : va_D Bq (y_W ad ar I8 T8 A8 O8 pl8) := hD1.weaken (fun _ q _ h => hFc q.1 h)
    generalize H1 = H at hP hS hac8 ⊢
    have hae8 := hac8
    try unfold y_ac at hae8
    try dsimp only at hae8
    obtain ⟨q8, h18, rfl, hno8, e1, e2, e3, e4, hL8, hcp8⟩ := hw
    rw [e1, e2, e3, e4] at hP hD
    refine W.eq (g2 := F0 m 23 ls [.ref q8, .ref pp]) rfl ?_
    have hP : va_P (dC, dI) y_cl (y_W ad ar (upd I2 3 (Int32.ofNat ln)) T A2 O pl8) H := hP
    have hD : va_D Bq (y_W ad ar (upd I2 3 (Int32.ofNat ln)) T A2 O pl8) := hD
    have hne9_q8 : pp ≠ q8 := fun h9 => by rw [h9, hno8] at hf; cases hf
    have hzq8 : y_L pl q8 = none := by exact hno8
    have hf : y_L pl8 pp = some (.inr (7, [v0, v1, v2, v3, v4, v5, v6, v7, v8, v9])) := by rw [hL8, y_Lu_n hne9_q8]; exact hf
    have hqq8 : y_L pl8 q8 = some (.inl (ar 0, s2, .inl h18)) := by rw [hL8]; exact y_Lu_s
    have hoth : ∀ b, b ≠ q8 → y_L pl8 b = y_L pl b := fun b n0 => by rw [hL8, y_Lu_n n0]
    have hokq8 : y_cok s2 h18 := fun j hj => by rw [hcp8 j hj]; exact hmi.2.2 j hj (by dsimp only; omega)
    clear hL8
    refine d_pN (C := "ChannelMachine$Process") (F := F_Process) (N := 10) hx hb hts i_Process hown t_Process t_Process_ok n_Process hK hP hD hS hf 7 rfl (by decide) (hU.1.2.1 _ kn_415) (fun _ h9 => h9) rfl (ty := (.array .int)) (v := .ref q8) (by decide +kernel) rfl rfl (Nat.le_of_ble_eq_true rfl) d_Reader_lastExpression_23 (fun pl10 H locs hL hP hD hS => ?_)
    have hqq8 : y_L pl10 q8 = some (.inl (ar 0, s2, .inl h18)) := by rw [hL, y_Lu_n (Ne.symm hne9_q8)]; exact hqq8
    have hf : y_L pl10 pp = some (.inr (7, [v0, v1, v2, v3, v4, v5, v6, .ref q8, v8, v9])) := by rw [hL]; exact y_Lu_s
    have hoth : ∀ b, b ≠ q8 → b ≠ pp → y_L pl10 b = y_L pl b := fun b n0 n1 => by rw [hL, y_Lu_n n1]; exact hoth b n0
    clear hL
    refine lv_iload_n hx hb d_Reader_lastExpression_26 rfl (lv_at hl 0 rfl) ?_
    refine y_know (fun hy91 hy92 hy93 hy94 => ?_)
    have hac9 : H.size ≤ s.heap.size + 1 ∧ y_hs H ≤ y_hs s.heap + 72 := ⟨by omega, by omega⟩
    refine W.widen (k := 1) (n := 72) (by omega) (by omega) ?_
    exact W.zret (v := 1) hx hb hr (rfl) (fun t ht hW => ⟨⟨1, ((upd I2 3 (Int32.ofNat ln)), T, A2, O, pl10, (ln, s2, ln, cs2)), rfl, ⟨hmi, rfl, rfl, (((m_fr.rf.up (by decide) _).tr fr2 (by decide)).up (by decide) _), rfl, rfl, by dsimp only; omega, Or.inr rfl, q8, s2, h18, hzq8, by omega, hokq8, hqq8, hf, fun b h1 h2 => hoth b h1 h2⟩, (by dsimp only; rw [ht]; exact ⟨hP, hD, hac9⟩)⟩, hS.F ht⟩) hS.2.2 d_Reader_lastExpression_27
set_option maxHeartbeats 4000000 in
set_option maxRecDepth 100000 in
theorem c_Rd_condition (l : Launch) (dC : Nat → ClassId) (dI : Nat → Nat → Nat) (ar : Nat → ClassId) (N0 : Nat) (z : Nat → Nat) (ad : Nat → Nat) (I : Nat → Int32) (T : Int64) (A : Nat → Nat → Int32) (O : Nat → Option Nat) (pl : va_W) (ln cl lm aa : Nat) (pp : Nat) (v0 v1 v2 v3 v4 v5 v6 v7 v8 v9 : Value) (sz w0 : Nat) (hmi : y_RD I A (ln, cl, lm, aa)) (hf : y_L pl pp = some (.inr (7, [v0, v1, v2, v3, v4, v5, v6, v7, v8, v9]))) : Met l ({ cls := "ChannelMachine$Reader", name := "condition", desc := "(LChannelMachine$Process;)Z" } : Jvm.MethodName) ((Jvm.Cond.code ({ cls := "ChannelMachine$Reader", name := "condition", desc := "(LChannelMachine$Process;)Z" } : Jvm.MethodName) prog_8_method_21_code (2 : Nat) (Option.some Jvm.ClassFile.FieldType.boolean)) :: x_T) ({ frames := 32, cells := 1, slots := 72, locals := 1165 }) (y_Pc (dC, dI) ar N0 z (y_W ad ar I T A O pl) sz w0 [.ref (ad 1), .ref pp]) (va_Qi (fun (r : Int32) (u : (Nat → Int32) × Int64 × (Nat → Nat → Int32) × (Nat → Option Nat) × va_W × (Nat × Nat × Nat × Nat)) => y_RD u.1 u.2.2.1 u.2.2.2.2.2 ∧ u.2.1 = T ∧ u.2.2.2.1 = O ∧ m_fr [2, 4, 5] I u.1 ∧ u.2.2.2.2.2.1 = ln ∧ u.2.2.2.2.2.2.2.1 = lm ∧ aa ≤ u.2.2.2.2.2.2.2.2 ∧ ((r = 0 ∧ ∀ b, y_L pl b ≠ none → b ≠ pp → y_L u.2.2.2.2.1 b = y_L pl b) ∨ (r = 1 ∧ ∃ (q n : Nat) (h : Nat → Int32), y_L pl q = none ∧ n ≤ 72 ∧ y_cok n h ∧ y_L u.2.2.2.2.1 q = some (.inl (ar 0, n, .inl h)) ∧ y_L u.2.2.2.2.1 pp = some (.inr (7, [v0, v1, v2, v3, v4, v5, v6, .ref q, v8, v9])) ∧ ∀ b, b ≠ q → b ≠ pp → y_L u.2.2.2.2.1 b = y_L pl b))) (fun u t => va_P (dC, dI) y_cl (y_W ad ar u.1 u.2.1 u.2.2.1 u.2.2.2.1 u.2.2.2.2.1) t.heap ∧ va_D (va_A (y_W ad ar I T A O pl) sz) (y_W ad ar u.1 u.2.1 u.2.2.1 u.2.2.2.1 u.2.2.2.2.1) ∧ t.heap.size ≤ sz + 1 ∧ y_hs t.heap ≤ w0 + 72) (va_A (y_W ad ar I T A O pl) sz)) (1) (72) (va_A (y_W ad ar I T A O pl) sz) := by
  refine Met.ofW (cc := prog_8_method_21_code) (maxL := 2) (ret := (some .boolean)) (by decide) rfl ?_
  intro p e s m args below meth c s₁ B hml hv
  obtain ⟨rfl, hsz, hN0, hP, hU, hZ, hD0, hw0⟩ := hv
  have hK := hU.2.1
  have hx := B.exec
  have hb := B.bytes
  have hr := B.returns
  have hts : ∀ w ∈ x_T, w.before ([.ref (ad 1), .ref pp] : List Value).toArray s = true := fun w h => atoms_spec (ws := (Jvm.Cond.code ({ cls := "ChannelMachine$Reader", name := "condition", desc := "(LChannelMachine$Process;)Z" } : Jvm.MethodName) prog_8_method_21_code (2 : Nat) (Option.some Jvm.ClassFile.FieldType.boolean)) :: x_T) B.pre w (List.mem_cons_of_mem _ h)
  have hown : s.vm.findClass "ChannelMachine$Reader" = some m.cls := findClass_of_methodNamed B.named
  have hlocks := B.notSynchronized
  subst hsz
  subst hw0
  have hD := hD0.self (sz := s.heap.size)
  have hAN := x_AN hD0 hN0
  generalize hAe : va_A (y_W ad ar I T A O pl) s.heap.size = Bq at hD hAN ⊢
  have hA : ∀ q : Nat, s.heap.size ≤ q → Bq q := fun q h => by rw [← hAe]; exact Or.inr h
  have hS : va_S Bq s.heap s.heap [] := va_S.rf
  have hl := lv_entry ([.ref (ad 1), .ref pp]) (n := 2) (Nat.le_of_ble_eq_true rfl)
  rw [lg_entry_eq]
  generalize (lg_sl ([.ref (ad 1), .ref pp]) ++ List.replicate (2 - (lg_sl ([.ref (ad 1), .ref pp])).length) Slot.unset).toArray = ls at hl ⊢
  have hl : lv_has ls 2 [(0, .ref (ad 1)), (1, .ref pp)] := hl
  have hbn := hmi.2.1
  dsimp only at hbn
  refine lv_aload_n hx hb d_Reader_condition_0 rfl (lv_at hl 0 rfl) ?_
  have hFc := y_free hD hS hA
  refine va_calli (va_runV (As := []) (rest := []) ⟨hx, hb, hml, hown, hts⟩ (c_Rd_expression l dC dI ar N0 z ad I T A O pl ln cl lm aa s.heap.size (y_hs s.heap) hmi) (cwV 0 hts (x_goodV k_500 k_502 kp_9 k_2 k_503) rfl rfl rfl (by decide +kernel) ⟨Nat.le_of_ble_eq_true rfl, Nat.le_of_ble_eq_true rfl⟩) ⟨y_blind, va_recv hK hP (ci := 3) (q0 := 1) rfl (y_W_ob (by decide) (by decide)), fun U9 hU9 hW9 => y_pre hU9 hW9 hP hD hU hZ hS hAN hN0⟩ rfl rfl hl.1 rfl (lv_room (Nat.le_of_ble_eq_true rfl)) d_Reader_condition_1 ⟨(by show 0 + (0) ≤ 1; omega), (by show 0 + (0) ≤ 72; omega)⟩) hS (fun q _ h => hFc q h) hFc (fun r_1 u t H1 locs ht hvm hw hB hz1 hk1 hS => ?_)
  obtain ⟨I2, T2, A2, O2, pl2, q2, s2, cq2, cs2⟩ := u
  dsimp only at hw hB
  rw [ht] at hB
  obtain ⟨hP, hD1, hac2⟩ := hB
  have hD : va_D Bq (y_W ad ar I2 T2 A2 O2 pl2) := hD1.weaken (fun _ q _ h => hFc q.1 h)
  generalize H1 = H at hP hS hac2 ⊢
  have hae2 := hac2
  try unfold y_ac at hae2
  try dsimp only at hae2
  refine W.widen (k := 0) (n := 0) (by omega) (by omega) ?_
  obtain ⟨hmi, e2, e4, e5, fr2, e6, e7, hge2, hcc2, hcz, hr9⟩ := hw
  rw [e2, e4, e5] at hP hD
  rw [e6, e7] at hmi
  have hP : va_P (dC, dI) y_cl (y_W ad ar I2 T A2 O pl) H := hP
  have hD : va_D Bq (y_W ad ar I2 T A2 O pl) := hD
  have hbn := hmi.2.1
  dsimp only at hbn
  rcases hr9 with rfl | rfl
  · refine lv_if_ne (tgt := 9) hx hb d_Reader_condition_4 (by decide) (fun c3 => absurd rfl c3) (fun _ => ?_)
    refine lv_iconst (v := 0) hx hb d_Reader_condition_7 (by decide) ?_
    refine y_know (fun hy91 hy92 hy93 hy94 => ?_)
    have hac9 : H.size ≤ s.heap.size + 1 ∧ y_hs H ≤ y_hs s.heap + 72 := ⟨by omega, by omega⟩
    refine W.widen (k := 1) (n := 72) (by omega) (by omega) ?_
    exact W.zret (v := 0) hx hb hr (rfl) (fun t ht hW => ⟨⟨0, (I2, T, A2, O, pl, (ln, s2, lm, cs2)), rfl, ⟨hmi, rfl, rfl, (m_fr.rf.tr fr2 (by decide)), rfl, rfl, by dsimp only; omega, Or.inl ⟨rfl, fun b _ _ => rfl⟩⟩, (by dsimp only; rw [ht]; exact ⟨hP, hD, hac9⟩)⟩, hS.F ht⟩) hS.2.2 d_Reader_condition_8
  · refine lv_if_ne (tgt := 9) hx hb d_Reader_condition_4 (by decide) (fun _ => ?_) (fun c4 => absurd c4 (by decide))
    refine lv_aload_n hx hb d_Reader_condition_9 rfl (lv_at hl 1 rfl) ?_
    refine lv_aload_n hx hb d_Reader_condition_10 rfl (lv_at hl 0 rfl) ?_
    refine y_know (fun hya1 hya2 hya3 hya4 => ?_)
    have hFc := y_free hD hS hA
    refine va_callq (va_runV (As := []) (rest := [.ref pp]) ⟨hx, hb, hml, hown, hts⟩ (c_Rd_codeRead l dC dI ar N0 z ad I2 T A2 O pl ln s2 lm cs2 H.size (y_hs H) hmi (by omega)) (cwV 0 hts (x_goodV k_526 k_528 kp_14 k_2 k_529) rfl rfl rfl (by decide +kernel) ⟨Nat.le_of_ble_eq_true rfl, Nat.le_of_ble_eq_true rfl⟩) ⟨y_blind, va_recv hK hP (ci := 3) (q0 := 1) rfl (y_W_ob (by decide) (by decide)), fun U9 hU9 hW9 => y_pre hU9 hW9 hP hD hU hZ hS hAN hN0⟩ rfl rfl hl.1 rfl (lv_room (Nat.le_of_ble_eq_true rfl)) d_Reader_condition_11 ⟨(by show 0 + (1) ≤ 1; omega), (by show 0 + (s2) ≤ 72; omega)⟩) hS (fun q _ h => hFc q h) hFc (fun r_5 u t H1 locs ht hvm hw hB hz1 hk1 hS => ?_)
    obtain ⟨I6, T6, A6, O6, pl6, q6, s6, cq6, cs6⟩ := u
    dsimp only at hw hB
    rw [ht] at hB
    obtain ⟨hP, hD1, hac6⟩ := hB
    have hD : va_D Bq (y_W ad ar I6 T6 A6 O6 pl6) := hD1.weaken (fun _ q _ h => hFc q.1 h)
    generalize H1 = H at hP hS hac6 ⊢
    have hae6 := hac6
    try unfold y_ac at hae6
    try dsimp only at hae6
    obtain ⟨q6, h16, rfl, hno6, e1, e2, e3, e4, hL6, hcp6⟩ := hw
    rw [e1, e2, e3, e4] at hP hD
    refine W.eq (g2 := F0 m 14 ls [.ref q6, .ref pp]) rfl ?_
    have hP : va_P (dC, dI) y_cl (y_W ad ar I2 T A2 O pl6) H := hP
    have hD : va_D Bq (y_W ad ar I2 T A2 O pl6) := hD
    have hne7_q6 : pp ≠ q6 := fun h9 => by rw [h9, hno6] at hf; cases hf
    have hzq6 : y_L pl q6 = none := by exact hno6
    have hf : y_L pl6 pp = some (.inr (7, [v0, v1, v2, v3, v4, v5, v6, v7, v8, v9])) := by rw [hL6, y_Lu_n hne7_q6]; exact hf
    have hqq6 : y_L pl6 q6 = some (.inl (ar 0, s2, .inl h16)) := by rw [hL6]; exact y_Lu_s
    have hoth : ∀ b, b ≠ q6 → y_L pl6 b = y_L pl b := fun b n0 => by rw [hL6, y_Lu_n n0]
    have hokq6 : y_cok s2 h16 := fun j hj => by rw [hcp6 j hj]; exact hmi.2.2 j hj (by dsimp only; omega)
    clear hL6
    refine d_pN (C := "ChannelMachine$Process") (F := F_Process) (N := 10) hx hb hts i_Process hown t_Process t_Process_ok n_Process hK hP hD hS hf 7 rfl (by decide) (hU.1.2.1 _ kn_415) (fun _ h9 => h9) rfl (ty := (.array .int)) (v := .ref q6) (by decide +kernel) rfl rfl (Nat.le_of_ble_eq_true rfl) d_Reader_condition_14 (fun pl8 H locs hL hP hD hS => ?_)
    have hqq6 : y_L pl8 q6 = some (.inl (ar 0, s2, .inl h16)) := by rw [hL, y_Lu_n (Ne.symm hne7_q6)]; exact hqq6
    have hf : y_L pl8 pp = some (.inr (7, [v0, v1, v2, v3, v4, v5, v6, .ref q6, v8, v9])) := by rw [hL]; exact y_Lu_s
    have hoth : ∀ b, b ≠ q6 → b ≠ pp → y_L pl8 b = y_L pl b := fun b n0 n1 => by rw [hL, y_Lu_n n1]; exact hoth b n0
    clear hL
    refine lv_aload_n hx hb d_Reader_condition_17 rfl (lv_at hl 0 rfl) ?_
    refine lv_bipush (v := 44) hx hb d_Reader_condition_18 (by decide) ?_
    have hFc := y_free hD hS hA
    refine va_calli (va_runV (As := [.int 44]) (rest := []) ⟨hx, hb, hml, hown, hts⟩ (c_Rd_expect l dC dI ar N0 z ad I2 T A2 O pl8 ln s2 lm cs2 (44) H.size (y_hs H) hmi (by decide)) (cwV 1 hts (x_goodV k_492 k_494 kp_7 k_2 k_495) rfl rfl rfl (by decide +kernel) ⟨Nat.le_of_ble_eq_true rfl, Nat.le_of_ble_eq_true rfl⟩) ⟨y_blind, va_recv hK hP (ci := 3) (q0 := 1) rfl (y_W_ob (by decide) (by decide)), fun U9 hU9 hW9 => y_pre hU9 hW9 hP hD hU hZ hS hAN hN0⟩ rfl rfl hl.1 rfl (lv_room (Nat.le_of_ble_eq_true rfl)) d_Reader_condition_20 ⟨(by show 0 + (1) + (0) ≤ 1; omega), (by show 0 + (s2) + (0) ≤ 72; omega)⟩) hS (fun q _ h => hFc q h) hFc (fun r_9 u t H1 locs ht hvm hw hB hz1 hk1 hS => ?_)
    obtain ⟨I10, T10, A10, O10, pl10, q10, s10, cq10, cs10⟩ := u
    dsimp only at hw hB
    rw [ht] at hB
    obtain ⟨hP, hD1, hac10⟩ := hB
    have hD : va_D Bq (y_W ad ar I10 T10 A10 O10 pl10) := hD1.weaken (fun _ q _ h => hFc q.1 h)
    generalize H1 = H at hP hS hac10 ⊢
    have hae10 := hac10
    try unfold y_ac at hae10
    try dsimp only at hae10
    refine W.widen (k := 0 + (1)) (n := 0 + (s2)) (by omega) (by omega) ?_
    obtain ⟨hmi, e2, e4, e5, fr10, e6, e7, hge10, hcc10, hr9⟩ := hw
    rw [e2, e4, e5] at hP hD
    rw [e6, e7] at hmi
    have hP : va_P (dC, dI) y_cl (y_W ad ar I10 T A10 O pl8) H := hP
    have hD : va_D Bq (y_W ad ar I10 T A10 O pl8) := hD
    have hbn := hmi.2.1
    dsimp only at hbn
    rcases hr9 with rfl | ⟨rfl, hex11⟩
    · refine y_know (fun hy91 hy92 hy93 hy94 => ?_)
      have hac9 : H.size ≤ s.heap.size + 1 ∧ y_hs H ≤ y_hs s.heap + 72 := ⟨by omega, by omega⟩
      refine W.widen (k := 1) (n := 72) (by omega) (by omega) ?_
      exact W.zret (v := 0) hx hb hr (rfl) (fun t ht hW => ⟨⟨0, (I10, T, A10, O, pl8, (ln, s10, lm, cs10)), rfl, ⟨hmi, rfl, rfl, ((m_fr.rf.tr fr2 (by decide)).tr fr10 (by decide)), rfl, rfl, by dsimp only; omega, Or.inl ⟨rfl, fun b hb h2 => hoth b (fun e => hb (by rw [e]; exact hzq6)) h2⟩⟩, (by dsimp only; rw [ht]; exact ⟨hP, hD, hac9⟩)⟩, hS.F ht⟩) hS.2.2 d_Reader_condition_23
    · refine y_know (fun hy91 hy92 hy93 hy94 => ?_)
      have hac9 : H.size ≤ s.heap.size + 1 ∧ y_hs H ≤ y_hs s.heap + 72 := ⟨by omega, by omega⟩
      refine W.widen (k := 1) (n := 72) (by omega) (by omega) ?_
      exact W.zret (v := 1) hx hb hr (rfl) (fun t ht hW => ⟨⟨1, (I10, T, A10, O, pl8, (ln, s10, lm, cs10)), rfl, ⟨hmi, rfl, rfl, ((m_fr.rf.tr fr2 (by decide)).tr fr10 (by decide)), rfl, rfl, by dsimp only; omega, Or.inr ⟨rfl, q6, s2, h16, hzq6, by omega, hokq6, hqq6, hf, fun b h1 h2 => hoth b h1 h2⟩⟩, (by dsimp only; rw [ht]; exact ⟨hP, hD, hac9⟩)⟩, hS.F ht⟩) hS.2.2 d_Reader_condition_23
set_option maxHeartbeats 4000000 in
set_option maxRecDepth 100000 in
theorem c_Rd_guardInput (l : Launch) (dC : Nat → ClassId) (dI : Nat → Nat → Nat) (ar : Nat → ClassId) (N0 : Nat) (z : Nat → Nat) (ad : Nat → Nat) (I : Nat → Int32) (T : Int64) (A : Nat → Nat → Int32) (O : Nat → Option Nat) (pl : va_W) (ln cl lm aa : Nat) (gg cg : Nat) (sz w0 : Nat) (hmi : y_RD I A (ln, cl, lm, aa)) (hf : y_L pl gg = some (.inr (9, [.ref cg, .int (-1), .int (-1), .null, .null, .int 0]))) : Met l ({ cls := "ChannelMachine$Reader", name := "guardInput", desc := "(LChannelMachine$Guard;)Z" } : Jvm.MethodName) ((Jvm.Cond.code ({ cls := "ChannelMachine$Reader", name := "guardInput", desc := "(LChannelMachine$Guard;)Z" } : Jvm.MethodName) prog_8_method_20_code (3 : Nat) (Option.some Jvm.ClassFile.FieldType.boolean)) :: x_T) ({ frames := 4, cells := 0, slots := 0, locals := 77 }) (y_Pc (dC, dI) ar N0 z (y_W ad ar I T A O pl) sz w0 [.ref (ad 1), .ref gg]) (va_Qi (fun (r : Int32) (u : (Nat → Int32) × Int64 × (Nat → Nat → Int32) × (Nat → Option Nat) × va_W × (Nat × Nat × Nat × Nat)) => y_RD u.1 u.2.2.1 u.2.2.2.2.2 ∧ u.2.1 = T ∧ u.2.2.2.1 = O ∧ m_fr [4, 5] I u.1 ∧ u.2.2.2.2.2.1 = ln ∧ u.2.2.2.2.2.2.2.1 = lm ∧ aa ≤ u.2.2.2.2.2.2.2.2 ∧ ((r = 0 ∧ ∀ b, y_L pl b ≠ none → b ≠ gg → y_L u.2.2.2.2.1 b = y_L pl b) ∨ (r = 1 ∧ ∃ ch va : Int32, (ch = -1 ∨ ∃ c9 : Nat, c9 < 6 ∧ ch = Int32.ofNat c9) ∧ y_L u.2.2.2.2.1 gg = some (.inr (9, [.ref cg, .int ch, .int va, .null, .null, .int 0])) ∧ ∀ b, b ≠ gg → y_L u.2.2.2.2.1 b = y_L pl b))) (fun u t => va_P (dC, dI) y_cl (y_W ad ar u.1 u.2.1 u.2.2.1 u.2.2.2.1 u.2.2.2.2.1) t.heap ∧ va_D (va_A (y_W ad ar I T A O pl) sz) (y_W ad ar u.1 u.2.1 u.2.2.1 u.2.2.2.1 u.2.2.2.2.1) ∧ True) (va_A (y_W ad ar I T A O pl) sz)) (0) (0) (va_A (y_W ad ar I T A O pl) sz) := by
  refine Met.ofW (cc := prog_8_method_20_code) (maxL := 3) (ret := (some .boolean)) (by decide) rfl ?_
  intro p e s m args below meth c s₁ B hml hv
  obtain ⟨rfl, hsz, hN0, hP, hU, hZ, hD0, hw0⟩ := hv
  have hK := hU.2.1
  have hx := B.exec
  have hb := B.bytes
  have hr := B.returns
  have hts : ∀ w ∈ x_T, w.before ([.ref (ad 1), .ref gg] : List Value).toArray s = true := fun w h => atoms_spec (ws := (Jvm.Cond.code ({ cls := "ChannelMachine$Reader", name := "guardInput", desc := "(LChannelMachine$Guard;)Z" } : Jvm.MethodName) prog_8_method_20_code (3 : Nat) (Option.some Jvm.ClassFile.FieldType.boolean)) :: x_T) B.pre w (List.mem_cons_of_mem _ h)
  have hown : s.vm.findClass "ChannelMachine$Reader" = some m.cls := findClass_of_methodNamed B.named
  have hlocks := B.notSynchronized
  subst hsz
  subst hw0
  have hD := hD0.self (sz := s.heap.size)
  have hAN := x_AN hD0 hN0
  generalize hAe : va_A (y_W ad ar I T A O pl) s.heap.size = Bq at hD hAN ⊢
  have hA : ∀ q : Nat, s.heap.size ≤ q → Bq q := fun q h => by rw [← hAe]; exact Or.inr h
  have hS : va_S Bq s.heap s.heap [] := va_S.rf
  have hl := lv_entry ([.ref (ad 1), .ref gg]) (n := 3) (Nat.le_of_ble_eq_true rfl)
  rw [lg_entry_eq]
  generalize (lg_sl ([.ref (ad 1), .ref gg]) ++ List.replicate (3 - (lg_sl ([.ref (ad 1), .ref gg])).length) Slot.unset).toArray = ls at hl ⊢
  have hl : lv_has ls 3 [(0, .ref (ad 1)), (1, .ref gg)] := hl
  have hbn := hmi.2.1
  dsimp only at hbn
  refine lv_aload_n hx hb d_Reader_guardInput_0 rfl (lv_at hl 0 rfl) ?_
  have hFc := y_free hD hS hA
  refine va_calli (va_runV (As := []) (rest := []) ⟨hx, hb, hml, hown, hts⟩ (c_Rd_look l dC dI ar N0 z ad I T A O pl ln cl lm aa s.heap.size (y_hs s.heap) hmi) (cwV 0 hts (x_goodV k_338 k_340 kp_3 k_2 k_341) rfl rfl rfl (by decide +kernel) ⟨Nat.le_of_ble_eq_true rfl, Nat.le_of_ble_eq_true rfl⟩) ⟨y_blind, va_recv hK hP (ci := 3) (q0 := 1) rfl (y_W_ob (by decide) (by decide)), fun U9 hU9 hW9 => y_pre hU9 hW9 hP hD hU hZ hS hAN hN0⟩ rfl rfl hl.1 rfl (lv_room (Nat.le_of_ble_eq_true rfl)) d_Reader_guardInput_1 ⟨(by show 0 + (0) ≤ 0; omega), (by show 0 + (0) ≤ 0; omega)⟩) hS (fun q _ h => hFc q h) hFc (fun r_1 u t H1 locs ht hvm hw hB hz1 hk1 hS => ?_)
  obtain ⟨I2, T2, A2, O2, pl2, q2, s2, cq2, cs2⟩ := u
  dsimp only at hw hB
  rw [ht] at hB
  obtain ⟨hP, hD1, hac2⟩ := hB
  have hD : va_D Bq (y_W ad ar I2 T2 A2 O2 pl2) := hD1.weaken (fun _ q _ h => hFc q.1 h)
  generalize H1 = H at hP hS hac2 ⊢
  have hae2 := hac2
  try unfold y_ac at hae2
  try dsimp only at hae2
  refine W.widen (k := 0) (n := 0) (by omega) (by omega) ?_
  obtain ⟨h9, hw⟩ := hw
  cases h9
  obtain rfl := hw
  refine lv_istore_n (lv' := [(2, .int (y_lk A lm aa)), (0, .ref (ad 1)), (1, .ref gg)]) hx hb d_Reader_guardInput_4 rfl hl (by decide) rfl (fun ls hl => ?_)
  refine lv_iload_n hx hb d_Reader_guardInput_5 rfl (lv_at hl 0 rfl) ?_
  refine lv_bipush (v := 46) hx hb d_Reader_guardInput_6 (by decide) ?_
  refine lv_icmp_ne (tgt := 23) hx hb d_Reader_guardInput_8 (by decide) (fun c3 => ?_) (fun c3 => ?_)
  · refine lv_aload_n hx hb d_Reader_guardInput_23 rfl (lv_at hl 2 rfl) ?_
    refine lv_iload_n hx hb d_Reader_guardInput_24 rfl (lv_at hl 0 rfl) ?_
    have hFc := y_free hD hS hA
    refine va_calli (va_runS (As := [.int (y_lk A lm aa)]) (rest := [.ref gg]) ⟨hx, hb, hml, hown, hts⟩ (c_Rd_channelOf l dC dI ar N0 z ad I T A O pl ((y_lk A lm aa)) H.size (y_hs H) ) (cwS 1 hts (x_goodS k_374 k_375 k_2 k_376) rfl rfl rfl (by decide +kernel) ⟨Nat.le_of_ble_eq_true rfl, Nat.le_of_ble_eq_true rfl⟩) ⟨y_blind, fun U9 hU9 hW9 => y_pre hU9 hW9 hP hD hU hZ hS hAN hN0⟩ rfl rfl hl.1 rfl (lv_room (Nat.le_of_ble_eq_true rfl)) d_Reader_guardInput_25 ⟨(by show 0 + (0) ≤ 0; omega), (by show 0 + (0) ≤ 0; omega)⟩) hS (fun q _ h => hFc q h) hFc (fun r_4 u t H1 locs ht hvm hw hB hz1 hk1 hS => ?_)
    obtain ⟨I5, T5, A5, O5, pl5, q5, s5, cq5, cs5⟩ := u
    dsimp only at hw hB
    rw [ht] at hB
    obtain ⟨hP, hD1, hac5⟩ := hB
    have hD : va_D Bq (y_W ad ar I5 T5 A5 O5 pl5) := hD1.weaken (fun _ q _ h => hFc q.1 h)
    generalize H1 = H at hP hS hac5 ⊢
    have hae5 := hac5
    try unfold y_ac at hae5
    try dsimp only at hae5
    refine W.widen (k := 0) (n := 0) (by omega) (by omega) ?_
    obtain ⟨h9, hw⟩ := hw
    cases h9
    obtain rfl := hw
    refine d_pN (C := "ChannelMachine$Guard") (F := F_Guard) (N := 6) hx hb hts i_Guard hown t_Guard t_Guard_ok n_Guard hK hP hD hS hf 1 rfl (by decide) (hU.1.2.1 _ kn_573) (fun _ h9 => h9) rfl (ty := .int) (v := .int (x_ch ((y_lk A lm aa)))) (by decide +kernel) rfl rfl (Nat.le_of_ble_eq_true rfl) d_Reader_guardInput_28 (fun pl6 H locs hL hP hD hS => ?_)
    have hf : y_L pl6 gg = some (.inr (9, [.ref cg, .int (x_ch ((y_lk A lm aa))), .int (-1), .null, .null, .int 0])) := by rw [hL]; exact y_Lu_s
    have hoth : ∀ b, b ≠ gg → y_L pl6 b = y_L pl b := fun b n0 => by rw [hL, y_Lu_n n0]
    clear hL
    refine lv_aload_n hx hb d_Reader_guardInput_31 rfl (lv_at hl 2 rfl) ?_
    refine d_gN (C := "ChannelMachine$Guard") (F := F_Guard) (N := 6) hx hb hts i_Guard hown hK hP hf 1 rfl (by decide) (hU.1.2.1 _ kn_573) (fun _ h9 => h9) (v := .int (x_ch ((y_lk A lm aa)))) rfl d_Reader_guardInput_32 ?_
    refine lv_iconst (v := (-1)) hx hb d_Reader_guardInput_35 (by decide) ?_
    refine lv_icmp_eq (tgt := 47) hx hb d_Reader_guardInput_36 (by decide) (fun c7 => ?_) (fun c7 => ?_)
    · refine lv_aload_n hx hb d_Reader_guardInput_47 rfl (lv_at hl 1 rfl) ?_
      have hFc := y_free hD hS hA
      refine va_calli (va_runV (As := []) (rest := []) ⟨hx, hb, hml, hown, hts⟩ (c_Rd_refuse l dC dI ar N0 z ad I T A O pl6 ln cl lm aa H.size (y_hs H) hmi) (cwV 0 hts (x_goodV k_477 k_479 kp_6 k_2 k_480) rfl rfl rfl (by decide +kernel) ⟨Nat.le_of_ble_eq_true rfl, Nat.le_of_ble_eq_true rfl⟩) ⟨y_blind, va_recv hK hP (ci := 3) (q0 := 1) rfl (y_W_ob (by decide) (by decide)), fun U9 hU9 hW9 => y_pre hU9 hW9 hP hD hU hZ hS hAN hN0⟩ rfl rfl hl.1 rfl (lv_room (Nat.le_of_ble_eq_true rfl)) d_Reader_guardInput_48 ⟨(by show 0 + (0) ≤ 0; omega), (by show 0 + (0) ≤ 0; omega)⟩) hS (fun q _ h => hFc q h) hFc (fun r_8 u t H1 locs ht hvm hw hB hz1 hk1 hS => ?_)
      obtain ⟨I9, T9, A9, O9, pl9, q9, s9, cq9, cs9⟩ := u
      dsimp only at hw hB
      rw [ht] at hB
      obtain ⟨hP, hD1, hac9⟩ := hB
      have hD : va_D Bq (y_W ad ar I9 T9 A9 O9 pl9) := hD1.weaken (fun _ q _ h => hFc q.1 h)
      generalize H1 = H at hP hS hac9 ⊢
      have hae9 := hac9
      try unfold y_ac at hae9
      try dsimp only at hae9
      refine W.widen (k := 0) (n := 0) (by omega) (by omega) ?_
      obtain ⟨hmi, e2, e4, e5, fr9, e6, e7, hge9, hcc9, hr9⟩ := hw
      rw [e2, e4, e5] at hP hD
      rw [e6, e7] at hmi
      have hP : va_P (dC, dI) y_cl (y_W ad ar I9 T A9 O pl6) H := hP
      have hD : va_D Bq (y_W ad ar I9 T A9 O pl6) := hD
      have hbn := hmi.2.1
      dsimp only at hbn
      obtain rfl := hr9
      refine y_know (fun hy91 hy92 hy93 hy94 => ?_)
      have hac9 : True := trivial
      refine W.widen (k := 0) (n := 0) (by omega) (by omega) ?_
      exact W.zret (v := 0) hx hb hr (rfl) (fun t ht hW => ⟨⟨0, (I9, T, A9, O, pl6, (ln, s9, lm, cs9)), rfl, ⟨hmi, rfl, rfl, (m_fr.rf.tr fr9 (by decide)), rfl, rfl, by dsimp only; omega, Or.inl ⟨rfl, fun b hb h2 => hoth b h2⟩⟩, (by dsimp only; rw [ht]; exact ⟨hP, hD, hac9⟩)⟩, hS.F ht⟩) hS.2.2 d_Reader_guardInput_51
    · refine lv_aload_n hx hb d_Reader_guardInput_39 rfl (lv_at hl 2 rfl) ?_
      refine d_gN (C := "ChannelMachine$Guard") (F := F_Guard) (N := 6) hx hb hts i_Guard hown hK hP hf 1 rfl (by decide) (hU.1.2.1 _ kn_573) (fun _ h9 => h9) (v := .int (x_ch ((y_lk A lm aa)))) rfl d_Reader_guardInput_40 ?_
      refine lv_iconst (v := 5) hx hb d_Reader_guardInput_43 (by decide) ?_
      refine lv_icmp_ne (tgt := 52) hx hb d_Reader_guardInput_44 (by decide) (fun c10 => ?_) (fun c10 => ?_)
      · have hck := (y_ch_ok _).resolve_left c7
        have hlt : aa < lm := y_lk_lt hck.1
        refine lv_aload_n hx hb d_Reader_guardInput_52 rfl (lv_at hl 1 rfl) ?_
        refine lv_dup hx hb d_Reader_guardInput_53 rfl ?_
        refine k_g (C := "ChannelMachine$Reader") (F := F_Reader) (N := 9) hx hb hts i_Reader hown hK hP 1 5 (by decide) (by decide) rfl (by decide) (d := (1, 4)) rfl (hts _ k_49) (fun _ h9 => h9) (v := .int (Int32.ofNat aa)) (congrArg Value.int hmi.1.2.2.2) d_Reader_guardInput_54 ?_
        refine lv_iconst (v := 1) hx hb d_Reader_guardInput_57 (by decide) ?_
        refine lv_iadd hx hb d_Reader_guardInput_58 ?_
        refine W.eq (g2 := F0 m 59 ls [.int (Int32.ofNat (aa + 1)), .ref (ad 1)]) (by rw [← x_addN (a := aa) (b := 1)] <;> rfl) ?_
        refine k_pi (C := "ChannelMachine$Reader") (F := F_Reader) (N := 9) hx hb hts i_Reader hown t_Reader t_Reader_ok n_Reader hK hP hD hS 1 5 (by decide) (by decide) rfl (by decide) (j := 4) (x := (Int32.ofNat (aa + 1))) rfl (hts _ k_49) (fun _ h9 => h9) rfl (by decide +kernel) d_Reader_guardInput_59 (fun H locs hP hD hS => ?_)
        have hmi : y_RD (upd I 4 (Int32.ofNat (aa + 1))) A (ln, cl, lm, (aa + 1)) := hmi.at4 (by omega)
        have hbn := hmi.2.1
        dsimp only at hbn
        refine lv_aload_n hx hb d_Reader_guardInput_62 rfl (lv_at hl 2 rfl) ?_
        refine lv_aload_n hx hb d_Reader_guardInput_63 rfl (lv_at hl 1 rfl) ?_
        have hFc := y_free hD hS hA
        refine va_calli (va_runV (As := []) (rest := [.ref gg]) ⟨hx, hb, hml, hown, hts⟩ (c_Rd_inputVariable l dC dI ar N0 z ad (upd I 4 (Int32.ofNat (aa + 1))) T A O pl6 ln cl lm ((aa + 1)) H.size (y_hs H) hmi) (cwV 0 hts (x_goodV k_546 k_548 kp_15 k_2 k_549) rfl rfl rfl (by decide +kernel) ⟨Nat.le_of_ble_eq_true rfl, Nat.le_of_ble_eq_true rfl⟩) ⟨y_blind, va_recv hK hP (ci := 3) (q0 := 1) rfl (y_W_ob (by decide) (by decide)), fun U9 hU9 hW9 => y_pre hU9 hW9 hP hD hU hZ hS hAN hN0⟩ rfl rfl hl.1 rfl (lv_room (Nat.le_of_ble_eq_true rfl)) d_Reader_guardInput_64 ⟨(by show 0 + (0) ≤ 0; omega), (by show 0 + (0) ≤ 0; omega)⟩) hS (fun q _ h => hFc q h) hFc (fun r_11 u t H1 locs ht hvm hw hB hz1 hk1 hS => ?_)
        obtain ⟨I12, T12, A12, O12, pl12, q12, s12, cq12, cs12⟩ := u
        dsimp only at hw hB
        rw [ht] at hB
        obtain ⟨hP, hD1, hac12⟩ := hB
        have hD : va_D Bq (y_W ad ar I12 T12 A12 O12 pl12) := hD1.weaken (fun _ q _ h => hFc q.1 h)
        generalize H1 = H at hP hS hac12 ⊢
        have hae12 := hac12
        try unfold y_ac at hae12
        try dsimp only at hae12
        refine W.widen (k := 0) (n := 0) (by omega) (by omega) ?_
        obtain ⟨hmi, e2, e4, e5, fr12, e6, e7, hge12, hcc12⟩ := hw
        rw [e2, e4, e5] at hP hD
        rw [e6, e7] at hmi
        have hP : va_P (dC, dI) y_cl (y_W ad ar I12 T A12 O pl6) H := hP
        have hD : va_D Bq (y_W ad ar I12 T A12 O pl6) := hD
        have hbn := hmi.2.1
        dsimp only at hbn
        refine d_pN (C := "ChannelMachine$Guard") (F := F_Guard) (N := 6) hx hb hts i_Guard hown t_Guard t_Guard_ok n_Guard hK hP hD hS hf 2 rfl (by decide) (hU.1.2.1 _ kn_576) (fun _ h9 => h9) rfl (ty := .int) (v := .int r_11) (by decide +kernel) rfl rfl (Nat.le_of_ble_eq_true rfl) d_Reader_guardInput_67 (fun pl13 H locs hL hP hD hS => ?_)
        have hf : y_L pl13 gg = some (.inr (9, [.ref cg, .int (x_ch ((y_lk A lm aa))), .int r_11, .null, .null, .int 0])) := by rw [hL]; exact y_Lu_s
        have hoth : ∀ b, b ≠ gg → y_L pl13 b = y_L pl b := fun b n0 => by rw [hL, y_Lu_n n0]; exact hoth b n0
        clear hL
        refine lv_aload_n hx hb d_Reader_guardInput_70 rfl (lv_at hl 2 rfl) ?_
        refine d_gN (C := "ChannelMachine$Guard") (F := F_Guard) (N := 6) hx hb hts i_Guard hown hK hP hf 2 rfl (by decide) (hU.1.2.1 _ kn_576) (fun _ h9 => h9) (v := .int r_11) rfl d_Reader_guardInput_71 ?_
        refine lv_iconst (v := (-1)) hx hb d_Reader_guardInput_74 (by decide) ?_
        refine lv_icmp_eq (tgt := 82) hx hb d_Reader_guardInput_75 (by decide) (fun c14 => ?_) (fun c14 => ?_)
        · refine lv_iconst (v := 0) hx hb d_Reader_guardInput_82 (by decide) ?_
          refine y_know (fun hy91 hy92 hy93 hy94 => ?_)
          have hac9 : True := trivial
          refine W.widen (k := 0) (n := 0) (by omega) (by omega) ?_
          exact W.zret (v := 0) hx hb hr (rfl) (fun t ht hW => ⟨⟨0, (I12, T, A12, O, pl13, (ln, s12, lm, cs12)), rfl, ⟨hmi, rfl, rfl, ((m_fr.rf.up (by decide) _).tr fr12 (by decide)), rfl, rfl, by dsimp only; omega, Or.inl ⟨rfl, fun b hb h2 => hoth b h2⟩⟩, (by dsimp only; rw [ht]; exact ⟨hP, hD, hac9⟩)⟩, hS.F ht⟩) hS.2.2 d_Reader_guardInput_83
        · refine lv_iconst (v := 1) hx hb d_Reader_guardInput_78 (by decide) ?_
          refine lv_goto (tgt := 83) hx hb d_Reader_guardInput_79 (by decide) ?_
          refine y_know (fun hy91 hy92 hy93 hy94 => ?_)
          have hac9 : True := trivial
          refine W.widen (k := 0) (n := 0) (by omega) (by omega) ?_
          exact W.zret (v := 1) hx hb hr (rfl) (fun t ht hW => ⟨⟨1, (I12, T, A12, O, pl13, (ln, s12, lm, cs12)), rfl, ⟨hmi, rfl, rfl, ((m_fr.rf.up (by decide) _).tr fr12 (by decide)), rfl, rfl, by dsimp only; omega, Or.inr ⟨rfl, (x_ch ((y_lk A lm aa))), r_11, Or.inr hck.2, hf, fun b h2 => hoth b h2⟩⟩, (by dsimp only; rw [ht]; exact ⟨hP, hD, hac9⟩)⟩, hS.F ht⟩) hS.2.2 d_Reader_guardInput_83
      · refine lv_aload_n hx hb d_Reader_guardInput_47 rfl (lv_at hl 1 rfl) ?_
        have hFc := y_free hD hS hA
        refine va_calli (va_runV (As := []) (rest := []) ⟨hx, hb, hml, hown, hts⟩ (c_Rd_refuse l dC dI ar N0 z ad I T A O pl6 ln cl lm aa H.size (y_hs H) hmi) (cwV 0 hts (x_goodV k_477 k_479 kp_6 k_2 k_480) rfl rfl rfl (by decide +kernel) ⟨Nat.le_of_ble_eq_true rfl, Nat.le_of_ble_eq_true rfl⟩) ⟨y_blind, va_recv hK hP (ci := 3) (q0 := 1) rfl (y_W_ob (by decide) (by decide)), fun U9 hU9 hW9 => y_pre hU9 hW9 hP hD hU hZ hS hAN hN0⟩ rfl rfl hl.1 rfl (lv_room (Nat.le_of_ble_eq_true rfl)) d_Reader_guardInput_48 ⟨(by show 0 + (0) ≤ 0; omega), (by show 0 + (0) ≤ 0; omega)⟩) hS (fun q _ h => hFc q h) hFc (fun r_15 u t H1 locs ht hvm hw hB hz1 hk1 hS => ?_)
        obtain ⟨I16, T16, A16, O16, pl16, q16, s16, cq16, cs16⟩ := u
        dsimp only at hw hB
        rw [ht] at hB
        obtain ⟨hP, hD1, hac16⟩ := hB
        have hD : va_D Bq (y_W ad ar I16 T16 A16 O16 pl16) := hD1.weaken (fun _ q _ h => hFc q.1 h)
        generalize H1 = H at hP hS hac16 ⊢
        have hae16 := hac16
        try unfold y_ac at hae16
        try dsimp only at hae16
        refine W.widen (k := 0) (n := 0) (by omega) (by omega) ?_
        obtain ⟨hmi, e2, e4, e5, fr16, e6, e7, hge16, hcc16, hr9⟩ := hw
        rw [e2, e4, e5] at hP hD
        rw [e6, e7] at hmi
        have hP : va_P (dC, dI) y_cl (y_W ad ar I16 T A16 O pl6) H := hP
        have hD : va_D Bq (y_W ad ar I16 T A16 O pl6) := hD
        have hbn := hmi.2.1
        dsimp only at hbn
        obtain rfl := hr9
        refine y_know (fun hy91 hy92 hy93 hy94 => ?_)
        have hac9 : True := trivial
        refine W.widen (k := 0) (n := 0) (by omega) (by omega) ?_
        exact W.zret (v := 0) hx hb hr (rfl) (fun t ht hW => ⟨⟨0, (I16, T, A16, O, pl6, (ln, s16, lm, cs16)), rfl, ⟨hmi, rfl, rfl, (m_fr.rf.tr fr16 (by decide)), rfl, rfl, by dsimp only; omega, Or.inl ⟨rfl, fun b hb h2 => hoth b h2⟩⟩, (by dsimp only; rw [ht]; exact ⟨hP, hD, hac9⟩)⟩, hS.F ht⟩) hS.2.2 d_Reader_guardInput_51
  · have hlt : aa < lm := y_lk_lt (by rw [c3]; decide)
    refine lv_aload_n hx hb d_Reader_guardInput_11 rfl (lv_at hl 1 rfl) ?_
    refine lv_dup hx hb d_Reader_guardInput_12 rfl ?_
    refine k_g (C := "ChannelMachine$Reader") (F := F_Reader) (N := 9) hx hb hts i_Reader hown hK hP 1 5 (by decide) (by decide) rfl (by decide) (d := (1, 4)) rfl (hts _ k_49) (fun _ h9 => h9) (v := .int (Int32.ofNat aa)) (congrArg Value.int hmi.1.2.2.2) d_Reader_guardInput_13 ?_
    refine lv_iconst (v := 1) hx hb d_Reader_guardInput_16 (by decide) ?_
    refine lv_iadd hx hb d_Reader_guardInput_17 ?_
    refine W.eq (g2 := F0 m 18 ls [.int (Int32.ofNat (aa + 1)), .ref (ad 1)]) (by rw [← x_addN (a := aa) (b := 1)] <;> rfl) ?_
    refine k_pi (C := "ChannelMachine$Reader") (F := F_Reader) (N := 9) hx hb hts i_Reader hown t_Reader t_Reader_ok n_Reader hK hP hD hS 1 5 (by decide) (by decide) rfl (by decide) (j := 4) (x := (Int32.ofNat (aa + 1))) rfl (hts _ k_49) (fun _ h9 => h9) rfl (by decide +kernel) d_Reader_guardInput_18 (fun H locs hP hD hS => ?_)
    have hmi : y_RD (upd I 4 (Int32.ofNat (aa + 1))) A (ln, cl, lm, (aa + 1)) := hmi.at4 (by omega)
    have hbn := hmi.2.1
    dsimp only at hbn
    refine lv_iconst (v := 1) hx hb d_Reader_guardInput_21 (by decide) ?_
    refine y_know (fun hy91 hy92 hy93 hy94 => ?_)
    have hac9 : True := trivial
    refine W.widen (k := 0) (n := 0) (by omega) (by omega) ?_
    exact W.zret (v := 1) hx hb hr (rfl) (fun t ht hW => ⟨⟨1, ((upd I 4 (Int32.ofNat (aa + 1))), T, A, O, pl, (ln, cl, lm, (aa + 1))), rfl, ⟨hmi, rfl, rfl, (m_fr.rf.up (by decide) _), rfl, rfl, by dsimp only; omega, Or.inr ⟨rfl, -1, -1, Or.inl rfl, hf, fun b _ => rfl⟩⟩, (by dsimp only; rw [ht]; exact ⟨hP, hD, hac9⟩)⟩, hS.F ht⟩) hS.2.2 d_Reader_guardInput_22
theorem y_m1le {a : Nat} (h : a < 2147483648) : (-1 : Int32) ≤ Int32.ofNat a := by
  have h0 : (-1 : Int32).toInt = -1 := by decide
  rw [x_le, x_nI h, h0]
  omega
set_option maxHeartbeats 4000000 in
set_option maxRecDepth 100000 in
theorem c_Rd_endOfLast (l : Launch) (dC : Nat → ClassId) (dI : Nat → Nat → Nat) (ar : Nat → ClassId) (N0 : Nat) (z : Nat → Nat) (ad : Nat → Nat) (I : Nat → Int32) (T : Int64) (A : Nat → Nat → Int32) (O : Nat → Option Nat) (pl : va_W) (ln cl lm aa : Nat) (gv : Int32) (sz w0 : Nat) (hmi : y_RD I A (ln, cl, lm, aa)) (hll : lm = ln) : Met l ({ cls := "ChannelMachine$Reader", name := "endOfLast", desc := "(Z)I" } : Jvm.MethodName) ((Jvm.Cond.code ({ cls := "ChannelMachine$Reader", name := "endOfLast", desc := "(Z)I" } : Jvm.MethodName) prog_8_method_23_code (6 : Nat) (Option.some Jvm.ClassFile.FieldType.int)) :: x_T) ({ frames := 32, cells := 0, slots := 0, locals := 1165 }) (y_Pc (dC, dI) ar N0 z (y_W ad ar I T A O pl) sz w0 [.ref (ad 1), .int gv]) (va_Qi (fun (r : Int32) (u : (Nat → Int32) × Int64 × (Nat → Nat → Int32) × (Nat → Option Nat) × va_W × (Nat × Nat × Nat × Nat)) => y_RD u.1 u.2.2.1 u.2.2.2.2.2 ∧ u.2.1 = T ∧ u.2.2.2.1 = O ∧ u.2.2.2.2.1 = pl ∧ m_fr [2, 3, 4, 5] I u.1 ∧ u.2.2.2.2.2.1 = ln ∧ u.2.2.2.2.2.2.2.1 = ln ∧ u.2.2.2.2.2.2.2.2 = aa ∧ ∃ en : Nat, aa ≤ en ∧ en ≤ ln ∧ r = Int32.ofNat en) (fun u t => va_P (dC, dI) y_cl (y_W ad ar u.1 u.2.1 u.2.2.1 u.2.2.2.1 u.2.2.2.2.1) t.heap ∧ va_D (va_A (y_W ad ar I T A O pl) sz) (y_W ad ar u.1 u.2.1 u.2.2.1 u.2.2.2.1 u.2.2.2.2.1) ∧ True) (va_A (y_W ad ar I T A O pl) sz)) (0) (0) (va_A (y_W ad ar I T A O pl) sz) := by
  refine Met.ofW (cc := prog_8_method_23_code) (maxL := 6) (ret := (some .int)) (by decide) rfl ?_
  intro p e s m args below meth c s₁ B hml hv
  obtain ⟨rfl, hsz, hN0, hP, hU, hZ, hD0, hw0⟩ := hv
  have hK := hU.2.1
  have hx := B.exec
  have hb := B.bytes
  have hr := B.returns
  have hts : ∀ w ∈ x_T, w.before ([.ref (ad 1), .int gv] : List Value).toArray s = true := fun w h => atoms_spec (ws := (Jvm.Cond.code ({ cls := "ChannelMachine$Reader", name := "endOfLast", desc := "(Z)I" } : Jvm.MethodName) prog_8_method_23_code (6 : Nat) (Option.some Jvm.ClassFile.FieldType.int)) :: x_T) B.pre w (List.mem_cons_of_mem _ h)
  have hown : s.vm.findClass "ChannelMachine$Reader" = some m.cls := findClass_of_methodNamed B.named
  have hlocks := B.notSynchronized
  subst hsz
  subst hw0
  have hD := hD0.self (sz := s.heap.size)
  have hAN := x_AN hD0 hN0
  generalize hAe : va_A (y_W ad ar I T A O pl) s.heap.size = Bq at hD hAN ⊢
  have hA : ∀ q : Nat, s.heap.size ≤ q → Bq q := fun q h => by rw [← hAe]; exact Or.inr h
  have hS : va_S Bq s.heap s.heap [] := va_S.rf
  have hl := lv_entry ([.ref (ad 1), .int gv]) (n := 6) (Nat.le_of_ble_eq_true rfl)
  rw [lg_entry_eq]
  generalize (lg_sl ([.ref (ad 1), .int gv]) ++ List.replicate (6 - (lg_sl ([.ref (ad 1), .int gv])).length) Slot.unset).toArray = ls at hl ⊢
  have hl : lv_has ls 6 [(0, .ref (ad 1)), (1, .int gv)] := hl
  have hbn := hmi.2.1
  dsimp only at hbn
  rw [hll] at hmi
  have hbn := hmi.2.1
  dsimp only at hbn
  refine lv_aload_n hx hb d_Reader_endOfLast_0 rfl (lv_at hl 0 rfl) ?_
  refine k_g (C := "ChannelMachine$Reader") (F := F_Reader) (N := 9) hx hb hts i_Reader hown hK hP 1 5 (by decide) (by decide) rfl (by decide) (d := (1, 4)) rfl (hts _ k_49) (fun _ h9 => h9) (v := .int (Int32.ofNat aa)) (congrArg Value.int hmi.1.2.2.2) d_Reader_endOfLast_1 ?_
  refine lv_istore_n (lv' := [(2, .int (Int32.ofNat aa)), (0, .ref (ad 1)), (1, .int gv)]) hx hb d_Reader_endOfLast_4 rfl hl (by decide) rfl (fun ls hl => ?_)
  refine lv_aload_n hx hb d_Reader_endOfLast_5 rfl (lv_at hl 1 rfl) ?_
  refine k_g (C := "ChannelMachine$Reader") (F := F_Reader) (N := 9) hx hb hts i_Reader hown hK hP 1 2 (by decide) (by decide) rfl (by decide) (d := (1, 1)) rfl (hts _ k_45) (fun _ h9 => h9) (v := .int (Int32.ofNat ln)) (congrArg Value.int hmi.1.1) d_Reader_endOfLast_6 ?_
  refine lv_istore_n (lv' := [(3, .int (Int32.ofNat ln)), (2, .int (Int32.ofNat aa)), (0, .ref (ad 1)), (1, .int gv)]) hx hb d_Reader_endOfLast_9 rfl hl (by decide) rfl (fun ls hl => ?_)
  refine lv_aload_n hx hb d_Reader_endOfLast_10 rfl (lv_at hl 2 rfl) ?_
  refine k_g (C := "ChannelMachine$Reader") (F := F_Reader) (N := 9) hx hb hts i_Reader hown hK hP 1 2 (by decide) (by decide) rfl (by decide) (d := (1, 1)) rfl (hts _ k_45) (fun _ h9 => h9) (v := .int (Int32.ofNat ln)) (congrArg Value.int hmi.1.1) d_Reader_endOfLast_11 ?_
  refine lv_iconst (v := 1) hx hb d_Reader_endOfLast_14 (by decide) ?_
  refine lv_isub hx hb d_Reader_endOfLast_15 ?_
  refine lv_istore (lv' := [(4, .int ((Int32.ofNat ln) - 1)), (3, .int (Int32.ofNat ln)), (2, .int (Int32.ofNat aa)), (0, .ref (ad 1)), (1, .int gv)]) hx hb d_Reader_endOfLast_16 hl (by decide) rfl (fun ls hl => ?_)
  refine x_while (fun n H locs ls => ∃ (I1 : Nat → Int32) (A1 : Nat → Nat → Int32) (cl1 a1 e1 k1 : Nat), n = k1 ∧ k1 ≤ ln ∧ (aa ≤ e1 ∧ e1 ≤ ln) ∧ y_RD I1 A1 (ln, cl1, ln, a1) ∧ m_fr [2, 3, 4, 5] I I1 ∧ va_P (dC, dI) y_cl (y_W ad ar I1 T A1 O pl) H ∧ va_D Bq (y_W ad ar I1 T A1 O pl) ∧ va_S Bq s.heap H locs ∧ lv_has ls 6 [(0, .ref (ad 1)), (1, .int gv), (2, .int (Int32.ofNat aa)), (3, .int (Int32.ofNat e1)), (4, .int (Int32.ofNat k1 - 1))]) (fun n ih H locs ls h9 => ?_) ⟨I, A, cl, aa, ln, ln, rfl, Nat.le_refl _, ⟨by omega, Nat.le_refl _⟩, hmi, m_fr.rf, hP, hD, hS, lv_sub hl [3, 4, 2, 1, 0] rfl⟩
  clear hP hD hS hl hmi hbn
  obtain ⟨I1, A1, cl1, a1, e1, k1, hn9, hk9, he9, hmi, hfr, hP, hD, hS, hl⟩ := h9
  have hbn := hmi.2.1
  dsimp only at hbn
  rcases k1 with _ | k
  · have e9 : Int32.ofNat 0 - 1 = -1 := by decide
    rw [e9] at hl
    refine lv_iload_n hx hb d_Reader_endOfLast_18 rfl (lv_at hl 1 rfl) ?_
    refine lv_if_eq (tgt := 108) hx hb d_Reader_endOfLast_19 (by decide) (fun c1 => ?_) (fun c1 => ?_)
    · refine lv_aload_n hx hb d_Reader_endOfLast_108 rfl (lv_at hl 0 rfl) ?_
      refine lv_iload_n hx hb d_Reader_endOfLast_109 rfl (lv_at hl 2 rfl) ?_
      refine k_pi (C := "ChannelMachine$Reader") (F := F_Reader) (N := 9) hx hb hts i_Reader hown t_Reader t_Reader_ok n_Reader hK hP hD hS 1 5 (by decide) (by decide) rfl (by decide) (j := 4) (x := (Int32.ofNat aa)) rfl (hts _ k_49) (fun _ h9 => h9) rfl (by decide +kernel) d_Reader_endOfLast_110 (fun H locs hP hD hS => ?_)
      have hmi : y_RD (upd I1 4 (Int32.ofNat aa)) A1 (ln, cl1, ln, aa) := hmi.at4 (by omega)
      have hbn := hmi.2.1
      dsimp only at hbn
      refine lv_iload_n hx hb d_Reader_endOfLast_113 rfl (lv_at hl 3 rfl) ?_
      refine y_know (fun hy91 hy92 hy93 hy94 => ?_)
      have hac9 : True := trivial
      refine W.widen (k := 0) (n := 0) (by omega) (by omega) ?_
      exact W.iret (v := (Int32.ofNat e1)) hx hb hr (fun t ht hW => ⟨⟨(Int32.ofNat e1), ((upd I1 4 (Int32.ofNat aa)), T, A1, O, pl, (ln, cl1, ln, aa)), rfl, ⟨hmi, rfl, rfl, rfl, (hfr.up (by decide) _), rfl, rfl, rfl, ⟨e1, by omega, by omega, rfl⟩⟩, (by dsimp only; rw [ht]; exact ⟨hP, hD, hac9⟩)⟩, hS.F ht⟩) hS.2.2 d_Reader_endOfLast_114
    · refine lv_iload hx hb d_Reader_endOfLast_22 (lv_at hl 4 rfl) ?_
      refine lv_iload_n hx hb d_Reader_endOfLast_24 rfl (lv_at hl 2 rfl) ?_
      refine lv_icmp_le (tgt := 108) hx hb d_Reader_endOfLast_25 (by decide) (fun _ => ?_) (fun h9 => absurd (y_m1le (by omega)) h9)
      refine lv_aload_n hx hb d_Reader_endOfLast_108 rfl (lv_at hl 0 rfl) ?_
      refine lv_iload_n hx hb d_Reader_endOfLast_109 rfl (lv_at hl 2 rfl) ?_
      refine k_pi (C := "ChannelMachine$Reader") (F := F_Reader) (N := 9) hx hb hts i_Reader hown t_Reader t_Reader_ok n_Reader hK hP hD hS 1 5 (by decide) (by decide) rfl (by decide) (j := 4) (x := (Int32.ofNat aa)) rfl (hts _ k_49) (fun _ h9 => h9) rfl (by decide +kernel) d_Reader_endOfLast_110 (fun H locs hP hD hS => ?_)
      have hmi : y_RD (upd I1 4 (Int32.ofNat aa)) A1 (ln, cl1, ln, aa) := hmi.at4 (by omega)
      have hbn := hmi.2.1
      dsimp only at hbn
      refine lv_iload_n hx hb d_Reader_endOfLast_113 rfl (lv_at hl 3 rfl) ?_
      refine y_know (fun hy91 hy92 hy93 hy94 => ?_)
      have hac9 : True := trivial
      refine W.widen (k := 0) (n := 0) (by omega) (by omega) ?_
      exact W.iret (v := (Int32.ofNat e1)) hx hb hr (fun t ht hW => ⟨⟨(Int32.ofNat e1), ((upd I1 4 (Int32.ofNat aa)), T, A1, O, pl, (ln, cl1, ln, aa)), rfl, ⟨hmi, rfl, rfl, rfl, (hfr.up (by decide) _), rfl, rfl, rfl, ⟨e1, by omega, by omega, rfl⟩⟩, (by dsimp only; rw [ht]; exact ⟨hP, hD, hac9⟩)⟩, hS.F ht⟩) hS.2.2 d_Reader_endOfLast_114
  · have e9 : Int32.ofNat (k + 1) - 1 = Int32.ofNat k := x_subN (a := k + 1) (b := 1) (by omega)
    rw [e9] at hl
    refine lv_iload_n hx hb d_Reader_endOfLast_18 rfl (lv_at hl 1 rfl) ?_
    refine lv_if_eq (tgt := 108) hx hb d_Reader_endOfLast_19 (by decide) (fun c2 => ?_) (fun c2 => ?_)
    · refine lv_aload_n hx hb d_Reader_endOfLast_108 rfl (lv_at hl 0 rfl) ?_
      refine lv_iload_n hx hb d_Reader_endOfLast_109 rfl (lv_at hl 2 rfl) ?_
      refine k_pi (C := "ChannelMachine$Reader") (F := F_Reader) (N := 9) hx hb hts i_Reader hown t_Reader t_Reader_ok n_Reader hK hP hD hS 1 5 (by decide) (by decide) rfl (by decide) (j := 4) (x := (Int32.ofNat aa)) rfl (hts _ k_49) (fun _ h9 => h9) rfl (by decide +kernel) d_Reader_endOfLast_110 (fun H locs hP hD hS => ?_)
      have hmi : y_RD (upd I1 4 (Int32.ofNat aa)) A1 (ln, cl1, ln, aa) := hmi.at4 (by omega)
      have hbn := hmi.2.1
      dsimp only at hbn
      refine lv_iload_n hx hb d_Reader_endOfLast_113 rfl (lv_at hl 3 rfl) ?_
      refine y_know (fun hy91 hy92 hy93 hy94 => ?_)
      have hac9 : True := trivial
      refine W.widen (k := 0) (n := 0) (by omega) (by omega) ?_
      exact W.iret (v := (Int32.ofNat e1)) hx hb hr (fun t ht hW => ⟨⟨(Int32.ofNat e1), ((upd I1 4 (Int32.ofNat aa)), T, A1, O, pl, (ln, cl1, ln, aa)), rfl, ⟨hmi, rfl, rfl, rfl, (hfr.up (by decide) _), rfl, rfl, rfl, ⟨e1, by omega, by omega, rfl⟩⟩, (by dsimp only; rw [ht]; exact ⟨hP, hD, hac9⟩)⟩, hS.F ht⟩) hS.2.2 d_Reader_endOfLast_114
    · refine lv_iload hx hb d_Reader_endOfLast_22 (lv_at hl 4 rfl) ?_
      refine lv_iload_n hx hb d_Reader_endOfLast_24 rfl (lv_at hl 2 rfl) ?_
      refine lv_icmp_le (tgt := 108) hx hb d_Reader_endOfLast_25 (by decide) (fun c_3 => ?_) (fun c_3 => ?_)
      · have c_3 : k ≤ aa := (x_leN (a := k) (b := aa) (by omega) (by omega)).mp c_3
        refine lv_aload_n hx hb d_Reader_endOfLast_108 rfl (lv_at hl 0 rfl) ?_
        refine lv_iload_n hx hb d_Reader_endOfLast_109 rfl (lv_at hl 2 rfl) ?_
        refine k_pi (C := "ChannelMachine$Reader") (F := F_Reader) (N := 9) hx hb hts i_Reader hown t_Reader t_Reader_ok n_Reader hK hP hD hS 1 5 (by decide) (by decide) rfl (by decide) (j := 4) (x := (Int32.ofNat aa)) rfl (hts _ k_49) (fun _ h9 => h9) rfl (by decide +kernel) d_Reader_endOfLast_110 (fun H locs hP hD hS => ?_)
        have hmi : y_RD (upd I1 4 (Int32.ofNat aa)) A1 (ln, cl1, ln, aa) := hmi.at4 (by omega)
        have hbn := hmi.2.1
        dsimp only at hbn
        refine lv_iload_n hx hb d_Reader_endOfLast_113 rfl (lv_at hl 3 rfl) ?_
        refine y_know (fun hy91 hy92 hy93 hy94 => ?_)
        have hac9 : True := trivial
        refine W.widen (k := 0) (n := 0) (by omega) (by omega) ?_
        exact W.iret (v := (Int32.ofNat e1)) hx hb hr (fun t ht hW => ⟨⟨(Int32.ofNat e1), ((upd I1 4 (Int32.ofNat aa)), T, A1, O, pl, (ln, cl1, ln, aa)), rfl, ⟨hmi, rfl, rfl, rfl, (hfr.up (by decide) _), rfl, rfl, rfl, ⟨e1, by omega, by omega, rfl⟩⟩, (by dsimp only; rw [ht]; exact ⟨hP, hD, hac9⟩)⟩, hS.F ht⟩) hS.2.2 d_Reader_endOfLast_114
      · have c_3 : ¬ k ≤ aa := fun h9 => c_3 ((x_leN (a := k) (b := aa) (by omega) (by omega)).mpr h9)
        refine lv_iload_n hx hb d_Reader_endOfLast_28 rfl (lv_at hl 3 rfl) ?_
        refine lv_aload_n hx hb d_Reader_endOfLast_29 rfl (lv_at hl 0 rfl) ?_
        refine k_g (C := "ChannelMachine$Reader") (F := F_Reader) (N := 9) hx hb hts i_Reader hown hK hP 1 2 (by decide) (by decide) rfl (by decide) (d := (1, 1)) rfl (hts _ k_45) (fun _ h9 => h9) (v := .int (Int32.ofNat ln)) (congrArg Value.int hmi.1.1) d_Reader_endOfLast_30 ?_
        refine lv_icmp_ne (tgt := 108) hx hb d_Reader_endOfLast_33 (by decide) (fun c_4 => ?_) (fun c_4 => ?_)
        · have c_4 : ¬ e1 = ln := fun h9 => c_4 ((x_eqN (a := e1) (b := ln) (by omega) (by omega)).mpr h9)
          refine lv_aload_n hx hb d_Reader_endOfLast_108 rfl (lv_at hl 0 rfl) ?_
          refine lv_iload_n hx hb d_Reader_endOfLast_109 rfl (lv_at hl 2 rfl) ?_
          refine k_pi (C := "ChannelMachine$Reader") (F := F_Reader) (N := 9) hx hb hts i_Reader hown t_Reader t_Reader_ok n_Reader hK hP hD hS 1 5 (by decide) (by decide) rfl (by decide) (j := 4) (x := (Int32.ofNat aa)) rfl (hts _ k_49) (fun _ h9 => h9) rfl (by decide +kernel) d_Reader_endOfLast_110 (fun H locs hP hD hS => ?_)
          have hmi : y_RD (upd I1 4 (Int32.ofNat aa)) A1 (ln, cl1, ln, aa) := hmi.at4 (by omega)
          have hbn := hmi.2.1
          dsimp only at hbn
          refine lv_iload_n hx hb d_Reader_endOfLast_113 rfl (lv_at hl 3 rfl) ?_
          refine y_know (fun hy91 hy92 hy93 hy94 => ?_)
          have hac9 : True := trivial
          refine W.widen (k := 0) (n := 0) (by omega) (by omega) ?_
          exact W.iret (v := (Int32.ofNat e1)) hx hb hr (fun t ht hW => ⟨⟨(Int32.ofNat e1), ((upd I1 4 (Int32.ofNat aa)), T, A1, O, pl, (ln, cl1, ln, aa)), rfl, ⟨hmi, rfl, rfl, rfl, (hfr.up (by decide) _), rfl, rfl, rfl, ⟨e1, by omega, by omega, rfl⟩⟩, (by dsimp only; rw [ht]; exact ⟨hP, hD, hac9⟩)⟩, hS.F ht⟩) hS.2.2 d_Reader_endOfLast_114
        · have c_4 : e1 = ln := (x_eqN (a := e1) (b := ln) (by omega) (by omega)).mp c_4
          refine lv_aload_n hx hb d_Reader_endOfLast_36 rfl (lv_at hl 0 rfl) ?_
          refine lv_iload_n hx hb d_Reader_endOfLast_37 rfl (lv_at hl 2 rfl) ?_
          refine k_pi (C := "ChannelMachine$Reader") (F := F_Reader) (N := 9) hx hb hts i_Reader hown t_Reader t_Reader_ok n_Reader hK hP hD hS 1 5 (by decide) (by decide) rfl (by decide) (j := 4) (x := (Int32.ofNat aa)) rfl (hts _ k_49) (fun _ h9 => h9) rfl (by decide +kernel) d_Reader_endOfLast_38 (fun H locs hP hD hS => ?_)
          have hmi : y_RD (upd I1 4 (Int32.ofNat aa)) A1 (ln, cl1, ln, aa) := hmi.at4 (by omega)
          have hbn := hmi.2.1
          dsimp only at hbn
          refine lv_aload_n hx hb d_Reader_endOfLast_41 rfl (lv_at hl 0 rfl) ?_
          refine lv_iload hx hb d_Reader_endOfLast_42 (lv_at hl 4 rfl) ?_
          refine k_pi (C := "ChannelMachine$Reader") (F := F_Reader) (N := 9) hx hb hts i_Reader hown t_Reader t_Reader_ok n_Reader hK hP hD hS 1 4 (by decide) (by decide) rfl (by decide) (j := 3) (x := (Int32.ofNat k)) rfl (hts _ k_48) (fun _ h9 => h9) rfl (by decide +kernel) d_Reader_endOfLast_44 (fun H locs hP hD hS => ?_)
          have hmi : y_RD (upd (upd I1 4 (Int32.ofNat aa)) 3 (Int32.ofNat k)) A1 (ln, cl1, k, aa) := hmi.lm3 (by omega) (by omega)
          have hbn := hmi.2.1
          dsimp only at hbn
          refine lv_aload_n hx hb d_Reader_endOfLast_47 rfl (lv_at hl 0 rfl) ?_
          have hFc := y_free hD hS hA
          refine va_calli (va_runV (As := []) (rest := []) ⟨hx, hb, hml, hown, hts⟩ (c_Rd_expression l dC dI ar N0 z ad (upd (upd I1 4 (Int32.ofNat aa)) 3 (Int32.ofNat k)) T A1 O pl ln cl1 k aa H.size (y_hs H) hmi) (cwV 0 hts (x_goodV k_500 k_502 kp_9 k_2 k_503) rfl rfl rfl (by decide +kernel) ⟨Nat.le_of_ble_eq_true rfl, Nat.le_of_ble_eq_true rfl⟩) ⟨y_blind, va_recv hK hP (ci := 3) (q0 := 1) rfl (y_W_ob (by decide) (by decide)), fun U9 hU9 hW9 => y_pre hU9 hW9 hP hD hU hZ hS hAN hN0⟩ rfl rfl hl.1 rfl (lv_room (Nat.le_of_ble_eq_true rfl)) d_Reader_endOfLast_48 ⟨(by show 0 + (0) ≤ 0; omega), (by show 0 + (0) ≤ 0; omega)⟩) hS (fun q _ h => hFc q h) hFc (fun r_5 u t H1 locs ht hvm hw hB hz1 hk1 hS => ?_)
          obtain ⟨I6, T6, A6, O6, pl6, q6, s6, cq6, cs6⟩ := u
          dsimp only at hw hB
          rw [ht] at hB
          obtain ⟨hP, hD1, hac6⟩ := hB
          have hD : va_D Bq (y_W ad ar I6 T6 A6 O6 pl6) := hD1.weaken (fun _ q _ h => hFc q.1 h)
          generalize H1 = H at hP hS hac6 ⊢
          have hae6 := hac6
          try unfold y_ac at hae6
          try dsimp only at hae6
          refine W.widen (k := 0) (n := 0) (by omega) (by omega) ?_
          obtain ⟨hmi, e2, e4, e5, fr6, e6, e7, hge6, hcc6, hcz, hr9⟩ := hw
          rw [e2, e4, e5] at hP hD
          rw [e6, e7] at hmi
          have hP : va_P (dC, dI) y_cl (y_W ad ar I6 T A6 O pl) H := hP
          have hD : va_D Bq (y_W ad ar I6 T A6 O pl) := hD
          have hbn := hmi.2.1
          dsimp only at hbn
          rcases hr9 with rfl | rfl
          · refine lv_if_eq (tgt := 67) hx hb d_Reader_endOfLast_51 (by decide) (fun _ => ?_) (fun c7 => absurd (by decide) c7)
            refine lv_iconst (v := 0) hx hb d_Reader_endOfLast_67 (by decide) ?_
            refine lv_istore (lv' := [(5, .int 0), (0, .ref (ad 1)), (1, .int gv), (2, .int (Int32.ofNat aa)), (3, .int (Int32.ofNat e1)), (4, .int (Int32.ofNat k))]) hx hb d_Reader_endOfLast_68 hl (by decide) rfl (fun ls hl => ?_)
            refine lv_aload_n hx hb d_Reader_endOfLast_70 rfl (lv_at hl 1 rfl) ?_
            refine lv_aload_n hx hb d_Reader_endOfLast_71 rfl (lv_at hl 1 rfl) ?_
            refine k_g (C := "ChannelMachine$Reader") (F := F_Reader) (N := 9) hx hb hts i_Reader hown hK hP 1 2 (by decide) (by decide) rfl (by decide) (d := (1, 1)) rfl (hts _ k_45) (fun _ h9 => h9) (v := .int (Int32.ofNat ln)) (congrArg Value.int hmi.1.1) d_Reader_endOfLast_72 ?_
            refine k_pi (C := "ChannelMachine$Reader") (F := F_Reader) (N := 9) hx hb hts i_Reader hown t_Reader t_Reader_ok n_Reader hK hP hD hS 1 4 (by decide) (by decide) rfl (by decide) (j := 3) (x := (Int32.ofNat ln)) rfl (hts _ k_48) (fun _ h9 => h9) rfl (by decide +kernel) d_Reader_endOfLast_75 (fun H locs hP hD hS => ?_)
            have hmi : y_RD (upd I6 3 (Int32.ofNat ln)) A6 (ln, s6, ln, cs6) := hmi.lm3 (by omega) (by omega)
            have hbn := hmi.2.1
            dsimp only at hbn
            refine lv_iload hx hb d_Reader_endOfLast_78 (lv_at hl 0 rfl) ?_
            refine lv_if_eq (tgt := 102) hx hb d_Reader_endOfLast_80 (by decide) (fun _ => ?_) (fun c8 => absurd (by decide) c8)
            refine lv_iinc (v := (Int32.ofNat k - 1)) (lv' := [(4, .int (Int32.ofNat k - 1)), (5, .int 0), (0, .ref (ad 1)), (1, .int gv), (2, .int (Int32.ofNat aa)), (3, .int (Int32.ofNat e1))]) hx hb d_Reader_endOfLast_102 hl (k := 5) rfl y_dec1 (by decide) rfl (fun ls hl => ?_)
            refine lv_goto (tgt := 18) hx hb d_Reader_endOfLast_105 (by decide) ?_
            exact ih k (by omega) H locs ls ⟨(upd I6 3 (Int32.ofNat ln)), A6, s6, cs6, e1, k, rfl, by omega, ⟨by omega, by omega⟩, hmi, ((((hfr.up (by decide) _).up (by decide) _).tr fr6 (by decide)).up (by decide) _), hP, hD, hS, lv_sub hl [2, 3, 4, 5, 0] rfl⟩
          · refine lv_if_eq (tgt := 67) hx hb d_Reader_endOfLast_51 (by decide) (fun c9 => absurd c9 (by decide)) (fun _ => ?_)
            refine lv_aload_n hx hb d_Reader_endOfLast_54 rfl (lv_at hl 0 rfl) ?_
            refine k_g (C := "ChannelMachine$Reader") (F := F_Reader) (N := 9) hx hb hts i_Reader hown hK hP 1 5 (by decide) (by decide) rfl (by decide) (d := (1, 4)) rfl (hts _ k_49) (fun _ h9 => h9) (v := .int (Int32.ofNat cs6)) (congrArg Value.int hmi.1.2.2.2) d_Reader_endOfLast_55 ?_
            refine lv_iload hx hb d_Reader_endOfLast_58 (lv_at hl 4 rfl) ?_
            refine lv_icmp_ne (tgt := 67) hx hb d_Reader_endOfLast_60 (by decide) (fun c_10 => ?_) (fun c_10 => ?_)
            · have c_10 : ¬ cs6 = k := fun h9 => c_10 ((x_eqN (a := cs6) (b := k) (by omega) (by omega)).mpr h9)
              refine lv_iconst (v := 0) hx hb d_Reader_endOfLast_67 (by decide) ?_
              refine lv_istore (lv' := [(5, .int 0), (0, .ref (ad 1)), (1, .int gv), (2, .int (Int32.ofNat aa)), (3, .int (Int32.ofNat e1)), (4, .int (Int32.ofNat k))]) hx hb d_Reader_endOfLast_68 hl (by decide) rfl (fun ls hl => ?_)
              refine lv_aload_n hx hb d_Reader_endOfLast_70 rfl (lv_at hl 1 rfl) ?_
              refine lv_aload_n hx hb d_Reader_endOfLast_71 rfl (lv_at hl 1 rfl) ?_
              refine k_g (C := "ChannelMachine$Reader") (F := F_Reader) (N := 9) hx hb hts i_Reader hown hK hP 1 2 (by decide) (by decide) rfl (by decide) (d := (1, 1)) rfl (hts _ k_45) (fun _ h9 => h9) (v := .int (Int32.ofNat ln)) (congrArg Value.int hmi.1.1) d_Reader_endOfLast_72 ?_
              refine k_pi (C := "ChannelMachine$Reader") (F := F_Reader) (N := 9) hx hb hts i_Reader hown t_Reader t_Reader_ok n_Reader hK hP hD hS 1 4 (by decide) (by decide) rfl (by decide) (j := 3) (x := (Int32.ofNat ln)) rfl (hts _ k_48) (fun _ h9 => h9) rfl (by decide +kernel) d_Reader_endOfLast_75 (fun H locs hP hD hS => ?_)
              have hmi : y_RD (upd I6 3 (Int32.ofNat ln)) A6 (ln, s6, ln, cs6) := hmi.lm3 (by omega) (by omega)
              have hbn := hmi.2.1
              dsimp only at hbn
              refine lv_iload hx hb d_Reader_endOfLast_78 (lv_at hl 0 rfl) ?_
              refine lv_if_eq (tgt := 102) hx hb d_Reader_endOfLast_80 (by decide) (fun _ => ?_) (fun c11 => absurd (by decide) c11)
              refine lv_iinc (v := (Int32.ofNat k - 1)) (lv' := [(4, .int (Int32.ofNat k - 1)), (5, .int 0), (0, .ref (ad 1)), (1, .int gv), (2, .int (Int32.ofNat aa)), (3, .int (Int32.ofNat e1))]) hx hb d_Reader_endOfLast_102 hl (k := 5) rfl y_dec1 (by decide) rfl (fun ls hl => ?_)
              refine lv_goto (tgt := 18) hx hb d_Reader_endOfLast_105 (by decide) ?_
              exact ih k (by omega) H locs ls ⟨(upd I6 3 (Int32.ofNat ln)), A6, s6, cs6, e1, k, rfl, by omega, ⟨by omega, by omega⟩, hmi, ((((hfr.up (by decide) _).up (by decide) _).tr fr6 (by decide)).up (by decide) _), hP, hD, hS, lv_sub hl [2, 3, 4, 5, 0] rfl⟩
            · have c_10 : cs6 = k := (x_eqN (a := cs6) (b := k) (by omega) (by omega)).mp c_10
              refine lv_iconst (v := 1) hx hb d_Reader_endOfLast_63 (by decide) ?_
              refine lv_goto (tgt := 68) hx hb d_Reader_endOfLast_64 (by decide) ?_
              refine lv_istore (lv' := [(5, .int 1), (0, .ref (ad 1)), (1, .int gv), (2, .int (Int32.ofNat aa)), (3, .int (Int32.ofNat e1)), (4, .int (Int32.ofNat k))]) hx hb d_Reader_endOfLast_68 hl (by decide) rfl (fun ls hl => ?_)
              refine lv_aload_n hx hb d_Reader_endOfLast_70 rfl (lv_at hl 1 rfl) ?_
              refine lv_aload_n hx hb d_Reader_endOfLast_71 rfl (lv_at hl 1 rfl) ?_
              refine k_g (C := "ChannelMachine$Reader") (F := F_Reader) (N := 9) hx hb hts i_Reader hown hK hP 1 2 (by decide) (by decide) rfl (by decide) (d := (1, 1)) rfl (hts _ k_45) (fun _ h9 => h9) (v := .int (Int32.ofNat ln)) (congrArg Value.int hmi.1.1) d_Reader_endOfLast_72 ?_
              refine k_pi (C := "ChannelMachine$Reader") (F := F_Reader) (N := 9) hx hb hts i_Reader hown t_Reader t_Reader_ok n_Reader hK hP hD hS 1 4 (by decide) (by decide) rfl (by decide) (j := 3) (x := (Int32.ofNat ln)) rfl (hts _ k_48) (fun _ h9 => h9) rfl (by decide +kernel) d_Reader_endOfLast_75 (fun H locs hP hD hS => ?_)
              have hmi : y_RD (upd I6 3 (Int32.ofNat ln)) A6 (ln, s6, ln, cs6) := hmi.lm3 (by omega) (by omega)
              have hbn := hmi.2.1
              dsimp only at hbn
              refine lv_iload hx hb d_Reader_endOfLast_78 (lv_at hl 0 rfl) ?_
              refine lv_if_eq (tgt := 102) hx hb d_Reader_endOfLast_80 (by decide) (fun c12 => absurd c12 (by decide)) (fun _ => ?_)
              refine lv_aload_n hx hb d_Reader_endOfLast_83 rfl (lv_at hl 1 rfl) ?_
              have hFc := y_free hD hS hA
              refine va_calli (va_runV (As := []) (rest := []) ⟨hx, hb, hml, hown, hts⟩ (c_Rd_expression l dC dI ar N0 z ad (upd I6 3 (Int32.ofNat ln)) T A6 O pl ln s6 ln cs6 H.size (y_hs H) hmi) (cwV 0 hts (x_goodV k_500 k_502 kp_9 k_2 k_503) rfl rfl rfl (by decide +kernel) ⟨Nat.le_of_ble_eq_true rfl, Nat.le_of_ble_eq_true rfl⟩) ⟨y_blind, va_recv hK hP (ci := 3) (q0 := 1) rfl (y_W_ob (by decide) (by decide)), fun U9 hU9 hW9 => y_pre hU9 hW9 hP hD hU hZ hS hAN hN0⟩ rfl rfl hl.1 rfl (lv_room (Nat.le_of_ble_eq_true rfl)) d_Reader_endOfLast_84 ⟨(by show 0 + (0) ≤ 0; omega), (by show 0 + (0) ≤ 0; omega)⟩) hS (fun q _ h => hFc q h) hFc (fun r_13 u t H1 locs ht hvm hw hB hz1 hk1 hS => ?_)
              obtain ⟨I14, T14, A14, O14, pl14, q14, s14, cq14, cs14⟩ := u
              dsimp only at hw hB
              rw [ht] at hB
              obtain ⟨hP, hD1, hac14⟩ := hB
              have hD : va_D Bq (y_W ad ar I14 T14 A14 O14 pl14) := hD1.weaken (fun _ q _ h => hFc q.1 h)
              generalize H1 = H at hP hS hac14 ⊢
              have hae14 := hac14
              try unfold y_ac at hae14
              try dsimp only at hae14
              refine W.widen (k := 0) (n := 0) (by omega) (by omega) ?_
              obtain ⟨hmi, e2, e4, e5, fr14, e6, e7, hge14, hcc14, hcz, hr9⟩ := hw
              rw [e2, e4, e5] at hP hD
              rw [e6, e7] at hmi
              have hP : va_P (dC, dI) y_cl (y_W ad ar I14 T A14 O pl) H := hP
              have hD : va_D Bq (y_W ad ar I14 T A14 O pl) := hD
              have hbn := hmi.2.1
              dsimp only at hbn
              rcases hr9 with rfl | rfl
              · refine lv_if_eq (tgt := 102) hx hb d_Reader_endOfLast_87 (by decide) (fun _ => ?_) (fun c15 => absurd (by decide) c15)
                refine lv_iinc (v := (Int32.ofNat k - 1)) (lv' := [(4, .int (Int32.ofNat k - 1)), (5, .int 1), (0, .ref (ad 1)), (1, .int gv), (2, .int (Int32.ofNat aa)), (3, .int (Int32.ofNat e1))]) hx hb d_Reader_endOfLast_102 hl (k := 5) rfl y_dec1 (by decide) rfl (fun ls hl => ?_)
                refine lv_goto (tgt := 18) hx hb d_Reader_endOfLast_105 (by decide) ?_
                exact ih k (by omega) H locs ls ⟨I14, A14, s14, cs14, e1, k, rfl, by omega, ⟨by omega, by omega⟩, hmi, (((((hfr.up (by decide) _).up (by decide) _).tr fr6 (by decide)).up (by decide) _).tr fr14 (by decide)), hP, hD, hS, lv_sub hl [2, 3, 4, 5, 0] rfl⟩
              · refine lv_if_eq (tgt := 102) hx hb d_Reader_endOfLast_87 (by decide) (fun c16 => absurd c16 (by decide)) (fun _ => ?_)
                refine lv_aload_n hx hb d_Reader_endOfLast_90 rfl (lv_at hl 1 rfl) ?_
                refine lv_bipush (v := 38) hx hb d_Reader_endOfLast_91 (by decide) ?_
                have hFc := y_free hD hS hA
                refine va_calli (va_runV (As := [.int 38]) (rest := []) ⟨hx, hb, hml, hown, hts⟩ (c_Rd_expect l dC dI ar N0 z ad I14 T A14 O pl ln s14 ln cs14 (38) H.size (y_hs H) hmi (by decide)) (cwV 1 hts (x_goodV k_492 k_494 kp_7 k_2 k_495) rfl rfl rfl (by decide +kernel) ⟨Nat.le_of_ble_eq_true rfl, Nat.le_of_ble_eq_true rfl⟩) ⟨y_blind, va_recv hK hP (ci := 3) (q0 := 1) rfl (y_W_ob (by decide) (by decide)), fun U9 hU9 hW9 => y_pre hU9 hW9 hP hD hU hZ hS hAN hN0⟩ rfl rfl hl.1 rfl (lv_room (Nat.le_of_ble_eq_true rfl)) d_Reader_endOfLast_93 ⟨(by show 0 + (0) ≤ 0; omega), (by show 0 + (0) ≤ 0; omega)⟩) hS (fun q _ h => hFc q h) hFc (fun r_17 u t H1 locs ht hvm hw hB hz1 hk1 hS => ?_)
                obtain ⟨I18, T18, A18, O18, pl18, q18, s18, cq18, cs18⟩ := u
                dsimp only at hw hB
                rw [ht] at hB
                obtain ⟨hP, hD1, hac18⟩ := hB
                have hD : va_D Bq (y_W ad ar I18 T18 A18 O18 pl18) := hD1.weaken (fun _ q _ h => hFc q.1 h)
                generalize H1 = H at hP hS hac18 ⊢
                have hae18 := hac18
                try unfold y_ac at hae18
                try dsimp only at hae18
                refine W.widen (k := 0) (n := 0) (by omega) (by omega) ?_
                obtain ⟨hmi, e2, e4, e5, fr18, e6, e7, hge18, hcc18, hr9⟩ := hw
                rw [e2, e4, e5] at hP hD
                rw [e6, e7] at hmi
                have hP : va_P (dC, dI) y_cl (y_W ad ar I18 T A18 O pl) H := hP
                have hD : va_D Bq (y_W ad ar I18 T A18 O pl) := hD
                have hbn := hmi.2.1
                dsimp only at hbn
                rcases hr9 with rfl | ⟨rfl, hex19⟩
                · refine lv_if_eq (tgt := 102) hx hb d_Reader_endOfLast_96 (by decide) (fun _ => ?_) (fun c20 => absurd (by decide) c20)
                  refine lv_iinc (v := (Int32.ofNat k - 1)) (lv' := [(4, .int (Int32.ofNat k - 1)), (5, .int 1), (0, .ref (ad 1)), (1, .int gv), (2, .int (Int32.ofNat aa)), (3, .int (Int32.ofNat e1))]) hx hb d_Reader_endOfLast_102 hl (k := 5) rfl y_dec1 (by decide) rfl (fun ls hl => ?_)
                  refine lv_goto (tgt := 18) hx hb d_Reader_endOfLast_105 (by decide) ?_
                  exact ih k (by omega) H locs ls ⟨I18, A18, s18, cs18, e1, k, rfl, by omega, ⟨by omega, by omega⟩, hmi, ((((((hfr.up (by decide) _).up (by decide) _).tr fr6 (by decide)).up (by decide) _).tr fr14 (by decide)).tr fr18 (by decide)), hP, hD, hS, lv_sub hl [2, 3, 4, 5, 0] rfl⟩
                · refine lv_if_eq (tgt := 102) hx hb d_Reader_endOfLast_96 (by decide) (fun c21 => absurd c21 (by decide)) (fun _ => ?_)
                  refine lv_iload hx hb d_Reader_endOfLast_99 (lv_at hl 5 rfl) ?_
                  refine lv_istore_n (lv' := [(3, .int (Int32.ofNat k)), (5, .int 1), (0, .ref (ad 1)), (1, .int gv), (2, .int (Int32.ofNat aa)), (4, .int (Int32.ofNat k))]) hx hb d_Reader_endOfLast_101 rfl hl (by decide) rfl (fun ls hl => ?_)
                  refine lv_iinc (v := (Int32.ofNat k - 1)) (lv' := [(4, .int (Int32.ofNat k - 1)), (3, .int (Int32.ofNat k)), (5, .int 1), (0, .ref (ad 1)), (1, .int gv), (2, .int (Int32.ofNat aa))]) hx hb d_Reader_endOfLast_102 hl (k := 5) rfl y_dec1 (by decide) rfl (fun ls hl => ?_)
                  refine lv_goto (tgt := 18) hx hb d_Reader_endOfLast_105 (by decide) ?_
                  exact ih k (by omega) H locs ls ⟨I18, A18, s18, cs18, k, k, rfl, by omega, ⟨by omega, by omega⟩, hmi, ((((((hfr.up (by decide) _).up (by decide) _).tr fr6 (by decide)).up (by decide) _).tr fr14 (by decide)).tr fr18 (by decide)), hP, hD, hS, lv_sub hl [3, 4, 5, 1, 0] rfl⟩
