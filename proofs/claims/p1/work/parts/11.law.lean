-- ===== 11.law: the law's helpers, by program =====
theorem k_1 : (Jvm.Cond.initialized "ChannelMachine") ∈ x_T := x_at 1 (by decide +kernel) (by decide +kernel)
theorem k_221 : (Jvm.Cond.classLink "ChannelMachineLaw" (13 : Nat) "java/lang/IllegalArgumentException") ∈ x_T := x_at 221 (by decide +kernel) (by decide +kernel)
theorem k_222 : (Jvm.Cond.classLink "ChannelMachineLaw" (15 : Nat) "java/lang/IllegalStateException") ∈ x_T := x_at 222 (by decide +kernel) (by decide +kernel)
theorem k_709 : (Jvm.Cond.codeWith ({ cls := "ChannelMachineLaw", name := "run", desc := "(LChannelMachine;I[J)I" } : Jvm.MethodName) method_5_code (4 : Nat) (Option.some Jvm.ClassFile.FieldType.int) [((0 : Nat), (9 : Nat), (12 : Nat), (13 : Nat)), ((0 : Nat), (9 : Nat), (15 : Nat), (15 : Nat)), ((0 : Nat), (9 : Nat), (18 : Nat), (25 : Nat))]) ∈ x_T := x_at 709 (by decide +kernel) (by decide +kernel)
theorem k_711 : (Jvm.Cond.methodLink "ChannelMachineLaw" (21 : Nat) ({ cls := "ChannelMachine", name := "run", desc := "(I)I" } : Jvm.MethodName)) ∈ x_T := x_at 711 (by decide +kernel) (by decide +kernel)
theorem k_712 : (Jvm.Cond.instanceMethod ({ cls := "ChannelMachine", name := "run", desc := "(I)I" } : Jvm.MethodName)) ∈ x_T := x_at 712 (by decide +kernel) (by decide +kernel)
theorem k_713 : (Jvm.Cond.selects "ChannelMachine" ({ cls := "ChannelMachine", name := "run", desc := "(I)I" } : Jvm.MethodName) ({ cls := "ChannelMachine", name := "run", desc := "(I)I" } : Jvm.MethodName)) ∈ x_T := x_at 713 (by decide +kernel) (by decide +kernel)
theorem k_714 : (Jvm.Cond.code ({ cls := "ChannelMachine", name := "run", desc := "(I)I" } : Jvm.MethodName) prog_1_method_5_code (2 : Nat) (Option.some Jvm.ClassFile.FieldType.int)) ∈ x_T := x_at 714 (by decide +kernel) (by decide +kernel)
theorem k_899 : (Jvm.Cond.codeWith ({ cls := "ChannelMachineLaw", name := "give", desc := "(LChannelMachine;I[J)I" } : Jvm.MethodName) method_6_code (4 : Nat) (Option.some Jvm.ClassFile.FieldType.int) [((0 : Nat), (9 : Nat), (12 : Nat), (15 : Nat))]) ∈ x_T := x_at 899 (by decide +kernel) (by decide +kernel)
theorem k_900 : (Jvm.Cond.methodLink "ChannelMachineLaw" (27 : Nat) ({ cls := "ChannelMachine", name := "give", desc := "(I)I" } : Jvm.MethodName)) ∈ x_T := x_at 900 (by decide +kernel) (by decide +kernel)
theorem k_901 : (Jvm.Cond.instanceMethod ({ cls := "ChannelMachine", name := "give", desc := "(I)I" } : Jvm.MethodName)) ∈ x_T := x_at 901 (by decide +kernel) (by decide +kernel)
theorem k_902 : (Jvm.Cond.selects "ChannelMachine" ({ cls := "ChannelMachine", name := "give", desc := "(I)I" } : Jvm.MethodName) ({ cls := "ChannelMachine", name := "give", desc := "(I)I" } : Jvm.MethodName)) ∈ x_T := x_at 902 (by decide +kernel) (by decide +kernel)
theorem k_903 : (Jvm.Cond.code ({ cls := "ChannelMachine", name := "give", desc := "(I)I" } : Jvm.MethodName) prog_1_method_6_code (2 : Nat) (Option.some Jvm.ClassFile.FieldType.int)) ∈ x_T := x_at 903 (by decide +kernel) (by decide +kernel)
theorem k_940 : (Jvm.Cond.codeWith ({ cls := "ChannelMachineLaw", name := "variable", desc := "(LChannelMachine;I[J)I" } : Jvm.MethodName) method_8_code (4 : Nat) (Option.some Jvm.ClassFile.FieldType.int) [((0 : Nat), (9 : Nat), (12 : Nat), (13 : Nat))]) ∈ x_T := x_at 940 (by decide +kernel) (by decide +kernel)
theorem k_941 : (Jvm.Cond.methodLink "ChannelMachineLaw" (35 : Nat) ({ cls := "ChannelMachine", name := "variable", desc := "(I)I" } : Jvm.MethodName)) ∈ x_T := x_at 941 (by decide +kernel) (by decide +kernel)
theorem k_942 : (Jvm.Cond.instanceMethod ({ cls := "ChannelMachine", name := "variable", desc := "(I)I" } : Jvm.MethodName)) ∈ x_T := x_at 942 (by decide +kernel) (by decide +kernel)
theorem k_943 : (Jvm.Cond.selects "ChannelMachine" ({ cls := "ChannelMachine", name := "variable", desc := "(I)I" } : Jvm.MethodName) ({ cls := "ChannelMachine", name := "variable", desc := "(I)I" } : Jvm.MethodName)) ∈ x_T := x_at 943 (by decide +kernel) (by decide +kernel)
theorem k_944 : (Jvm.Cond.code ({ cls := "ChannelMachine", name := "variable", desc := "(I)I" } : Jvm.MethodName) prog_1_method_8_code (2 : Nat) (Option.some Jvm.ClassFile.FieldType.int)) ∈ x_T := x_at 944 (by decide +kernel) (by decide +kernel)
theorem k_948 : (Jvm.Cond.codeWith ({ cls := "ChannelMachineLaw", name := "set", desc := "(LChannelMachine;II)I" } : Jvm.MethodName) method_9_code (4 : Nat) (Option.some Jvm.ClassFile.FieldType.int) [((0 : Nat), (6 : Nat), (9 : Nat), (13 : Nat))]) ∈ x_T := x_at 948 (by decide +kernel) (by decide +kernel)
theorem k_949 : (Jvm.Cond.methodLink "ChannelMachineLaw" (38 : Nat) ({ cls := "ChannelMachine", name := "set", desc := "(II)V" } : Jvm.MethodName)) ∈ x_T := x_at 949 (by decide +kernel) (by decide +kernel)
theorem k_950 : (Jvm.Cond.instanceMethod ({ cls := "ChannelMachine", name := "set", desc := "(II)V" } : Jvm.MethodName)) ∈ x_T := x_at 950 (by decide +kernel) (by decide +kernel)
theorem k_951 : (Jvm.Cond.selects "ChannelMachine" ({ cls := "ChannelMachine", name := "set", desc := "(II)V" } : Jvm.MethodName) ({ cls := "ChannelMachine", name := "set", desc := "(II)V" } : Jvm.MethodName)) ∈ x_T := x_at 951 (by decide +kernel) (by decide +kernel)
theorem k_952 : (Jvm.Cond.code ({ cls := "ChannelMachine", name := "set", desc := "(II)V" } : Jvm.MethodName) prog_1_method_9_code (3 : Nat) (Option.none : Option Jvm.ClassFile.FieldType)) ∈ x_T := x_at 952 (by decide +kernel) (by decide +kernel)
theorem k_955 : (Jvm.Cond.codeWith ({ cls := "ChannelMachineLaw", name := "channel", desc := "(LChannelMachine;I[J)I" } : Jvm.MethodName) method_10_code (4 : Nat) (Option.some Jvm.ClassFile.FieldType.int) [((0 : Nat), (9 : Nat), (12 : Nat), (13 : Nat))]) ∈ x_T := x_at 955 (by decide +kernel) (by decide +kernel)
theorem k_956 : (Jvm.Cond.methodLink "ChannelMachineLaw" (42 : Nat) ({ cls := "ChannelMachine", name := "channel", desc := "(I)I" } : Jvm.MethodName)) ∈ x_T := x_at 956 (by decide +kernel) (by decide +kernel)
theorem k_957 : (Jvm.Cond.instanceMethod ({ cls := "ChannelMachine", name := "channel", desc := "(I)I" } : Jvm.MethodName)) ∈ x_T := x_at 957 (by decide +kernel) (by decide +kernel)
theorem k_958 : (Jvm.Cond.selects "ChannelMachine" ({ cls := "ChannelMachine", name := "channel", desc := "(I)I" } : Jvm.MethodName) ({ cls := "ChannelMachine", name := "channel", desc := "(I)I" } : Jvm.MethodName)) ∈ x_T := x_at 958 (by decide +kernel) (by decide +kernel)
theorem k_959 : (Jvm.Cond.code ({ cls := "ChannelMachine", name := "channel", desc := "(I)I" } : Jvm.MethodName) prog_1_method_10_code (3 : Nat) (Option.some Jvm.ClassFile.FieldType.int)) ∈ x_T := x_at 959 (by decide +kernel) (by decide +kernel)
theorem kn_133 : (Jvm.Cond.fieldLinkNest "ChannelMachine" (139 : Nat) "ChannelMachine$Channel" "sender" "LChannelMachine$Task;" "ChannelMachine") ∈ x_nest := x_nest_at 133 (by decide +kernel) (by decide +kernel)
theorem kn_136 : (Jvm.Cond.fieldLinkNest "ChannelMachine" (134 : Nat) "ChannelMachine$Channel" "receiver" "LChannelMachine$Task;" "ChannelMachine") ∈ x_nest := x_nest_at 136 (by decide +kernel) (by decide +kernel)
theorem kn_153 : (Jvm.Cond.fieldLinkNest "ChannelMachine" (130 : Nat) "ChannelMachine$Machine" "channels" "[LChannelMachine$Channel;" "ChannelMachine") ∈ x_nest := x_nest_at 153 (by decide +kernel) (by decide +kernel)
theorem kn_232 : (Jvm.Cond.castable "java/lang/IllegalArgumentException" "java/lang/IllegalArgumentException") ∈ x_nest := x_nest_at 232 (by decide +kernel) (by decide +kernel)
theorem kn_301 : (Jvm.Cond.castable "java/lang/IllegalStateException" "java/lang/IllegalStateException") ∈ x_nest := x_nest_at 301 (by decide +kernel) (by decide +kernel)
theorem d_La_variable_0 : decode method_8_code 0 = .ok (.aload_n 2, 1) := by decide +kernel
theorem d_La_variable_1 : decode method_8_code 1 = .ok (.iconst 0, 1) := by decide +kernel
theorem d_La_variable_2 : decode method_8_code 2 = .ok (.aload_n 0, 1) := by decide +kernel
theorem d_La_variable_3 : decode method_8_code 3 = .ok (.iload_n 1, 1) := by decide +kernel
theorem d_La_variable_4 : decode method_8_code 4 = .ok (.invokevirtual 35, 3) := by decide +kernel
theorem d_La_variable_7 : decode method_8_code 7 = .ok (.i2l, 1) := by decide +kernel
theorem d_La_variable_8 : decode method_8_code 8 = .ok (.lastore, 1) := by decide +kernel
theorem d_La_variable_9 : decode method_8_code 9 = .ok (.goto 6, 3) := by decide +kernel
theorem d_La_variable_12 : decode method_8_code 12 = .ok (.astore_n 3, 1) := by decide +kernel
theorem d_La_variable_13 : decode method_8_code 13 = .ok (.iconst 1, 1) := by decide +kernel
theorem d_La_variable_14 : decode method_8_code 14 = .ok (.ireturn, 1) := by decide +kernel
theorem d_La_variable_15 : decode method_8_code 15 = .ok (.iconst 0, 1) := by decide +kernel
theorem d_La_variable_16 : decode method_8_code 16 = .ok (.ireturn, 1) := by decide +kernel
theorem d_La_set_0 : decode method_9_code 0 = .ok (.aload_n 0, 1) := by decide +kernel
theorem d_La_set_1 : decode method_9_code 1 = .ok (.iload_n 1, 1) := by decide +kernel
theorem d_La_set_2 : decode method_9_code 2 = .ok (.iload_n 2, 1) := by decide +kernel
theorem d_La_set_3 : decode method_9_code 3 = .ok (.invokevirtual 38, 3) := by decide +kernel
theorem d_La_set_6 : decode method_9_code 6 = .ok (.goto 6, 3) := by decide +kernel
theorem d_La_set_9 : decode method_9_code 9 = .ok (.astore_n 3, 1) := by decide +kernel
theorem d_La_set_10 : decode method_9_code 10 = .ok (.iconst 1, 1) := by decide +kernel
theorem d_La_set_11 : decode method_9_code 11 = .ok (.ireturn, 1) := by decide +kernel
theorem d_La_set_12 : decode method_9_code 12 = .ok (.iconst 0, 1) := by decide +kernel
theorem d_La_set_13 : decode method_9_code 13 = .ok (.ireturn, 1) := by decide +kernel
theorem d_La_give_0 : decode method_6_code 0 = .ok (.aload_n 2, 1) := by decide +kernel
theorem d_La_give_1 : decode method_6_code 1 = .ok (.iconst 0, 1) := by decide +kernel
theorem d_La_give_2 : decode method_6_code 2 = .ok (.aload_n 0, 1) := by decide +kernel
theorem d_La_give_3 : decode method_6_code 3 = .ok (.iload_n 1, 1) := by decide +kernel
theorem d_La_give_4 : decode method_6_code 4 = .ok (.invokevirtual 27, 3) := by decide +kernel
theorem d_La_give_7 : decode method_6_code 7 = .ok (.i2l, 1) := by decide +kernel
theorem d_La_give_8 : decode method_6_code 8 = .ok (.lastore, 1) := by decide +kernel
theorem d_La_give_9 : decode method_6_code 9 = .ok (.goto 6, 3) := by decide +kernel
theorem d_La_give_12 : decode method_6_code 12 = .ok (.astore_n 3, 1) := by decide +kernel
theorem d_La_give_13 : decode method_6_code 13 = .ok (.iconst 1, 1) := by decide +kernel
theorem d_La_give_14 : decode method_6_code 14 = .ok (.ireturn, 1) := by decide +kernel
theorem d_La_give_15 : decode method_6_code 15 = .ok (.iconst 0, 1) := by decide +kernel
theorem d_La_give_16 : decode method_6_code 16 = .ok (.ireturn, 1) := by decide +kernel
theorem d_La_run_0 : decode method_5_code 0 = .ok (.aload_n 2, 1) := by decide +kernel
theorem d_La_run_1 : decode method_5_code 1 = .ok (.iconst 0, 1) := by decide +kernel
theorem d_La_run_2 : decode method_5_code 2 = .ok (.aload_n 0, 1) := by decide +kernel
theorem d_La_run_3 : decode method_5_code 3 = .ok (.iload_n 1, 1) := by decide +kernel
theorem d_La_run_4 : decode method_5_code 4 = .ok (.invokevirtual 21, 3) := by decide +kernel
theorem d_La_run_7 : decode method_5_code 7 = .ok (.i2l, 1) := by decide +kernel
theorem d_La_run_8 : decode method_5_code 8 = .ok (.lastore, 1) := by decide +kernel
theorem d_La_run_9 : decode method_5_code 9 = .ok (.goto 12, 3) := by decide +kernel
theorem d_La_run_12 : decode method_5_code 12 = .ok (.astore_n 3, 1) := by decide +kernel
theorem d_La_run_13 : decode method_5_code 13 = .ok (.iconst 1, 1) := by decide +kernel
theorem d_La_run_14 : decode method_5_code 14 = .ok (.ireturn, 1) := by decide +kernel
theorem d_La_run_15 : decode method_5_code 15 = .ok (.astore_n 3, 1) := by decide +kernel
theorem d_La_run_16 : decode method_5_code 16 = .ok (.iconst 2, 1) := by decide +kernel
theorem d_La_run_17 : decode method_5_code 17 = .ok (.ireturn, 1) := by decide +kernel
theorem d_La_run_18 : decode method_5_code 18 = .ok (.astore_n 3, 1) := by decide +kernel
theorem d_La_run_19 : decode method_5_code 19 = .ok (.iconst 3, 1) := by decide +kernel
theorem d_La_run_20 : decode method_5_code 20 = .ok (.ireturn, 1) := by decide +kernel
theorem d_La_run_21 : decode method_5_code 21 = .ok (.iconst 0, 1) := by decide +kernel
theorem d_La_run_22 : decode method_5_code 22 = .ok (.ireturn, 1) := by decide +kernel
theorem d_CM_channel_0 : decode prog_1_method_10_code 0 = .ok (.iload_n 1, 1) := by decide +kernel
theorem d_CM_channel_1 : decode prog_1_method_10_code 1 = .ok (.ifCond .lt 9, 3) := by decide +kernel
theorem d_CM_channel_4 : decode prog_1_method_10_code 4 = .ok (.iload_n 1, 1) := by decide +kernel
theorem d_CM_channel_5 : decode prog_1_method_10_code 5 = .ok (.bipush 6, 2) := by decide +kernel
theorem d_CM_channel_7 : decode prog_1_method_10_code 7 = .ok (.if_icmp .lt 13, 3) := by decide +kernel
theorem d_CM_channel_10 : decode prog_1_method_10_code 10 = .ok (.new 31, 3) := by decide +kernel
theorem d_CM_channel_13 : decode prog_1_method_10_code 13 = .ok (.dup, 1) := by decide +kernel
theorem d_CM_channel_14 : decode prog_1_method_10_code 14 = .ok (.ldc 128, 2) := by decide +kernel
theorem d_CM_channel_16 : decode prog_1_method_10_code 16 = .ok (.invokespecial 35, 3) := by decide +kernel
theorem d_CM_channel_19 : decode prog_1_method_10_code 19 = .ok (.athrow, 1) := by decide +kernel
theorem d_CM_channel_20 : decode prog_1_method_10_code 20 = .ok (.aload_n 0, 1) := by decide +kernel
theorem d_CM_channel_21 : decode prog_1_method_10_code 21 = .ok (.getfield 19, 3) := by decide +kernel
theorem d_CM_channel_24 : decode prog_1_method_10_code 24 = .ok (.getfield 130, 3) := by decide +kernel
theorem d_CM_channel_27 : decode prog_1_method_10_code 27 = .ok (.iload_n 1, 1) := by decide +kernel
theorem d_CM_channel_28 : decode prog_1_method_10_code 28 = .ok (.aaload, 1) := by decide +kernel
theorem d_CM_channel_29 : decode prog_1_method_10_code 29 = .ok (.astore_n 2, 1) := by decide +kernel
theorem d_CM_channel_30 : decode prog_1_method_10_code 30 = .ok (.aload_n 2, 1) := by decide +kernel
theorem d_CM_channel_31 : decode prog_1_method_10_code 31 = .ok (.getfield 134, 3) := by decide +kernel
theorem d_CM_channel_34 : decode prog_1_method_10_code 34 = .ok (.ifnull 5, 3) := by decide +kernel
theorem d_CM_channel_37 : decode prog_1_method_10_code 37 = .ok (.iconst 1, 1) := by decide +kernel
theorem d_CM_channel_38 : decode prog_1_method_10_code 38 = .ok (.ireturn, 1) := by decide +kernel
theorem d_CM_channel_39 : decode prog_1_method_10_code 39 = .ok (.aload_n 2, 1) := by decide +kernel
theorem d_CM_channel_40 : decode prog_1_method_10_code 40 = .ok (.getfield 139, 3) := by decide +kernel
theorem d_CM_channel_43 : decode prog_1_method_10_code 43 = .ok (.ifnull 7, 3) := by decide +kernel
theorem d_CM_channel_46 : decode prog_1_method_10_code 46 = .ok (.iconst 2, 1) := by decide +kernel
theorem d_CM_channel_47 : decode prog_1_method_10_code 47 = .ok (.goto 4, 3) := by decide +kernel
theorem d_CM_channel_50 : decode prog_1_method_10_code 50 = .ok (.iconst 0, 1) := by decide +kernel
theorem d_CM_channel_51 : decode prog_1_method_10_code 51 = .ok (.ireturn, 1) := by decide +kernel
theorem d_La_channel_0 : decode method_10_code 0 = .ok (.aload_n 2, 1) := by decide +kernel
theorem d_La_channel_1 : decode method_10_code 1 = .ok (.iconst 0, 1) := by decide +kernel
theorem d_La_channel_2 : decode method_10_code 2 = .ok (.aload_n 0, 1) := by decide +kernel
theorem d_La_channel_3 : decode method_10_code 3 = .ok (.iload_n 1, 1) := by decide +kernel
theorem d_La_channel_4 : decode method_10_code 4 = .ok (.invokevirtual 42, 3) := by decide +kernel
theorem d_La_channel_7 : decode method_10_code 7 = .ok (.i2l, 1) := by decide +kernel
theorem d_La_channel_8 : decode method_10_code 8 = .ok (.lastore, 1) := by decide +kernel
theorem d_La_channel_9 : decode method_10_code 9 = .ok (.goto 6, 3) := by decide +kernel
theorem d_La_channel_12 : decode method_10_code 12 = .ok (.astore_n 3, 1) := by decide +kernel
theorem d_La_channel_13 : decode method_10_code 13 = .ok (.iconst 1, 1) := by decide +kernel
theorem d_La_channel_14 : decode method_10_code 14 = .ok (.ireturn, 1) := by decide +kernel
theorem d_La_channel_15 : decode method_10_code 15 = .ok (.iconst 0, 1) := by decide +kernel
theorem d_La_channel_16 : decode method_10_code 16 = .ok (.ireturn, 1) := by decide +kernel
set_option maxHeartbeats 4000000 in
set_option maxRecDepth 100000 in
theorem c_La_variable (l : Launch) (hst : l.stackTraces = false) (dC : Nat → ClassId) (dI : Nat → Nat → Nat) (ar : Nat → ClassId) (N0 : Nat) (z : Nat → Nat) (ot : Nat) (h0 rd mc va ch gi bo qu sl sk : Nat) (v : Int32) (sz : Nat) : Met l ({ cls := "ChannelMachineLaw", name := "variable", desc := "(LChannelMachine;I[J)I" } : Jvm.MethodName) ((Jvm.Cond.codeWith ({ cls := "ChannelMachineLaw", name := "variable", desc := "(LChannelMachine;I[J)I" } : Jvm.MethodName) method_8_code (4 : Nat) (Option.some Jvm.ClassFile.FieldType.int) [((0 : Nat), (9 : Nat), (12 : Nat), (13 : Nat))]) :: x_T) ({ frames := 7, cells := 1, slots := 6, locals := 103 }) (x_Pc (dC, dI) ar N0 z [(ot, .inl (ar 2, 1, .inr (.inl (fun _ => 0)))), (h0, .inr (5, [.ref rd, .ref mc, .int (-1)])), (mc, .inr (2, [.ref va, .ref ch, .ref gi, .ref bo, .ref qu, .ref sl, .ref sk, .int 0, .int 0, .int 0, .long 0])), (va, .inl (ar 0, 6, .inl (fun _ => 0)))] sz [.ref h0, .int v, .ref ot]) (va_Qi (fun (r : Int32) (u : Nat → Int64) => ((¬ v < 0 ∧ v < 6) ∧ r = 0 ∧ u 0 = 0) ∨ ((v < 0 ∨ ¬ v < 6) ∧ r = 1)) (fun u t => va_P (dC, dI) x_cl [(ot, .inl (ar 2, 1, .inr (.inl u)))] t.heap ∧ va_D (va_A [(ot, .inl (ar 2, 1, .inr (.inl (fun _ => 0)))), (h0, .inr (5, [.ref rd, .ref mc, .int (-1)])), (mc, .inr (2, [.ref va, .ref ch, .ref gi, .ref bo, .ref qu, .ref sl, .ref sk, .int 0, .int 0, .int 0, .long 0])), (va, .inl (ar 0, 6, .inl (fun _ => 0)))] sz) [(ot, .inl (ar 2, 1, .inr (.inl u)))]) (va_A [(ot, .inl (ar 2, 1, .inr (.inl (fun _ => 0)))), (h0, .inr (5, [.ref rd, .ref mc, .int (-1)])), (mc, .inr (2, [.ref va, .ref ch, .ref gi, .ref bo, .ref qu, .ref sl, .ref sk, .int 0, .int 0, .int 0, .long 0])), (va, .inl (ar 0, 6, .inl (fun _ => 0)))] sz)) 1 6 (va_A [(ot, .inl (ar 2, 1, .inr (.inl (fun _ => 0)))), (h0, .inr (5, [.ref rd, .ref mc, .int (-1)])), (mc, .inr (2, [.ref va, .ref ch, .ref gi, .ref bo, .ref qu, .ref sl, .ref sk, .int 0, .int 0, .int 0, .long 0])), (va, .inl (ar 0, 6, .inl (fun _ => 0)))] sz) := by
  refine va_MetW (cc := method_8_code) (maxL := 4) (ret := (some .int)) (by decide) rfl ?_
  intro p e s m args below meth c s₁ B hml hv
  obtain ⟨rfl, hsz, hN0, hP, hU, hZ, hD0⟩ := hv
  have hK := hU.1
  have hx := B.exec
  have hb := B.bytes
  have hr := B.returns
  have hts : ∀ w ∈ x_T, w.before ([.ref h0, .int v, .ref ot] : List Value).toArray s = true := fun w h => atoms_spec (ws := (Jvm.Cond.codeWith ({ cls := "ChannelMachineLaw", name := "variable", desc := "(LChannelMachine;I[J)I" } : Jvm.MethodName) method_8_code (4 : Nat) (Option.some Jvm.ClassFile.FieldType.int) [((0 : Nat), (9 : Nat), (12 : Nat), (13 : Nat))]) :: x_T) B.pre w (List.mem_cons_of_mem _ h)
  have hown : s.vm.findClass "ChannelMachineLaw" = some m.cls := findClass_of_methodNamed B.named
  have hlocks := B.notSynchronized
  subst hsz
  have hD := hD0.self (sz := s.heap.size)
  have hAN := x_AN hD0 hN0
  generalize hAe : va_A [(ot, .inl (ar 2, 1, .inr (.inl (fun _ => 0)))), (h0, .inr (5, [.ref rd, .ref mc, .int (-1)])), (mc, .inr (2, [.ref va, .ref ch, .ref gi, .ref bo, .ref qu, .ref sl, .ref sk, .int 0, .int 0, .int 0, .long 0])), (va, .inl (ar 0, 6, .inl (fun _ => 0)))] s.heap.size = A at hD hAN ⊢
  have hA : ∀ q : Nat, s.heap.size ≤ q → A q := fun q h => by rw [← hAe]; exact Or.inr h
  have hS : va_S A s.heap s.heap [] := va_S.rf
  have hP : va_P (dC, dI) x_cl [(ot, .inl (ar 2, 1, .inr (.inl (fun _ => 0)))), (h0, .inr (5, [.ref rd, .ref mc, .int (-1)])), (mc, .inr (2, [.ref va, .ref ch, .ref gi, .ref bo, .ref qu, .ref sl, .ref sk, .int 0, .int 0, .int 0, .long 0])), (va, .inl (ar 0, 6, .inl (fun _ => 0)))] s.heap := hP
  have hl := lv_entry ([.ref h0, .int v, .ref ot]) (n := 4) (Nat.le_of_ble_eq_true rfl)
  rw [lg_entry_eq]
  generalize (lg_sl ([.ref h0, .int v, .ref ot]) ++ List.replicate (4 - (lg_sl ([.ref h0, .int v, .ref ot])).length) Slot.unset).toArray = ls at hl ⊢
  have hl : lv_has ls 4 [(0, .ref h0), (1, .int v), (2, .ref ot)] := hl
  have hH0 : s.heap.size ≤ s.heap.size := Nat.le_refl _
  have htab := vx_table (x := ({ cls := "ChannelMachineLaw", name := "variable", desc := "(LChannelMachine;I[J)I" } : Jvm.MethodName)) B (hts _ k_940)
  refine lv_aload_n hx hb d_La_variable_0 rfl (lv_at hl 2 rfl) ?_
  refine lv_iconst (v := 0) hx hb d_La_variable_1 (by decide) ?_
  refine lv_aload_n hx hb d_La_variable_2 rfl (lv_at hl 0 rfl) ?_
  refine lv_iload_n hx hb d_La_variable_3 rfl (lv_at hl 1 rfl) ?_
  have hPc := hP.sub (ws' := [(h0, .inr (5, [.ref rd, .ref mc, .int (-1)])), (mc, .inr (2, [.ref va, .ref ch, .ref gi, .ref bo, .ref qu, .ref sl, .ref sk, .int 0, .int 0, .int 0, .long 0])), (va, .inl (ar 0, 6, .inl (fun _ => 0)))]) [1, 2, 3] rfl
  have hDc := hD.sub (ws' := [(h0, .inr (5, [.ref rd, .ref mc, .int (-1)])), (mc, .inr (2, [.ref va, .ref ch, .ref gi, .ref bo, .ref qu, .ref sl, .ref sk, .int 0, .int 0, .int 0, .long 0])), (va, .inl (ar 0, 6, .inl (fun _ => 0)))]) [1, 2, 3] (by decide) rfl
  have hFc := va_free (wc := [(h0, .inr (5, [.ref rd, .ref mc, .int (-1)])), (mc, .inr (2, [.ref va, .ref ch, .ref gi, .ref bo, .ref qu, .ref sl, .ref sk, .int 0, .int 0, .int 0, .long 0])), (va, .inl (ar 0, 6, .inl (fun _ => 0)))]) hD hS hA [1, 2, 3] rfl
  refine vx_calli (vx_runV (As := [.int v]) (rest := [.int 0, .ref ot]) ⟨hx, hb, hml, hown, hts⟩ (c_CM_variable l hst dC dI ar N0 z h0 rd mc va ch gi bo qu sl sk (v) s.heap.size) (cwV 1 hts (x_goodV k_941 k_942 k_943 k_1 k_944) rfl rfl rfl (by decide +kernel) ⟨Nat.le_of_ble_eq_true rfl, Nat.le_of_ble_eq_true rfl⟩) ⟨x_blind, va_recv hK hPc (ci := 5) (q0 := 0) rfl rfl, fun U hU9 hW => x_pre hU9 hW hPc hDc hU hZ hS hAN hN0⟩ rfl rfl hl.1 rfl (lv_room (Nat.le_of_ble_eq_true rfl)) d_La_variable_4 ⟨Nat.le_of_ble_eq_true rfl, Nat.le_of_ble_eq_true rfl⟩) hS (fun q _ h => hFc q h) hFc (fun q h1 h2 => hFc q h2) (fun E ce q9 u t H1 locs ht hvm hpx hbx hz1 hk1 hS hce hcv hcl => ?_) (fun r1 u2 t H1 locs ht hvm hw hB hz1 hk1 hS => ?_)
  · have hP1 : va_P (dC, dI) x_cl [] H1 := fun k q h => by simp at h
    have hD1 : va_D (va_A [(h0, .inr (5, [.ref rd, .ref mc, .int (-1)])), (mc, .inr (2, [.ref va, .ref ch, .ref gi, .ref bo, .ref qu, .ref sl, .ref sk, .int 0, .int 0, .int 0, .long 0])), (va, .inl (ar 0, 6, .inl (fun _ => 0)))] s.heap.size) [] := ⟨fun i j p q h => by simp at h, fun k q h => by simp at h⟩
    obtain ⟨hP, hD⟩ := va_join (wr := [(ot, .inl (ar 2, 1, .inr (.inl (fun _ => 0))))]) (w1 := []) hP hD [1, 2, 3] [0] rfl rfl (by decide) (by decide) hk1 hFc hP1 hD1
    generalize H1 = H at hP hS hce ⊢
    have hP : va_P (dC, dI) x_cl [(ot, .inl (ar 2, 1, .inr (.inl (fun _ => 0))))] H := hP
    have hD : va_D A [(ot, .inl (ar 2, 1, .inr (.inl (fun _ => 0))))] := hD
    refine vx_widen (k := 1) (n := 6) (Nat.le_of_ble_eq_true rfl) (Nat.le_of_ble_eq_true rfl) ?_
    obtain rfl := hbx
    refine vx_catch hown [] ⟨0, 9, 12, 13⟩ [] htab (fun z h => by cases h) (by decide) (by decide) (hts _ k_221) (va_Nw.use rfl (hU.2.1 _ kn_232)) hce hcv hcl ?_
    refine lv_astore_n (lv' := [(3, .ref q9), (0, .ref h0), (1, .int v), (2, .ref ot)]) hx hb d_La_variable_12 rfl hl (by decide) rfl (fun ls hl => ?_)
    refine lv_iconst (v := 1) hx hb d_La_variable_13 (by decide) ?_
    refine W.widen (k := 1) (n := 6) (Nat.le_of_ble_eq_true rfl) (Nat.le_of_ble_eq_true rfl) ?_
    exact W.iret (v := 1) hx hb hr (fun t ht hW => ⟨⟨1, (fun _ => 0), rfl, Or.inr ⟨hpx, rfl⟩, ⟨by rw [ht]; exact hP.sub (ws' := [(ot, .inl (ar 2, 1, .inr (.inl (fun _ => 0))))]) [0] rfl, hD.sub (ws' := [(ot, .inl (ar 2, 1, .inr (.inl (fun _ => 0))))]) [0] (by decide) rfl⟩⟩, hS.F ht⟩) hS.2.2 d_La_variable_14
  · have hP1 : va_P (dC, dI) x_cl [] t.heap := fun k q h => by simp at h
    have hD1 : va_D (va_A [(h0, .inr (5, [.ref rd, .ref mc, .int (-1)])), (mc, .inr (2, [.ref va, .ref ch, .ref gi, .ref bo, .ref qu, .ref sl, .ref sk, .int 0, .int 0, .int 0, .long 0])), (va, .inl (ar 0, 6, .inl (fun _ => 0)))] s.heap.size) [] := ⟨fun i j p q h => by simp at h, fun k q h => by simp at h⟩
    rw [ht] at hP1
    obtain ⟨hP, hD⟩ := va_join (wr := [(ot, .inl (ar 2, 1, .inr (.inl (fun _ => 0))))]) (w1 := []) hP hD [1, 2, 3] [0] rfl rfl (by decide) (by decide) hk1 hFc hP1 hD1
    generalize H1 = H at hP hS ⊢
    have hP : va_P (dC, dI) x_cl [(ot, .inl (ar 2, 1, .inr (.inl (fun _ => 0))))] H := hP
    have hD : va_D A [(ot, .inl (ar 2, 1, .inr (.inl (fun _ => 0))))] := hD
    refine W.widen (k := 1) (n := 6) (Nat.le_of_ble_eq_true rfl) (Nat.le_of_ble_eq_true rfl) ?_
    refine lv_i2l (v := (Int32.toInt64 r1)) hx hb d_La_variable_7 rfl ?_
    refine va_last hx hb hK hP hD hS 0 2 rfl rfl (i := 0) (x := (Int32.toInt64 r1)) (by unfold vp_in; decide) d_La_variable_8 (fun H locs hP hD hS => ?_)
    have hP : va_P (dC, dI) x_cl [(ot, .inl (ar 2, 1, .inr (.inl (vp_updL (fun _ => 0) (Int32.toNatClampNeg 0) (Int32.toInt64 r1)))))] H := hP
    have hD : va_D A [(ot, .inl (ar 2, 1, .inr (.inl (vp_updL (fun _ => 0) (Int32.toNatClampNeg 0) (Int32.toInt64 r1)))))] := hD
    refine lv_goto (tgt := 15) hx hb d_La_variable_9 (by decide) ?_
    refine lv_iconst (v := 0) hx hb d_La_variable_15 (by decide) ?_
    refine W.widen (k := 1) (n := 6) (Nat.le_of_ble_eq_true rfl) (Nat.le_of_ble_eq_true rfl) ?_
    exact W.iret (v := 0) hx hb hr (fun t ht hW => ⟨⟨0, (vp_updL (fun _ => 0) (Int32.toNatClampNeg 0) (Int32.toInt64 r1)), rfl, Or.inl ⟨hw.1, rfl, by rw [hw.2]; rfl⟩, ⟨by rw [ht]; exact hP.sub (ws' := [(ot, .inl (ar 2, 1, .inr (.inl (vp_updL (fun _ => 0) (Int32.toNatClampNeg 0) (Int32.toInt64 r1)))))]) [0] rfl, hD.sub (ws' := [(ot, .inl (ar 2, 1, .inr (.inl (vp_updL (fun _ => 0) (Int32.toNatClampNeg 0) (Int32.toInt64 r1)))))]) [0] (by decide) rfl⟩⟩, hS.F ht⟩) hS.2.2 d_La_variable_16
set_option maxHeartbeats 4000000 in
set_option maxRecDepth 100000 in
theorem c_La_set (l : Launch) (hst : l.stackTraces = false) (dC : Nat → ClassId) (dI : Nat → Nat → Nat) (ar : Nat → ClassId) (N0 : Nat) (z : Nat → Nat) (h0 rd mc va ch gi bo qu sl sk : Nat) (v x : Int32) (sz : Nat) : Met l ({ cls := "ChannelMachineLaw", name := "set", desc := "(LChannelMachine;II)I" } : Jvm.MethodName) ((Jvm.Cond.codeWith ({ cls := "ChannelMachineLaw", name := "set", desc := "(LChannelMachine;II)I" } : Jvm.MethodName) method_9_code (4 : Nat) (Option.some Jvm.ClassFile.FieldType.int) [((0 : Nat), (6 : Nat), (9 : Nat), (13 : Nat))]) :: x_T) ({ frames := 7, cells := 1, slots := 6, locals := 104 }) (x_Pc (dC, dI) ar N0 z [(h0, .inr (5, [.ref rd, .ref mc, .int (-1)])), (mc, .inr (2, [.ref va, .ref ch, .ref gi, .ref bo, .ref qu, .ref sl, .ref sk, .int 0, .int 0, .int 0, .long 0])), (va, .inl (ar 0, 6, .inl (fun _ => 0)))] sz [.ref h0, .int v, .int x]) (va_Qi (fun (r : Int32) (u : Unit) => ((¬ v < 0 ∧ v < 6) ∧ r = 0) ∨ ((v < 0 ∨ ¬ v < 6) ∧ r = 1)) (fun u t => True) (va_A [(h0, .inr (5, [.ref rd, .ref mc, .int (-1)])), (mc, .inr (2, [.ref va, .ref ch, .ref gi, .ref bo, .ref qu, .ref sl, .ref sk, .int 0, .int 0, .int 0, .long 0])), (va, .inl (ar 0, 6, .inl (fun _ => 0)))] sz)) 1 6 (va_A [(h0, .inr (5, [.ref rd, .ref mc, .int (-1)])), (mc, .inr (2, [.ref va, .ref ch, .ref gi, .ref bo, .ref qu, .ref sl, .ref sk, .int 0, .int 0, .int 0, .long 0])), (va, .inl (ar 0, 6, .inl (fun _ => 0)))] sz) := by
  refine va_MetW (cc := method_9_code) (maxL := 4) (ret := (some .int)) (by decide) rfl ?_
  intro p e s m args below meth c s₁ B hml hv
  obtain ⟨rfl, hsz, hN0, hP, hU, hZ, hD0⟩ := hv
  have hK := hU.1
  have hx := B.exec
  have hb := B.bytes
  have hr := B.returns
  have hts : ∀ w ∈ x_T, w.before ([.ref h0, .int v, .int x] : List Value).toArray s = true := fun w h => atoms_spec (ws := (Jvm.Cond.codeWith ({ cls := "ChannelMachineLaw", name := "set", desc := "(LChannelMachine;II)I" } : Jvm.MethodName) method_9_code (4 : Nat) (Option.some Jvm.ClassFile.FieldType.int) [((0 : Nat), (6 : Nat), (9 : Nat), (13 : Nat))]) :: x_T) B.pre w (List.mem_cons_of_mem _ h)
  have hown : s.vm.findClass "ChannelMachineLaw" = some m.cls := findClass_of_methodNamed B.named
  have hlocks := B.notSynchronized
  subst hsz
  have hD := hD0.self (sz := s.heap.size)
  have hAN := x_AN hD0 hN0
  generalize hAe : va_A [(h0, .inr (5, [.ref rd, .ref mc, .int (-1)])), (mc, .inr (2, [.ref va, .ref ch, .ref gi, .ref bo, .ref qu, .ref sl, .ref sk, .int 0, .int 0, .int 0, .long 0])), (va, .inl (ar 0, 6, .inl (fun _ => 0)))] s.heap.size = A at hD hAN ⊢
  have hA : ∀ q : Nat, s.heap.size ≤ q → A q := fun q h => by rw [← hAe]; exact Or.inr h
  have hS : va_S A s.heap s.heap [] := va_S.rf
  have hP : va_P (dC, dI) x_cl [(h0, .inr (5, [.ref rd, .ref mc, .int (-1)])), (mc, .inr (2, [.ref va, .ref ch, .ref gi, .ref bo, .ref qu, .ref sl, .ref sk, .int 0, .int 0, .int 0, .long 0])), (va, .inl (ar 0, 6, .inl (fun _ => 0)))] s.heap := hP
  have hl := lv_entry ([.ref h0, .int v, .int x]) (n := 4) (Nat.le_of_ble_eq_true rfl)
  rw [lg_entry_eq]
  generalize (lg_sl ([.ref h0, .int v, .int x]) ++ List.replicate (4 - (lg_sl ([.ref h0, .int v, .int x])).length) Slot.unset).toArray = ls at hl ⊢
  have hl : lv_has ls 4 [(0, .ref h0), (1, .int v), (2, .int x)] := hl
  have hH0 : s.heap.size ≤ s.heap.size := Nat.le_refl _
  have htab := vx_table (x := ({ cls := "ChannelMachineLaw", name := "set", desc := "(LChannelMachine;II)I" } : Jvm.MethodName)) B (hts _ k_948)
  refine lv_aload_n hx hb d_La_set_0 rfl (lv_at hl 0 rfl) ?_
  refine lv_iload_n hx hb d_La_set_1 rfl (lv_at hl 1 rfl) ?_
  refine lv_iload_n hx hb d_La_set_2 rfl (lv_at hl 2 rfl) ?_
  have hPc := hP.sub (ws' := [(h0, .inr (5, [.ref rd, .ref mc, .int (-1)])), (mc, .inr (2, [.ref va, .ref ch, .ref gi, .ref bo, .ref qu, .ref sl, .ref sk, .int 0, .int 0, .int 0, .long 0])), (va, .inl (ar 0, 6, .inl (fun _ => 0)))]) [0, 1, 2] rfl
  have hDc := hD.sub (ws' := [(h0, .inr (5, [.ref rd, .ref mc, .int (-1)])), (mc, .inr (2, [.ref va, .ref ch, .ref gi, .ref bo, .ref qu, .ref sl, .ref sk, .int 0, .int 0, .int 0, .long 0])), (va, .inl (ar 0, 6, .inl (fun _ => 0)))]) [0, 1, 2] (by decide) rfl
  have hFc := va_free (wc := [(h0, .inr (5, [.ref rd, .ref mc, .int (-1)])), (mc, .inr (2, [.ref va, .ref ch, .ref gi, .ref bo, .ref qu, .ref sl, .ref sk, .int 0, .int 0, .int 0, .long 0])), (va, .inl (ar 0, 6, .inl (fun _ => 0)))]) hD hS hA [0, 1, 2] rfl
  refine vx_callv (vx_runV (As := [.int v, .int x]) (rest := []) ⟨hx, hb, hml, hown, hts⟩ (c_CM_set l hst dC dI ar N0 z h0 rd mc va ch gi bo qu sl sk (v) (x) s.heap.size) (cwV 2 hts (x_goodV k_949 k_950 k_951 k_1 k_952) rfl rfl rfl (by decide +kernel) ⟨Nat.le_of_ble_eq_true rfl, Nat.le_of_ble_eq_true rfl⟩) ⟨x_blind, va_recv hK hPc (ci := 5) (q0 := 0) rfl rfl, fun U hU9 hW => x_pre hU9 hW hPc hDc hU hZ hS hAN hN0⟩ rfl rfl hl.1 rfl (lv_room (Nat.le_of_ble_eq_true rfl)) d_La_set_3 ⟨Nat.le_of_ble_eq_true rfl, Nat.le_of_ble_eq_true rfl⟩) hS (fun q _ h => hFc q h) hFc (fun q h1 h2 => hFc q h2) (fun E ce q9 u t H1 locs ht hvm hpx hbx hz1 hk1 hS hce hcv hcl => ?_) (fun u1 t H1 locs ht hvm hw hB hz1 hk1 hS => ?_)
  · have hP1 : va_P (dC, dI) x_cl [] H1 := fun k q h => by simp at h
    have hD1 : va_D (va_A [(h0, .inr (5, [.ref rd, .ref mc, .int (-1)])), (mc, .inr (2, [.ref va, .ref ch, .ref gi, .ref bo, .ref qu, .ref sl, .ref sk, .int 0, .int 0, .int 0, .long 0])), (va, .inl (ar 0, 6, .inl (fun _ => 0)))] s.heap.size) [] := ⟨fun i j p q h => by simp at h, fun k q h => by simp at h⟩
    obtain ⟨hP, hD⟩ := va_join (wr := []) (w1 := []) hP hD [0, 1, 2] [] rfl rfl (by decide) (by decide) hk1 hFc hP1 hD1
    generalize H1 = H at hP hS hce ⊢
    have hP : va_P (dC, dI) x_cl [] H := hP
    have hD : va_D A [] := hD
    refine vx_widen (k := 1) (n := 6) (Nat.le_of_ble_eq_true rfl) (Nat.le_of_ble_eq_true rfl) ?_
    obtain rfl := hbx
    refine vx_catch hown [] ⟨0, 6, 9, 13⟩ [] htab (fun z h => by cases h) (by decide) (by decide) (hts _ k_221) (va_Nw.use rfl (hU.2.1 _ kn_232)) hce hcv hcl ?_
    refine lv_astore_n (lv' := [(3, .ref q9), (0, .ref h0), (1, .int v), (2, .int x)]) hx hb d_La_set_9 rfl hl (by decide) rfl (fun ls hl => ?_)
    refine lv_iconst (v := 1) hx hb d_La_set_10 (by decide) ?_
    refine W.widen (k := 1) (n := 6) (Nat.le_of_ble_eq_true rfl) (Nat.le_of_ble_eq_true rfl) ?_
    exact W.iret (v := 1) hx hb hr (fun t ht hW => ⟨⟨1, (), rfl, Or.inr ⟨hpx, rfl⟩, trivial⟩, hS.F ht⟩) hS.2.2 d_La_set_11
  · have hP1 : va_P (dC, dI) x_cl [] t.heap := fun k q h => by simp at h
    have hD1 : va_D (va_A [(h0, .inr (5, [.ref rd, .ref mc, .int (-1)])), (mc, .inr (2, [.ref va, .ref ch, .ref gi, .ref bo, .ref qu, .ref sl, .ref sk, .int 0, .int 0, .int 0, .long 0])), (va, .inl (ar 0, 6, .inl (fun _ => 0)))] s.heap.size) [] := ⟨fun i j p q h => by simp at h, fun k q h => by simp at h⟩
    rw [ht] at hP1
    obtain ⟨hP, hD⟩ := va_join (wr := []) (w1 := []) hP hD [0, 1, 2] [] rfl rfl (by decide) (by decide) hk1 hFc hP1 hD1
    generalize H1 = H at hP hS ⊢
    have hP : va_P (dC, dI) x_cl [] H := hP
    have hD : va_D A [] := hD
    refine W.widen (k := 1) (n := 6) (Nat.le_of_ble_eq_true rfl) (Nat.le_of_ble_eq_true rfl) ?_
    refine lv_goto (tgt := 12) hx hb d_La_set_6 (by decide) ?_
    refine lv_iconst (v := 0) hx hb d_La_set_12 (by decide) ?_
    refine W.widen (k := 1) (n := 6) (Nat.le_of_ble_eq_true rfl) (Nat.le_of_ble_eq_true rfl) ?_
    exact W.iret (v := 0) hx hb hr (fun t ht hW => ⟨⟨0, (), rfl, Or.inl ⟨hw, rfl⟩, trivial⟩, hS.F ht⟩) hS.2.2 d_La_set_13
set_option maxHeartbeats 4000000 in
set_option maxRecDepth 100000 in
theorem c_La_give (l : Launch) (hst : l.stackTraces = false) (dC : Nat → ClassId) (dI : Nat → Nat → Nat) (ar : Nat → ClassId) (N0 : Nat) (z : Nat → Nat) (ot : Nat) (h0 rd mc va ch gi bo qu sl sk : Nat) (x : Int32) (sz : Nat) : Met l ({ cls := "ChannelMachineLaw", name := "give", desc := "(LChannelMachine;I[J)I" } : Jvm.MethodName) ((Jvm.Cond.codeWith ({ cls := "ChannelMachineLaw", name := "give", desc := "(LChannelMachine;I[J)I" } : Jvm.MethodName) method_6_code (4 : Nat) (Option.some Jvm.ClassFile.FieldType.int) [((0 : Nat), (9 : Nat), (12 : Nat), (15 : Nat))]) :: x_T) ({ frames := 7, cells := 1, slots := 6, locals := 103 }) (x_Pc (dC, dI) ar N0 z [(ot, .inl (ar 2, 1, .inr (.inl (fun _ => 0)))), (h0, .inr (5, [.ref rd, .ref mc, .int (-1)])), (mc, .inr (2, [.ref va, .ref ch, .ref gi, .ref bo, .ref qu, .ref sl, .ref sk, .int 0, .int 0, .int 0, .long 0]))] sz [.ref h0, .int x, .ref ot]) (va_Qi (fun (r : Int32) (u : Nat → Int64) => r = 1) (fun u t => va_P (dC, dI) x_cl [(ot, .inl (ar 2, 1, .inr (.inl u)))] t.heap ∧ va_D (va_A [(ot, .inl (ar 2, 1, .inr (.inl (fun _ => 0)))), (h0, .inr (5, [.ref rd, .ref mc, .int (-1)])), (mc, .inr (2, [.ref va, .ref ch, .ref gi, .ref bo, .ref qu, .ref sl, .ref sk, .int 0, .int 0, .int 0, .long 0]))] sz) [(ot, .inl (ar 2, 1, .inr (.inl u)))]) (va_A [(ot, .inl (ar 2, 1, .inr (.inl (fun _ => 0)))), (h0, .inr (5, [.ref rd, .ref mc, .int (-1)])), (mc, .inr (2, [.ref va, .ref ch, .ref gi, .ref bo, .ref qu, .ref sl, .ref sk, .int 0, .int 0, .int 0, .long 0]))] sz)) 1 6 (va_A [(ot, .inl (ar 2, 1, .inr (.inl (fun _ => 0)))), (h0, .inr (5, [.ref rd, .ref mc, .int (-1)])), (mc, .inr (2, [.ref va, .ref ch, .ref gi, .ref bo, .ref qu, .ref sl, .ref sk, .int 0, .int 0, .int 0, .long 0]))] sz) := by
  refine va_MetW (cc := method_6_code) (maxL := 4) (ret := (some .int)) (by decide) rfl ?_
  intro p e s m args below meth c s₁ B hml hv
  obtain ⟨rfl, hsz, hN0, hP, hU, hZ, hD0⟩ := hv
  have hK := hU.1
  have hx := B.exec
  have hb := B.bytes
  have hr := B.returns
  have hts : ∀ w ∈ x_T, w.before ([.ref h0, .int x, .ref ot] : List Value).toArray s = true := fun w h => atoms_spec (ws := (Jvm.Cond.codeWith ({ cls := "ChannelMachineLaw", name := "give", desc := "(LChannelMachine;I[J)I" } : Jvm.MethodName) method_6_code (4 : Nat) (Option.some Jvm.ClassFile.FieldType.int) [((0 : Nat), (9 : Nat), (12 : Nat), (15 : Nat))]) :: x_T) B.pre w (List.mem_cons_of_mem _ h)
  have hown : s.vm.findClass "ChannelMachineLaw" = some m.cls := findClass_of_methodNamed B.named
  have hlocks := B.notSynchronized
  subst hsz
  have hD := hD0.self (sz := s.heap.size)
  have hAN := x_AN hD0 hN0
  generalize hAe : va_A [(ot, .inl (ar 2, 1, .inr (.inl (fun _ => 0)))), (h0, .inr (5, [.ref rd, .ref mc, .int (-1)])), (mc, .inr (2, [.ref va, .ref ch, .ref gi, .ref bo, .ref qu, .ref sl, .ref sk, .int 0, .int 0, .int 0, .long 0]))] s.heap.size = A at hD hAN ⊢
  have hA : ∀ q : Nat, s.heap.size ≤ q → A q := fun q h => by rw [← hAe]; exact Or.inr h
  have hS : va_S A s.heap s.heap [] := va_S.rf
  have hP : va_P (dC, dI) x_cl [(ot, .inl (ar 2, 1, .inr (.inl (fun _ => 0)))), (h0, .inr (5, [.ref rd, .ref mc, .int (-1)])), (mc, .inr (2, [.ref va, .ref ch, .ref gi, .ref bo, .ref qu, .ref sl, .ref sk, .int 0, .int 0, .int 0, .long 0]))] s.heap := hP
  have hl := lv_entry ([.ref h0, .int x, .ref ot]) (n := 4) (Nat.le_of_ble_eq_true rfl)
  rw [lg_entry_eq]
  generalize (lg_sl ([.ref h0, .int x, .ref ot]) ++ List.replicate (4 - (lg_sl ([.ref h0, .int x, .ref ot])).length) Slot.unset).toArray = ls at hl ⊢
  have hl : lv_has ls 4 [(0, .ref h0), (1, .int x), (2, .ref ot)] := hl
  have hH0 : s.heap.size ≤ s.heap.size := Nat.le_refl _
  have htab := vx_table (x := ({ cls := "ChannelMachineLaw", name := "give", desc := "(LChannelMachine;I[J)I" } : Jvm.MethodName)) B (hts _ k_899)
  refine lv_aload_n hx hb d_La_give_0 rfl (lv_at hl 2 rfl) ?_
  refine lv_iconst (v := 0) hx hb d_La_give_1 (by decide) ?_
  refine lv_aload_n hx hb d_La_give_2 rfl (lv_at hl 0 rfl) ?_
  refine lv_iload_n hx hb d_La_give_3 rfl (lv_at hl 1 rfl) ?_
  have hPc := hP.sub (ws' := [(h0, .inr (5, [.ref rd, .ref mc, .int (-1)])), (mc, .inr (2, [.ref va, .ref ch, .ref gi, .ref bo, .ref qu, .ref sl, .ref sk, .int 0, .int 0, .int 0, .long 0]))]) [1, 2] rfl
  have hDc := hD.sub (ws' := [(h0, .inr (5, [.ref rd, .ref mc, .int (-1)])), (mc, .inr (2, [.ref va, .ref ch, .ref gi, .ref bo, .ref qu, .ref sl, .ref sk, .int 0, .int 0, .int 0, .long 0]))]) [1, 2] (by decide) rfl
  have hFc := va_free (wc := [(h0, .inr (5, [.ref rd, .ref mc, .int (-1)])), (mc, .inr (2, [.ref va, .ref ch, .ref gi, .ref bo, .ref qu, .ref sl, .ref sk, .int 0, .int 0, .int 0, .long 0]))]) hD hS hA [1, 2] rfl
  refine vx_calli (vx_runV (As := [.int x]) (rest := [.int 0, .ref ot]) ⟨hx, hb, hml, hown, hts⟩ (c_CM_give l hst dC dI ar N0 z h0 rd mc va ch gi bo qu sl sk (x) s.heap.size) (cwV 1 hts (x_goodV k_900 k_901 k_902 k_1 k_903) rfl rfl rfl (by decide +kernel) ⟨Nat.le_of_ble_eq_true rfl, Nat.le_of_ble_eq_true rfl⟩) ⟨x_blind, va_recv hK hPc (ci := 5) (q0 := 0) rfl rfl, fun U hU9 hW => x_pre hU9 hW hPc hDc hU hZ hS hAN hN0⟩ rfl rfl hl.1 rfl (lv_room (Nat.le_of_ble_eq_true rfl)) d_La_give_4 ⟨Nat.le_of_ble_eq_true rfl, Nat.le_of_ble_eq_true rfl⟩) hS (fun q _ h => hFc q h) hFc (fun q h1 h2 => hFc q h2) (fun E ce q9 u t H1 locs ht hvm hpx hbx hz1 hk1 hS hce hcv hcl => ?_) (fun r1 u2 t H1 locs ht hvm hw hB hz1 hk1 hS => ?_)
  · have hP1 : va_P (dC, dI) x_cl [] H1 := fun k q h => by simp at h
    have hD1 : va_D (va_A [(h0, .inr (5, [.ref rd, .ref mc, .int (-1)])), (mc, .inr (2, [.ref va, .ref ch, .ref gi, .ref bo, .ref qu, .ref sl, .ref sk, .int 0, .int 0, .int 0, .long 0]))] s.heap.size) [] := ⟨fun i j p q h => by simp at h, fun k q h => by simp at h⟩
    obtain ⟨hP, hD⟩ := va_join (wr := [(ot, .inl (ar 2, 1, .inr (.inl (fun _ => 0))))]) (w1 := []) hP hD [1, 2] [0] rfl rfl (by decide) (by decide) hk1 hFc hP1 hD1
    generalize H1 = H at hP hS hce ⊢
    have hP : va_P (dC, dI) x_cl [(ot, .inl (ar 2, 1, .inr (.inl (fun _ => 0))))] H := hP
    have hD : va_D A [(ot, .inl (ar 2, 1, .inr (.inl (fun _ => 0))))] := hD
    refine vx_widen (k := 1) (n := 6) (Nat.le_of_ble_eq_true rfl) (Nat.le_of_ble_eq_true rfl) ?_
    obtain rfl := hbx
    refine vx_catch hown [] ⟨0, 9, 12, 15⟩ [] htab (fun z h => by cases h) (by decide) (by decide) (hts _ k_222) (va_Nw.use rfl (hU.2.1 _ kn_301)) hce hcv hcl ?_
    refine lv_astore_n (lv' := [(3, .ref q9), (0, .ref h0), (1, .int x), (2, .ref ot)]) hx hb d_La_give_12 rfl hl (by decide) rfl (fun ls hl => ?_)
    refine lv_iconst (v := 1) hx hb d_La_give_13 (by decide) ?_
    refine W.widen (k := 1) (n := 6) (Nat.le_of_ble_eq_true rfl) (Nat.le_of_ble_eq_true rfl) ?_
    exact W.iret (v := 1) hx hb hr (fun t ht hW => ⟨⟨1, (fun _ => 0), rfl, rfl, ⟨by rw [ht]; exact hP.sub (ws' := [(ot, .inl (ar 2, 1, .inr (.inl (fun _ => 0))))]) [0] rfl, hD.sub (ws' := [(ot, .inl (ar 2, 1, .inr (.inl (fun _ => 0))))]) [0] (by decide) rfl⟩⟩, hS.F ht⟩) hS.2.2 d_La_give_14
  · exact hw.elim
set_option maxHeartbeats 4000000 in
set_option maxRecDepth 100000 in
theorem c_La_run (l : Launch) (hst : l.stackTraces = false) (dC : Nat → ClassId) (dI : Nat → Nat → Nat) (ar : Nat → ClassId) (N0 : Nat) (z : Nat → Nat) (ot : Nat) (h0 rd mc va ch gi bo qu sl sk : Nat) (n : Int32) (sz : Nat) : Met l ({ cls := "ChannelMachineLaw", name := "run", desc := "(LChannelMachine;I[J)I" } : Jvm.MethodName) ((Jvm.Cond.codeWith ({ cls := "ChannelMachineLaw", name := "run", desc := "(LChannelMachine;I[J)I" } : Jvm.MethodName) method_5_code (4 : Nat) (Option.some Jvm.ClassFile.FieldType.int) [((0 : Nat), (9 : Nat), (12 : Nat), (13 : Nat)), ((0 : Nat), (9 : Nat), (15 : Nat), (15 : Nat)), ((0 : Nat), (9 : Nat), (18 : Nat), (25 : Nat))]) :: x_T) ({ frames := 7, cells := 1, slots := 6, locals := 103 }) (x_Pc (dC, dI) ar N0 z [(ot, .inl (ar 2, 1, .inr (.inl (fun _ => 0)))), (h0, .inr (5, [.ref rd, .ref mc, .int (-1)])), (mc, .inr (2, [.ref va, .ref ch, .ref gi, .ref bo, .ref qu, .ref sl, .ref sk, .int 0, .int 0, .int 0, .long 0]))] sz [.ref h0, .int n, .ref ot]) (va_Qi (fun (r : Int32) (u : Nat → Int64) => ((n < 1 ∨ ¬ n ≤ 200) ∧ r = 1) ∨ ((¬ n < 1 ∧ n ≤ 200) ∧ r = 2)) (fun u t => va_P (dC, dI) x_cl [(ot, .inl (ar 2, 1, .inr (.inl u)))] t.heap ∧ va_D (va_A [(ot, .inl (ar 2, 1, .inr (.inl (fun _ => 0)))), (h0, .inr (5, [.ref rd, .ref mc, .int (-1)])), (mc, .inr (2, [.ref va, .ref ch, .ref gi, .ref bo, .ref qu, .ref sl, .ref sk, .int 0, .int 0, .int 0, .long 0]))] sz) [(ot, .inl (ar 2, 1, .inr (.inl u)))]) (va_A [(ot, .inl (ar 2, 1, .inr (.inl (fun _ => 0)))), (h0, .inr (5, [.ref rd, .ref mc, .int (-1)])), (mc, .inr (2, [.ref va, .ref ch, .ref gi, .ref bo, .ref qu, .ref sl, .ref sk, .int 0, .int 0, .int 0, .long 0]))] sz)) 1 6 (va_A [(ot, .inl (ar 2, 1, .inr (.inl (fun _ => 0)))), (h0, .inr (5, [.ref rd, .ref mc, .int (-1)])), (mc, .inr (2, [.ref va, .ref ch, .ref gi, .ref bo, .ref qu, .ref sl, .ref sk, .int 0, .int 0, .int 0, .long 0]))] sz) := by
  refine va_MetW (cc := method_5_code) (maxL := 4) (ret := (some .int)) (by decide) rfl ?_
  intro p e s m args below meth c s₁ B hml hv
  obtain ⟨rfl, hsz, hN0, hP, hU, hZ, hD0⟩ := hv
  have hK := hU.1
  have hx := B.exec
  have hb := B.bytes
  have hr := B.returns
  have hts : ∀ w ∈ x_T, w.before ([.ref h0, .int n, .ref ot] : List Value).toArray s = true := fun w h => atoms_spec (ws := (Jvm.Cond.codeWith ({ cls := "ChannelMachineLaw", name := "run", desc := "(LChannelMachine;I[J)I" } : Jvm.MethodName) method_5_code (4 : Nat) (Option.some Jvm.ClassFile.FieldType.int) [((0 : Nat), (9 : Nat), (12 : Nat), (13 : Nat)), ((0 : Nat), (9 : Nat), (15 : Nat), (15 : Nat)), ((0 : Nat), (9 : Nat), (18 : Nat), (25 : Nat))]) :: x_T) B.pre w (List.mem_cons_of_mem _ h)
  have hown : s.vm.findClass "ChannelMachineLaw" = some m.cls := findClass_of_methodNamed B.named
  have hlocks := B.notSynchronized
  subst hsz
  have hD := hD0.self (sz := s.heap.size)
  have hAN := x_AN hD0 hN0
  generalize hAe : va_A [(ot, .inl (ar 2, 1, .inr (.inl (fun _ => 0)))), (h0, .inr (5, [.ref rd, .ref mc, .int (-1)])), (mc, .inr (2, [.ref va, .ref ch, .ref gi, .ref bo, .ref qu, .ref sl, .ref sk, .int 0, .int 0, .int 0, .long 0]))] s.heap.size = A at hD hAN ⊢
  have hA : ∀ q : Nat, s.heap.size ≤ q → A q := fun q h => by rw [← hAe]; exact Or.inr h
  have hS : va_S A s.heap s.heap [] := va_S.rf
  have hP : va_P (dC, dI) x_cl [(ot, .inl (ar 2, 1, .inr (.inl (fun _ => 0)))), (h0, .inr (5, [.ref rd, .ref mc, .int (-1)])), (mc, .inr (2, [.ref va, .ref ch, .ref gi, .ref bo, .ref qu, .ref sl, .ref sk, .int 0, .int 0, .int 0, .long 0]))] s.heap := hP
  have hl := lv_entry ([.ref h0, .int n, .ref ot]) (n := 4) (Nat.le_of_ble_eq_true rfl)
  rw [lg_entry_eq]
  generalize (lg_sl ([.ref h0, .int n, .ref ot]) ++ List.replicate (4 - (lg_sl ([.ref h0, .int n, .ref ot])).length) Slot.unset).toArray = ls at hl ⊢
  have hl : lv_has ls 4 [(0, .ref h0), (1, .int n), (2, .ref ot)] := hl
  have hH0 : s.heap.size ≤ s.heap.size := Nat.le_refl _
  have htab := vx_table (x := ({ cls := "ChannelMachineLaw", name := "run", desc := "(LChannelMachine;I[J)I" } : Jvm.MethodName)) B (hts _ k_709)
  refine lv_aload_n hx hb d_La_run_0 rfl (lv_at hl 2 rfl) ?_
  refine lv_iconst (v := 0) hx hb d_La_run_1 (by decide) ?_
  refine lv_aload_n hx hb d_La_run_2 rfl (lv_at hl 0 rfl) ?_
  refine lv_iload_n hx hb d_La_run_3 rfl (lv_at hl 1 rfl) ?_
  have hPc := hP.sub (ws' := [(h0, .inr (5, [.ref rd, .ref mc, .int (-1)])), (mc, .inr (2, [.ref va, .ref ch, .ref gi, .ref bo, .ref qu, .ref sl, .ref sk, .int 0, .int 0, .int 0, .long 0]))]) [1, 2] rfl
  have hDc := hD.sub (ws' := [(h0, .inr (5, [.ref rd, .ref mc, .int (-1)])), (mc, .inr (2, [.ref va, .ref ch, .ref gi, .ref bo, .ref qu, .ref sl, .ref sk, .int 0, .int 0, .int 0, .long 0]))]) [1, 2] (by decide) rfl
  have hFc := va_free (wc := [(h0, .inr (5, [.ref rd, .ref mc, .int (-1)])), (mc, .inr (2, [.ref va, .ref ch, .ref gi, .ref bo, .ref qu, .ref sl, .ref sk, .int 0, .int 0, .int 0, .long 0]))]) hD hS hA [1, 2] rfl
  refine vx_calli (vx_runV (As := [.int n]) (rest := [.int 0, .ref ot]) ⟨hx, hb, hml, hown, hts⟩ (c_CM_run l hst dC dI ar N0 z h0 rd mc va ch gi bo qu sl sk (n) s.heap.size) (cwV 1 hts (x_goodV k_711 k_712 k_713 k_1 k_714) rfl rfl rfl (by decide +kernel) ⟨Nat.le_of_ble_eq_true rfl, Nat.le_of_ble_eq_true rfl⟩) ⟨x_blind, va_recv hK hPc (ci := 5) (q0 := 0) rfl rfl, fun U hU9 hW => x_pre hU9 hW hPc hDc hU hZ hS hAN hN0⟩ rfl rfl hl.1 rfl (lv_room (Nat.le_of_ble_eq_true rfl)) d_La_run_4 ⟨Nat.le_of_ble_eq_true rfl, Nat.le_of_ble_eq_true rfl⟩) hS (fun q _ h => hFc q h) hFc (fun q h1 h2 => hFc q h2) (fun E ce q9 u t H1 locs ht hvm hpx hbx hz1 hk1 hS hce hcv hcl => ?_) (fun r1 u2 t H1 locs ht hvm hw hB hz1 hk1 hS => ?_)
  · have hP1 : va_P (dC, dI) x_cl [] H1 := fun k q h => by simp at h
    have hD1 : va_D (va_A [(h0, .inr (5, [.ref rd, .ref mc, .int (-1)])), (mc, .inr (2, [.ref va, .ref ch, .ref gi, .ref bo, .ref qu, .ref sl, .ref sk, .int 0, .int 0, .int 0, .long 0]))] s.heap.size) [] := ⟨fun i j p q h => by simp at h, fun k q h => by simp at h⟩
    obtain ⟨hP, hD⟩ := va_join (wr := [(ot, .inl (ar 2, 1, .inr (.inl (fun _ => 0))))]) (w1 := []) hP hD [1, 2] [0] rfl rfl (by decide) (by decide) hk1 hFc hP1 hD1
    generalize H1 = H at hP hS hce ⊢
    have hP : va_P (dC, dI) x_cl [(ot, .inl (ar 2, 1, .inr (.inl (fun _ => 0))))] H := hP
    have hD : va_D A [(ot, .inl (ar 2, 1, .inr (.inl (fun _ => 0))))] := hD
    refine vx_widen (k := 1) (n := 6) (Nat.le_of_ble_eq_true rfl) (Nat.le_of_ble_eq_true rfl) ?_
    rcases hbx with ⟨rfl, h9⟩ | ⟨rfl, h9⟩
    · refine vx_catch hown [] ⟨0, 9, 12, 13⟩ [⟨0, 9, 15, 15⟩, ⟨0, 9, 18, 25⟩] htab (fun z h => by cases h) (by decide) (by decide) (hts _ k_221) (va_Nw.use rfl (hU.2.1 _ kn_232)) hce hcv hcl ?_
      refine lv_astore_n (lv' := [(3, .ref q9), (0, .ref h0), (1, .int n), (2, .ref ot)]) hx hb d_La_run_12 rfl hl (by decide) rfl (fun ls hl => ?_)
      refine lv_iconst (v := 1) hx hb d_La_run_13 (by decide) ?_
      refine W.widen (k := 1) (n := 6) (Nat.le_of_ble_eq_true rfl) (Nat.le_of_ble_eq_true rfl) ?_
      exact W.iret (v := 1) hx hb hr (fun t ht hW => ⟨⟨1, (fun _ => 0), rfl, Or.inl ⟨h9, rfl⟩, ⟨by rw [ht]; exact hP.sub (ws' := [(ot, .inl (ar 2, 1, .inr (.inl (fun _ => 0))))]) [0] rfl, hD.sub (ws' := [(ot, .inl (ar 2, 1, .inr (.inl (fun _ => 0))))]) [0] (by decide) rfl⟩⟩, hS.F ht⟩) hS.2.2 d_La_run_14
    · refine vx_catch hown [⟨0, 9, 12, 13⟩] ⟨0, 9, 15, 15⟩ [⟨0, 9, 18, 25⟩] htab (fun z h => by rcases List.mem_singleton.mp h with rfl; exact Or.inr ⟨by decide, "java/lang/IllegalArgumentException", hts _ k_221, hU.2.2.2.2.2⟩) (by decide) (by decide) (hts _ k_222) (va_Nw.use rfl (hU.2.1 _ kn_301)) hce hcv hcl ?_
      refine lv_astore_n (lv' := [(3, .ref q9), (0, .ref h0), (1, .int n), (2, .ref ot)]) hx hb d_La_run_15 rfl hl (by decide) rfl (fun ls hl => ?_)
      refine lv_iconst (v := 2) hx hb d_La_run_16 (by decide) ?_
      refine W.widen (k := 1) (n := 6) (Nat.le_of_ble_eq_true rfl) (Nat.le_of_ble_eq_true rfl) ?_
      exact W.iret (v := 2) hx hb hr (fun t ht hW => ⟨⟨2, (fun _ => 0), rfl, Or.inr ⟨h9, rfl⟩, ⟨by rw [ht]; exact hP.sub (ws' := [(ot, .inl (ar 2, 1, .inr (.inl (fun _ => 0))))]) [0] rfl, hD.sub (ws' := [(ot, .inl (ar 2, 1, .inr (.inl (fun _ => 0))))]) [0] (by decide) rfl⟩⟩, hS.F ht⟩) hS.2.2 d_La_run_17
  · exact hw.elim
set_option maxHeartbeats 4000000 in
set_option maxRecDepth 100000 in
theorem c_CM_channel (l : Launch) (hst : l.stackTraces = false) (dC : Nat → ClassId) (dI : Nat → Nat → Nat) (ar : Nat → ClassId) (N0 : Nat) (z : Nat → Nat) (h0 rd mc va ch gi bo qu sl sk : Nat) (y0 y1 y2 y3 y4 y5 : Nat) (g : Nat → Option Nat) (v : Int32) (sz : Nat) (g0 : g 0 = some y0) (g1 : g 1 = some y1) (g2 : g 2 = some y2) (g3 : g 3 = some y3) (g4 : g 4 = some y4) (g5 : g 5 = some y5) : vx_Met l ({ cls := "ChannelMachine", name := "channel", desc := "(I)I" } : Jvm.MethodName) ((Jvm.Cond.code ({ cls := "ChannelMachine", name := "channel", desc := "(I)I" } : Jvm.MethodName) prog_1_method_10_code (3 : Nat) (Option.some Jvm.ClassFile.FieldType.int)) :: x_T) ({ frames := 6, cells := 1, slots := 6, locals := 82 }) (x_Pc (dC, dI) ar N0 z [(h0, .inr (5, [.ref rd, .ref mc, .int (-1)])), (mc, .inr (2, [.ref va, .ref ch, .ref gi, .ref bo, .ref qu, .ref sl, .ref sk, .int 0, .int 0, .int 0, .long 0])), (ch, .inl (ar 4, 6, .inr (.inr (.inr (.inr g))))), (y0, .inr (1, [.null, .null, .int (-1), .null])), (y1, .inr (1, [.null, .null, .int (-1), .null])), (y2, .inr (1, [.null, .null, .int (-1), .null])), (y3, .inr (1, [.null, .null, .int (-1), .null])), (y4, .inr (1, [.null, .null, .int (-1), .null])), (y5, .inr (1, [.null, .null, .int (-1), .null]))] sz [.ref h0, .int v]) (va_Qi (fun (r : Int32) (u : Unit) => (¬ v < 0 ∧ v < 6) ∧ r = 0) (fun u t => True) (va_A [(h0, .inr (5, [.ref rd, .ref mc, .int (-1)])), (mc, .inr (2, [.ref va, .ref ch, .ref gi, .ref bo, .ref qu, .ref sl, .ref sk, .int 0, .int 0, .int 0, .long 0])), (ch, .inl (ar 4, 6, .inr (.inr (.inr (.inr g))))), (y0, .inr (1, [.null, .null, .int (-1), .null])), (y1, .inr (1, [.null, .null, .int (-1), .null])), (y2, .inr (1, [.null, .null, .int (-1), .null])), (y3, .inr (1, [.null, .null, .int (-1), .null])), (y4, .inr (1, [.null, .null, .int (-1), .null])), (y5, .inr (1, [.null, .null, .int (-1), .null]))] sz)) (vx_X (fun (_ : Unit) => v < 0 ∨ ¬ v < 6) (fun E _ t => E = "java/lang/IllegalArgumentException") (va_A [(h0, .inr (5, [.ref rd, .ref mc, .int (-1)])), (mc, .inr (2, [.ref va, .ref ch, .ref gi, .ref bo, .ref qu, .ref sl, .ref sk, .int 0, .int 0, .int 0, .long 0])), (ch, .inl (ar 4, 6, .inr (.inr (.inr (.inr g))))), (y0, .inr (1, [.null, .null, .int (-1), .null])), (y1, .inr (1, [.null, .null, .int (-1), .null])), (y2, .inr (1, [.null, .null, .int (-1), .null])), (y3, .inr (1, [.null, .null, .int (-1), .null])), (y4, .inr (1, [.null, .null, .int (-1), .null])), (y5, .inr (1, [.null, .null, .int (-1), .null]))] sz)) 1 6 (va_A [(h0, .inr (5, [.ref rd, .ref mc, .int (-1)])), (mc, .inr (2, [.ref va, .ref ch, .ref gi, .ref bo, .ref qu, .ref sl, .ref sk, .int 0, .int 0, .int 0, .long 0])), (ch, .inl (ar 4, 6, .inr (.inr (.inr (.inr g))))), (y0, .inr (1, [.null, .null, .int (-1), .null])), (y1, .inr (1, [.null, .null, .int (-1), .null])), (y2, .inr (1, [.null, .null, .int (-1), .null])), (y3, .inr (1, [.null, .null, .int (-1), .null])), (y4, .inr (1, [.null, .null, .int (-1), .null])), (y5, .inr (1, [.null, .null, .int (-1), .null]))] sz) := by
  refine vx_ofW (cc := prog_1_method_10_code) (maxL := 3) (ret := (some .int)) (by decide) rfl ?_
  intro p e s m args below meth c s₁ B hml htb hv
  obtain ⟨rfl, hsz, hN0, hP, hU, hZ, hD0⟩ := hv
  have hK := hU.1
  have hx := B.exec
  have hb := B.bytes
  have hr := B.returns
  have hts : ∀ w ∈ x_T, w.before ([.ref h0, .int v] : List Value).toArray s = true := fun w h => atoms_spec (ws := (Jvm.Cond.code ({ cls := "ChannelMachine", name := "channel", desc := "(I)I" } : Jvm.MethodName) prog_1_method_10_code (3 : Nat) (Option.some Jvm.ClassFile.FieldType.int)) :: x_T) B.pre w (List.mem_cons_of_mem _ h)
  have hown : s.vm.findClass "ChannelMachine" = some m.cls := findClass_of_methodNamed B.named
  have hlocks := B.notSynchronized
  subst hsz
  have hD := hD0.self (sz := s.heap.size)
  have hAN := x_AN hD0 hN0
  generalize hAe : va_A [(h0, .inr (5, [.ref rd, .ref mc, .int (-1)])), (mc, .inr (2, [.ref va, .ref ch, .ref gi, .ref bo, .ref qu, .ref sl, .ref sk, .int 0, .int 0, .int 0, .long 0])), (ch, .inl (ar 4, 6, .inr (.inr (.inr (.inr g))))), (y0, .inr (1, [.null, .null, .int (-1), .null])), (y1, .inr (1, [.null, .null, .int (-1), .null])), (y2, .inr (1, [.null, .null, .int (-1), .null])), (y3, .inr (1, [.null, .null, .int (-1), .null])), (y4, .inr (1, [.null, .null, .int (-1), .null])), (y5, .inr (1, [.null, .null, .int (-1), .null]))] s.heap.size = A at hD hAN ⊢
  have hA : ∀ q : Nat, s.heap.size ≤ q → A q := fun q h => by rw [← hAe]; exact Or.inr h
  have hS : va_S A s.heap s.heap [] := va_S.rf
  have hP : va_P (dC, dI) x_cl [(h0, .inr (5, [.ref rd, .ref mc, .int (-1)])), (mc, .inr (2, [.ref va, .ref ch, .ref gi, .ref bo, .ref qu, .ref sl, .ref sk, .int 0, .int 0, .int 0, .long 0])), (ch, .inl (ar 4, 6, .inr (.inr (.inr (.inr g))))), (y0, .inr (1, [.null, .null, .int (-1), .null])), (y1, .inr (1, [.null, .null, .int (-1), .null])), (y2, .inr (1, [.null, .null, .int (-1), .null])), (y3, .inr (1, [.null, .null, .int (-1), .null])), (y4, .inr (1, [.null, .null, .int (-1), .null])), (y5, .inr (1, [.null, .null, .int (-1), .null]))] s.heap := hP
  have hl := lv_entry ([.ref h0, .int v]) (n := 3) (Nat.le_of_ble_eq_true rfl)
  rw [lg_entry_eq]
  generalize (lg_sl ([.ref h0, .int v]) ++ List.replicate (3 - (lg_sl ([.ref h0, .int v])).length) Slot.unset).toArray = ls at hl ⊢
  have hl : lv_has ls 3 [(0, .ref h0), (1, .int v)] := hl
  have hH0 : s.heap.size ≤ s.heap.size := Nat.le_refl _
  refine lv_iload_n hx hb d_CM_channel_0 rfl (lv_at hl 1 rfl) ?_
  refine lv_if_lt (tgt := 10) hx hb d_CM_channel_1 (by decide) (fun c1 => ?_) (fun c1 => ?_)
  · exact x_throw (A := A) hx hb hst (own := "ChannelMachine") (cls := "java/lang/IllegalArgumentException") (text := "not a channel") (ik := 31) (is := 128) (ic := 35) hown k_230 k_13 (by decide) x_tChannelMachine_35 (by decide +kernel) rfl hts hU hZ hAN hS (by rw [hml]; exact hl.1) d_CM_channel_10 d_CM_channel_13 d_CM_channel_14 d_CM_channel_16 d_CM_channel_19 htb (Nat.le_of_ble_eq_true rfl) (Nat.le_of_ble_eq_true rfl) (Nat.le_of_ble_eq_true rfl) (Nat.le_of_ble_eq_true rfl) hlocks (fun t h1 h2 h3 h4 => ⟨(), Or.inl c1, rfl, h4⟩) hS.2.2 (Nat.le_of_ble_eq_true rfl) (Nat.le_of_ble_eq_true rfl)
  · refine lv_iload_n hx hb d_CM_channel_4 rfl (lv_at hl 1 rfl) ?_
    refine lv_bipush (v := 6) hx hb d_CM_channel_5 (by decide) ?_
    refine lv_icmp_lt (tgt := 20) hx hb d_CM_channel_7 (by decide) (fun c2 => ?_) (fun c2 => ?_)
    · refine lv_aload_n hx hb d_CM_channel_20 rfl (lv_at hl 0 rfl) ?_
      refine va_get (D := (dC, dI)) (ci := 5) (v := .ref mc) (C := "ChannelMachine") (T := F_CM) (N := 3) hx hb hts i_CM hown hK hP 0 rfl rfl 1 (by decide) (hts _ k_195) (fun _ h9 => h9) rfl d_CM_channel_21 ?_
      refine va_getN (D := (dC, dI)) (ci := 2) (v := .ref ch) (C := "ChannelMachine$Machine") (T := F_Machine) (N := 11) hx hb hts i_Machine hown hK hP 1 rfl rfl 1 (by decide) (hU.2.1 _ kn_153) (fun _ h9 => h9) rfl d_CM_channel_24 ?_
      refine lv_iload_n hx hb d_CM_channel_27 rfl (lv_at hl 1 rfl) ?_
      rcases x_6 c1 c2 with rfl | rfl | rfl | rfl | rfl | rfl
      · refine va_aldq hx hb hK hP 2 4 rfl rfl (by unfold vp_in; decide) d_CM_channel_28 ?_
        refine W.eq (g2 := F0 m 29 ls [.ref y0]) (by rw [show Int32.toNatClampNeg (0 : Int32) = 0 from by decide, g0]; rfl) ?_
        refine lv_astore_n (lv' := [(2, .ref y0), (0, .ref h0), (1, .int 0)]) hx hb d_CM_channel_29 rfl hl (by decide) rfl (fun ls hl => ?_)
        refine lv_aload_n hx hb d_CM_channel_30 rfl (lv_at hl 0 rfl) ?_
        refine va_getN (D := (dC, dI)) (ci := 1) (v := .null) (C := "ChannelMachine$Channel") (T := F_Channel) (N := 4) hx hb hts i_Channel hown hK hP 3 rfl rfl 1 (by decide) (hU.2.1 _ kn_136) (fun _ h9 => h9) rfl d_CM_channel_31 ?_
        refine lv_ifnullN (tgt := 39) hx hb d_CM_channel_34 (by decide) ?_
        refine lv_aload_n hx hb d_CM_channel_39 rfl (lv_at hl 0 rfl) ?_
        refine va_getN (D := (dC, dI)) (ci := 1) (v := .null) (C := "ChannelMachine$Channel") (T := F_Channel) (N := 4) hx hb hts i_Channel hown hK hP 3 rfl rfl 0 (by decide) (hU.2.1 _ kn_133) (fun _ h9 => h9) rfl d_CM_channel_40 ?_
        refine lv_ifnullN (tgt := 50) hx hb d_CM_channel_43 (by decide) ?_
        refine lv_iconst (v := 0) hx hb d_CM_channel_50 (by decide) ?_
        refine vx_ret ?_
        refine W.widen (k := 1) (n := 6) (Nat.le_of_ble_eq_true rfl) (Nat.le_of_ble_eq_true rfl) ?_
        exact W.iret (v := 0) hx hb hr (fun t ht hW => ⟨⟨0, (), rfl, ⟨⟨by decide, by decide⟩, rfl⟩, trivial⟩, hS.F ht⟩) hS.2.2 d_CM_channel_51
      · refine va_aldq hx hb hK hP 2 4 rfl rfl (by unfold vp_in; decide) d_CM_channel_28 ?_
        refine W.eq (g2 := F0 m 29 ls [.ref y1]) (by rw [show Int32.toNatClampNeg (1 : Int32) = 1 from by decide, g1]; rfl) ?_
        refine lv_astore_n (lv' := [(2, .ref y1), (0, .ref h0), (1, .int 1)]) hx hb d_CM_channel_29 rfl hl (by decide) rfl (fun ls hl => ?_)
        refine lv_aload_n hx hb d_CM_channel_30 rfl (lv_at hl 0 rfl) ?_
        refine va_getN (D := (dC, dI)) (ci := 1) (v := .null) (C := "ChannelMachine$Channel") (T := F_Channel) (N := 4) hx hb hts i_Channel hown hK hP 4 rfl rfl 1 (by decide) (hU.2.1 _ kn_136) (fun _ h9 => h9) rfl d_CM_channel_31 ?_
        refine lv_ifnullN (tgt := 39) hx hb d_CM_channel_34 (by decide) ?_
        refine lv_aload_n hx hb d_CM_channel_39 rfl (lv_at hl 0 rfl) ?_
        refine va_getN (D := (dC, dI)) (ci := 1) (v := .null) (C := "ChannelMachine$Channel") (T := F_Channel) (N := 4) hx hb hts i_Channel hown hK hP 4 rfl rfl 0 (by decide) (hU.2.1 _ kn_133) (fun _ h9 => h9) rfl d_CM_channel_40 ?_
        refine lv_ifnullN (tgt := 50) hx hb d_CM_channel_43 (by decide) ?_
        refine lv_iconst (v := 0) hx hb d_CM_channel_50 (by decide) ?_
        refine vx_ret ?_
        refine W.widen (k := 1) (n := 6) (Nat.le_of_ble_eq_true rfl) (Nat.le_of_ble_eq_true rfl) ?_
        exact W.iret (v := 0) hx hb hr (fun t ht hW => ⟨⟨0, (), rfl, ⟨⟨by decide, by decide⟩, rfl⟩, trivial⟩, hS.F ht⟩) hS.2.2 d_CM_channel_51
      · refine va_aldq hx hb hK hP 2 4 rfl rfl (by unfold vp_in; decide) d_CM_channel_28 ?_
        refine W.eq (g2 := F0 m 29 ls [.ref y2]) (by rw [show Int32.toNatClampNeg (2 : Int32) = 2 from by decide, g2]; rfl) ?_
        refine lv_astore_n (lv' := [(2, .ref y2), (0, .ref h0), (1, .int 2)]) hx hb d_CM_channel_29 rfl hl (by decide) rfl (fun ls hl => ?_)
        refine lv_aload_n hx hb d_CM_channel_30 rfl (lv_at hl 0 rfl) ?_
        refine va_getN (D := (dC, dI)) (ci := 1) (v := .null) (C := "ChannelMachine$Channel") (T := F_Channel) (N := 4) hx hb hts i_Channel hown hK hP 5 rfl rfl 1 (by decide) (hU.2.1 _ kn_136) (fun _ h9 => h9) rfl d_CM_channel_31 ?_
        refine lv_ifnullN (tgt := 39) hx hb d_CM_channel_34 (by decide) ?_
        refine lv_aload_n hx hb d_CM_channel_39 rfl (lv_at hl 0 rfl) ?_
        refine va_getN (D := (dC, dI)) (ci := 1) (v := .null) (C := "ChannelMachine$Channel") (T := F_Channel) (N := 4) hx hb hts i_Channel hown hK hP 5 rfl rfl 0 (by decide) (hU.2.1 _ kn_133) (fun _ h9 => h9) rfl d_CM_channel_40 ?_
        refine lv_ifnullN (tgt := 50) hx hb d_CM_channel_43 (by decide) ?_
        refine lv_iconst (v := 0) hx hb d_CM_channel_50 (by decide) ?_
        refine vx_ret ?_
        refine W.widen (k := 1) (n := 6) (Nat.le_of_ble_eq_true rfl) (Nat.le_of_ble_eq_true rfl) ?_
        exact W.iret (v := 0) hx hb hr (fun t ht hW => ⟨⟨0, (), rfl, ⟨⟨by decide, by decide⟩, rfl⟩, trivial⟩, hS.F ht⟩) hS.2.2 d_CM_channel_51
      · refine va_aldq hx hb hK hP 2 4 rfl rfl (by unfold vp_in; decide) d_CM_channel_28 ?_
        refine W.eq (g2 := F0 m 29 ls [.ref y3]) (by rw [show Int32.toNatClampNeg (3 : Int32) = 3 from by decide, g3]; rfl) ?_
        refine lv_astore_n (lv' := [(2, .ref y3), (0, .ref h0), (1, .int 3)]) hx hb d_CM_channel_29 rfl hl (by decide) rfl (fun ls hl => ?_)
        refine lv_aload_n hx hb d_CM_channel_30 rfl (lv_at hl 0 rfl) ?_
        refine va_getN (D := (dC, dI)) (ci := 1) (v := .null) (C := "ChannelMachine$Channel") (T := F_Channel) (N := 4) hx hb hts i_Channel hown hK hP 6 rfl rfl 1 (by decide) (hU.2.1 _ kn_136) (fun _ h9 => h9) rfl d_CM_channel_31 ?_
        refine lv_ifnullN (tgt := 39) hx hb d_CM_channel_34 (by decide) ?_
        refine lv_aload_n hx hb d_CM_channel_39 rfl (lv_at hl 0 rfl) ?_
        refine va_getN (D := (dC, dI)) (ci := 1) (v := .null) (C := "ChannelMachine$Channel") (T := F_Channel) (N := 4) hx hb hts i_Channel hown hK hP 6 rfl rfl 0 (by decide) (hU.2.1 _ kn_133) (fun _ h9 => h9) rfl d_CM_channel_40 ?_
        refine lv_ifnullN (tgt := 50) hx hb d_CM_channel_43 (by decide) ?_
        refine lv_iconst (v := 0) hx hb d_CM_channel_50 (by decide) ?_
        refine vx_ret ?_
        refine W.widen (k := 1) (n := 6) (Nat.le_of_ble_eq_true rfl) (Nat.le_of_ble_eq_true rfl) ?_
        exact W.iret (v := 0) hx hb hr (fun t ht hW => ⟨⟨0, (), rfl, ⟨⟨by decide, by decide⟩, rfl⟩, trivial⟩, hS.F ht⟩) hS.2.2 d_CM_channel_51
      · refine va_aldq hx hb hK hP 2 4 rfl rfl (by unfold vp_in; decide) d_CM_channel_28 ?_
        refine W.eq (g2 := F0 m 29 ls [.ref y4]) (by rw [show Int32.toNatClampNeg (4 : Int32) = 4 from by decide, g4]; rfl) ?_
        refine lv_astore_n (lv' := [(2, .ref y4), (0, .ref h0), (1, .int 4)]) hx hb d_CM_channel_29 rfl hl (by decide) rfl (fun ls hl => ?_)
        refine lv_aload_n hx hb d_CM_channel_30 rfl (lv_at hl 0 rfl) ?_
        refine va_getN (D := (dC, dI)) (ci := 1) (v := .null) (C := "ChannelMachine$Channel") (T := F_Channel) (N := 4) hx hb hts i_Channel hown hK hP 7 rfl rfl 1 (by decide) (hU.2.1 _ kn_136) (fun _ h9 => h9) rfl d_CM_channel_31 ?_
        refine lv_ifnullN (tgt := 39) hx hb d_CM_channel_34 (by decide) ?_
        refine lv_aload_n hx hb d_CM_channel_39 rfl (lv_at hl 0 rfl) ?_
        refine va_getN (D := (dC, dI)) (ci := 1) (v := .null) (C := "ChannelMachine$Channel") (T := F_Channel) (N := 4) hx hb hts i_Channel hown hK hP 7 rfl rfl 0 (by decide) (hU.2.1 _ kn_133) (fun _ h9 => h9) rfl d_CM_channel_40 ?_
        refine lv_ifnullN (tgt := 50) hx hb d_CM_channel_43 (by decide) ?_
        refine lv_iconst (v := 0) hx hb d_CM_channel_50 (by decide) ?_
        refine vx_ret ?_
        refine W.widen (k := 1) (n := 6) (Nat.le_of_ble_eq_true rfl) (Nat.le_of_ble_eq_true rfl) ?_
        exact W.iret (v := 0) hx hb hr (fun t ht hW => ⟨⟨0, (), rfl, ⟨⟨by decide, by decide⟩, rfl⟩, trivial⟩, hS.F ht⟩) hS.2.2 d_CM_channel_51
      · refine va_aldq hx hb hK hP 2 4 rfl rfl (by unfold vp_in; decide) d_CM_channel_28 ?_
        refine W.eq (g2 := F0 m 29 ls [.ref y5]) (by rw [show Int32.toNatClampNeg (5 : Int32) = 5 from by decide, g5]; rfl) ?_
        refine lv_astore_n (lv' := [(2, .ref y5), (0, .ref h0), (1, .int 5)]) hx hb d_CM_channel_29 rfl hl (by decide) rfl (fun ls hl => ?_)
        refine lv_aload_n hx hb d_CM_channel_30 rfl (lv_at hl 0 rfl) ?_
        refine va_getN (D := (dC, dI)) (ci := 1) (v := .null) (C := "ChannelMachine$Channel") (T := F_Channel) (N := 4) hx hb hts i_Channel hown hK hP 8 rfl rfl 1 (by decide) (hU.2.1 _ kn_136) (fun _ h9 => h9) rfl d_CM_channel_31 ?_
        refine lv_ifnullN (tgt := 39) hx hb d_CM_channel_34 (by decide) ?_
        refine lv_aload_n hx hb d_CM_channel_39 rfl (lv_at hl 0 rfl) ?_
        refine va_getN (D := (dC, dI)) (ci := 1) (v := .null) (C := "ChannelMachine$Channel") (T := F_Channel) (N := 4) hx hb hts i_Channel hown hK hP 8 rfl rfl 0 (by decide) (hU.2.1 _ kn_133) (fun _ h9 => h9) rfl d_CM_channel_40 ?_
        refine lv_ifnullN (tgt := 50) hx hb d_CM_channel_43 (by decide) ?_
        refine lv_iconst (v := 0) hx hb d_CM_channel_50 (by decide) ?_
        refine vx_ret ?_
        refine W.widen (k := 1) (n := 6) (Nat.le_of_ble_eq_true rfl) (Nat.le_of_ble_eq_true rfl) ?_
        exact W.iret (v := 0) hx hb hr (fun t ht hW => ⟨⟨0, (), rfl, ⟨⟨by decide, by decide⟩, rfl⟩, trivial⟩, hS.F ht⟩) hS.2.2 d_CM_channel_51
    · exact x_throw (A := A) hx hb hst (own := "ChannelMachine") (cls := "java/lang/IllegalArgumentException") (text := "not a channel") (ik := 31) (is := 128) (ic := 35) hown k_230 k_13 (by decide) x_tChannelMachine_35 (by decide +kernel) rfl hts hU hZ hAN hS (by rw [hml]; exact hl.1) d_CM_channel_10 d_CM_channel_13 d_CM_channel_14 d_CM_channel_16 d_CM_channel_19 htb (Nat.le_of_ble_eq_true rfl) (Nat.le_of_ble_eq_true rfl) (Nat.le_of_ble_eq_true rfl) (Nat.le_of_ble_eq_true rfl) hlocks (fun t h1 h2 h3 h4 => ⟨(), Or.inr c2, rfl, h4⟩) hS.2.2 (Nat.le_of_ble_eq_true rfl) (Nat.le_of_ble_eq_true rfl)
set_option maxHeartbeats 4000000 in
set_option maxRecDepth 100000 in
theorem c_La_channel (l : Launch) (hst : l.stackTraces = false) (dC : Nat → ClassId) (dI : Nat → Nat → Nat) (ar : Nat → ClassId) (N0 : Nat) (z : Nat → Nat) (ot : Nat) (h0 rd mc va ch gi bo qu sl sk : Nat) (y0 y1 y2 y3 y4 y5 : Nat) (g : Nat → Option Nat) (v : Int32) (sz : Nat) (g0 : g 0 = some y0) (g1 : g 1 = some y1) (g2 : g 2 = some y2) (g3 : g 3 = some y3) (g4 : g 4 = some y4) (g5 : g 5 = some y5) : Met l ({ cls := "ChannelMachineLaw", name := "channel", desc := "(LChannelMachine;I[J)I" } : Jvm.MethodName) ((Jvm.Cond.codeWith ({ cls := "ChannelMachineLaw", name := "channel", desc := "(LChannelMachine;I[J)I" } : Jvm.MethodName) method_10_code (4 : Nat) (Option.some Jvm.ClassFile.FieldType.int) [((0 : Nat), (9 : Nat), (12 : Nat), (13 : Nat))]) :: x_T) ({ frames := 7, cells := 1, slots := 6, locals := 104 }) (x_Pc (dC, dI) ar N0 z [(ot, .inl (ar 2, 1, .inr (.inl (fun _ => 0)))), (h0, .inr (5, [.ref rd, .ref mc, .int (-1)])), (mc, .inr (2, [.ref va, .ref ch, .ref gi, .ref bo, .ref qu, .ref sl, .ref sk, .int 0, .int 0, .int 0, .long 0])), (ch, .inl (ar 4, 6, .inr (.inr (.inr (.inr g))))), (y0, .inr (1, [.null, .null, .int (-1), .null])), (y1, .inr (1, [.null, .null, .int (-1), .null])), (y2, .inr (1, [.null, .null, .int (-1), .null])), (y3, .inr (1, [.null, .null, .int (-1), .null])), (y4, .inr (1, [.null, .null, .int (-1), .null])), (y5, .inr (1, [.null, .null, .int (-1), .null]))] sz [.ref h0, .int v, .ref ot]) (va_Qi (fun (r : Int32) (u : Nat → Int64) => ((¬ v < 0 ∧ v < 6) ∧ r = 0 ∧ u 0 = 0) ∨ ((v < 0 ∨ ¬ v < 6) ∧ r = 1)) (fun u t => va_P (dC, dI) x_cl [(ot, .inl (ar 2, 1, .inr (.inl u)))] t.heap ∧ va_D (va_A [(ot, .inl (ar 2, 1, .inr (.inl (fun _ => 0)))), (h0, .inr (5, [.ref rd, .ref mc, .int (-1)])), (mc, .inr (2, [.ref va, .ref ch, .ref gi, .ref bo, .ref qu, .ref sl, .ref sk, .int 0, .int 0, .int 0, .long 0])), (ch, .inl (ar 4, 6, .inr (.inr (.inr (.inr g))))), (y0, .inr (1, [.null, .null, .int (-1), .null])), (y1, .inr (1, [.null, .null, .int (-1), .null])), (y2, .inr (1, [.null, .null, .int (-1), .null])), (y3, .inr (1, [.null, .null, .int (-1), .null])), (y4, .inr (1, [.null, .null, .int (-1), .null])), (y5, .inr (1, [.null, .null, .int (-1), .null]))] sz) [(ot, .inl (ar 2, 1, .inr (.inl u)))]) (va_A [(ot, .inl (ar 2, 1, .inr (.inl (fun _ => 0)))), (h0, .inr (5, [.ref rd, .ref mc, .int (-1)])), (mc, .inr (2, [.ref va, .ref ch, .ref gi, .ref bo, .ref qu, .ref sl, .ref sk, .int 0, .int 0, .int 0, .long 0])), (ch, .inl (ar 4, 6, .inr (.inr (.inr (.inr g))))), (y0, .inr (1, [.null, .null, .int (-1), .null])), (y1, .inr (1, [.null, .null, .int (-1), .null])), (y2, .inr (1, [.null, .null, .int (-1), .null])), (y3, .inr (1, [.null, .null, .int (-1), .null])), (y4, .inr (1, [.null, .null, .int (-1), .null])), (y5, .inr (1, [.null, .null, .int (-1), .null]))] sz)) 1 6 (va_A [(ot, .inl (ar 2, 1, .inr (.inl (fun _ => 0)))), (h0, .inr (5, [.ref rd, .ref mc, .int (-1)])), (mc, .inr (2, [.ref va, .ref ch, .ref gi, .ref bo, .ref qu, .ref sl, .ref sk, .int 0, .int 0, .int 0, .long 0])), (ch, .inl (ar 4, 6, .inr (.inr (.inr (.inr g))))), (y0, .inr (1, [.null, .null, .int (-1), .null])), (y1, .inr (1, [.null, .null, .int (-1), .null])), (y2, .inr (1, [.null, .null, .int (-1), .null])), (y3, .inr (1, [.null, .null, .int (-1), .null])), (y4, .inr (1, [.null, .null, .int (-1), .null])), (y5, .inr (1, [.null, .null, .int (-1), .null]))] sz) := by
  refine va_MetW (cc := method_10_code) (maxL := 4) (ret := (some .int)) (by decide) rfl ?_
  intro p e s m args below meth c s₁ B hml hv
  obtain ⟨rfl, hsz, hN0, hP, hU, hZ, hD0⟩ := hv
  have hK := hU.1
  have hx := B.exec
  have hb := B.bytes
  have hr := B.returns
  have hts : ∀ w ∈ x_T, w.before ([.ref h0, .int v, .ref ot] : List Value).toArray s = true := fun w h => atoms_spec (ws := (Jvm.Cond.codeWith ({ cls := "ChannelMachineLaw", name := "channel", desc := "(LChannelMachine;I[J)I" } : Jvm.MethodName) method_10_code (4 : Nat) (Option.some Jvm.ClassFile.FieldType.int) [((0 : Nat), (9 : Nat), (12 : Nat), (13 : Nat))]) :: x_T) B.pre w (List.mem_cons_of_mem _ h)
  have hown : s.vm.findClass "ChannelMachineLaw" = some m.cls := findClass_of_methodNamed B.named
  have hlocks := B.notSynchronized
  subst hsz
  have hD := hD0.self (sz := s.heap.size)
  have hAN := x_AN hD0 hN0
  generalize hAe : va_A [(ot, .inl (ar 2, 1, .inr (.inl (fun _ => 0)))), (h0, .inr (5, [.ref rd, .ref mc, .int (-1)])), (mc, .inr (2, [.ref va, .ref ch, .ref gi, .ref bo, .ref qu, .ref sl, .ref sk, .int 0, .int 0, .int 0, .long 0])), (ch, .inl (ar 4, 6, .inr (.inr (.inr (.inr g))))), (y0, .inr (1, [.null, .null, .int (-1), .null])), (y1, .inr (1, [.null, .null, .int (-1), .null])), (y2, .inr (1, [.null, .null, .int (-1), .null])), (y3, .inr (1, [.null, .null, .int (-1), .null])), (y4, .inr (1, [.null, .null, .int (-1), .null])), (y5, .inr (1, [.null, .null, .int (-1), .null]))] s.heap.size = A at hD hAN ⊢
  have hA : ∀ q : Nat, s.heap.size ≤ q → A q := fun q h => by rw [← hAe]; exact Or.inr h
  have hS : va_S A s.heap s.heap [] := va_S.rf
  have hP : va_P (dC, dI) x_cl [(ot, .inl (ar 2, 1, .inr (.inl (fun _ => 0)))), (h0, .inr (5, [.ref rd, .ref mc, .int (-1)])), (mc, .inr (2, [.ref va, .ref ch, .ref gi, .ref bo, .ref qu, .ref sl, .ref sk, .int 0, .int 0, .int 0, .long 0])), (ch, .inl (ar 4, 6, .inr (.inr (.inr (.inr g))))), (y0, .inr (1, [.null, .null, .int (-1), .null])), (y1, .inr (1, [.null, .null, .int (-1), .null])), (y2, .inr (1, [.null, .null, .int (-1), .null])), (y3, .inr (1, [.null, .null, .int (-1), .null])), (y4, .inr (1, [.null, .null, .int (-1), .null])), (y5, .inr (1, [.null, .null, .int (-1), .null]))] s.heap := hP
  have hl := lv_entry ([.ref h0, .int v, .ref ot]) (n := 4) (Nat.le_of_ble_eq_true rfl)
  rw [lg_entry_eq]
  generalize (lg_sl ([.ref h0, .int v, .ref ot]) ++ List.replicate (4 - (lg_sl ([.ref h0, .int v, .ref ot])).length) Slot.unset).toArray = ls at hl ⊢
  have hl : lv_has ls 4 [(0, .ref h0), (1, .int v), (2, .ref ot)] := hl
  have hH0 : s.heap.size ≤ s.heap.size := Nat.le_refl _
  have htab := vx_table (x := ({ cls := "ChannelMachineLaw", name := "channel", desc := "(LChannelMachine;I[J)I" } : Jvm.MethodName)) B (hts _ k_955)
  refine lv_aload_n hx hb d_La_channel_0 rfl (lv_at hl 2 rfl) ?_
  refine lv_iconst (v := 0) hx hb d_La_channel_1 (by decide) ?_
  refine lv_aload_n hx hb d_La_channel_2 rfl (lv_at hl 0 rfl) ?_
  refine lv_iload_n hx hb d_La_channel_3 rfl (lv_at hl 1 rfl) ?_
  have hPc := hP.sub (ws' := [(h0, .inr (5, [.ref rd, .ref mc, .int (-1)])), (mc, .inr (2, [.ref va, .ref ch, .ref gi, .ref bo, .ref qu, .ref sl, .ref sk, .int 0, .int 0, .int 0, .long 0])), (ch, .inl (ar 4, 6, .inr (.inr (.inr (.inr g))))), (y0, .inr (1, [.null, .null, .int (-1), .null])), (y1, .inr (1, [.null, .null, .int (-1), .null])), (y2, .inr (1, [.null, .null, .int (-1), .null])), (y3, .inr (1, [.null, .null, .int (-1), .null])), (y4, .inr (1, [.null, .null, .int (-1), .null])), (y5, .inr (1, [.null, .null, .int (-1), .null]))]) [1, 2, 3, 4, 5, 6, 7, 8, 9] rfl
  have hDc := hD.sub (ws' := [(h0, .inr (5, [.ref rd, .ref mc, .int (-1)])), (mc, .inr (2, [.ref va, .ref ch, .ref gi, .ref bo, .ref qu, .ref sl, .ref sk, .int 0, .int 0, .int 0, .long 0])), (ch, .inl (ar 4, 6, .inr (.inr (.inr (.inr g))))), (y0, .inr (1, [.null, .null, .int (-1), .null])), (y1, .inr (1, [.null, .null, .int (-1), .null])), (y2, .inr (1, [.null, .null, .int (-1), .null])), (y3, .inr (1, [.null, .null, .int (-1), .null])), (y4, .inr (1, [.null, .null, .int (-1), .null])), (y5, .inr (1, [.null, .null, .int (-1), .null]))]) [1, 2, 3, 4, 5, 6, 7, 8, 9] (by decide) rfl
  have hFc := va_free (wc := [(h0, .inr (5, [.ref rd, .ref mc, .int (-1)])), (mc, .inr (2, [.ref va, .ref ch, .ref gi, .ref bo, .ref qu, .ref sl, .ref sk, .int 0, .int 0, .int 0, .long 0])), (ch, .inl (ar 4, 6, .inr (.inr (.inr (.inr g))))), (y0, .inr (1, [.null, .null, .int (-1), .null])), (y1, .inr (1, [.null, .null, .int (-1), .null])), (y2, .inr (1, [.null, .null, .int (-1), .null])), (y3, .inr (1, [.null, .null, .int (-1), .null])), (y4, .inr (1, [.null, .null, .int (-1), .null])), (y5, .inr (1, [.null, .null, .int (-1), .null]))]) hD hS hA [1, 2, 3, 4, 5, 6, 7, 8, 9] rfl
  refine vx_calli (vx_runV (As := [.int v]) (rest := [.int 0, .ref ot]) ⟨hx, hb, hml, hown, hts⟩ (c_CM_channel l hst dC dI ar N0 z h0 rd mc va ch gi bo qu sl sk y0 y1 y2 y3 y4 y5 g (v) s.heap.size g0 g1 g2 g3 g4 g5) (cwV 1 hts (x_goodV k_956 k_957 k_958 k_1 k_959) rfl rfl rfl (by decide +kernel) ⟨Nat.le_of_ble_eq_true rfl, Nat.le_of_ble_eq_true rfl⟩) ⟨x_blind, va_recv hK hPc (ci := 5) (q0 := 0) rfl rfl, fun U hU9 hW => x_pre hU9 hW hPc hDc hU hZ hS hAN hN0⟩ rfl rfl hl.1 rfl (lv_room (Nat.le_of_ble_eq_true rfl)) d_La_channel_4 ⟨Nat.le_of_ble_eq_true rfl, Nat.le_of_ble_eq_true rfl⟩) hS (fun q _ h => hFc q h) hFc (fun q h1 h2 => hFc q h2) (fun E ce q9 u t H1 locs ht hvm hpx hbx hz1 hk1 hS hce hcv hcl => ?_) (fun r1 u2 t H1 locs ht hvm hw hB hz1 hk1 hS => ?_)
  · have hP1 : va_P (dC, dI) x_cl [] H1 := fun k q h => by simp at h
    have hD1 : va_D (va_A [(h0, .inr (5, [.ref rd, .ref mc, .int (-1)])), (mc, .inr (2, [.ref va, .ref ch, .ref gi, .ref bo, .ref qu, .ref sl, .ref sk, .int 0, .int 0, .int 0, .long 0])), (ch, .inl (ar 4, 6, .inr (.inr (.inr (.inr g))))), (y0, .inr (1, [.null, .null, .int (-1), .null])), (y1, .inr (1, [.null, .null, .int (-1), .null])), (y2, .inr (1, [.null, .null, .int (-1), .null])), (y3, .inr (1, [.null, .null, .int (-1), .null])), (y4, .inr (1, [.null, .null, .int (-1), .null])), (y5, .inr (1, [.null, .null, .int (-1), .null]))] s.heap.size) [] := ⟨fun i j p q h => by simp at h, fun k q h => by simp at h⟩
    obtain ⟨hP, hD⟩ := va_join (wr := [(ot, .inl (ar 2, 1, .inr (.inl (fun _ => 0))))]) (w1 := []) hP hD [1, 2, 3, 4, 5, 6, 7, 8, 9] [0] rfl rfl (by decide) (by decide) hk1 hFc hP1 hD1
    generalize H1 = H at hP hS hce ⊢
    have hP : va_P (dC, dI) x_cl [(ot, .inl (ar 2, 1, .inr (.inl (fun _ => 0))))] H := hP
    have hD : va_D A [(ot, .inl (ar 2, 1, .inr (.inl (fun _ => 0))))] := hD
    refine vx_widen (k := 1) (n := 6) (Nat.le_of_ble_eq_true rfl) (Nat.le_of_ble_eq_true rfl) ?_
    obtain rfl := hbx
    refine vx_catch hown [] ⟨0, 9, 12, 13⟩ [] htab (fun z h => by cases h) (by decide) (by decide) (hts _ k_221) (va_Nw.use rfl (hU.2.1 _ kn_232)) hce hcv hcl ?_
    refine lv_astore_n (lv' := [(3, .ref q9), (0, .ref h0), (1, .int v), (2, .ref ot)]) hx hb d_La_channel_12 rfl hl (by decide) rfl (fun ls hl => ?_)
    refine lv_iconst (v := 1) hx hb d_La_channel_13 (by decide) ?_
    refine W.widen (k := 1) (n := 6) (Nat.le_of_ble_eq_true rfl) (Nat.le_of_ble_eq_true rfl) ?_
    exact W.iret (v := 1) hx hb hr (fun t ht hW => ⟨⟨1, (fun _ => 0), rfl, Or.inr ⟨hpx, rfl⟩, ⟨by rw [ht]; exact hP.sub (ws' := [(ot, .inl (ar 2, 1, .inr (.inl (fun _ => 0))))]) [0] rfl, hD.sub (ws' := [(ot, .inl (ar 2, 1, .inr (.inl (fun _ => 0))))]) [0] (by decide) rfl⟩⟩, hS.F ht⟩) hS.2.2 d_La_channel_14
  · have hP1 : va_P (dC, dI) x_cl [] t.heap := fun k q h => by simp at h
    have hD1 : va_D (va_A [(h0, .inr (5, [.ref rd, .ref mc, .int (-1)])), (mc, .inr (2, [.ref va, .ref ch, .ref gi, .ref bo, .ref qu, .ref sl, .ref sk, .int 0, .int 0, .int 0, .long 0])), (ch, .inl (ar 4, 6, .inr (.inr (.inr (.inr g))))), (y0, .inr (1, [.null, .null, .int (-1), .null])), (y1, .inr (1, [.null, .null, .int (-1), .null])), (y2, .inr (1, [.null, .null, .int (-1), .null])), (y3, .inr (1, [.null, .null, .int (-1), .null])), (y4, .inr (1, [.null, .null, .int (-1), .null])), (y5, .inr (1, [.null, .null, .int (-1), .null]))] s.heap.size) [] := ⟨fun i j p q h => by simp at h, fun k q h => by simp at h⟩
    rw [ht] at hP1
    obtain ⟨hP, hD⟩ := va_join (wr := [(ot, .inl (ar 2, 1, .inr (.inl (fun _ => 0))))]) (w1 := []) hP hD [1, 2, 3, 4, 5, 6, 7, 8, 9] [0] rfl rfl (by decide) (by decide) hk1 hFc hP1 hD1
    generalize H1 = H at hP hS ⊢
    have hP : va_P (dC, dI) x_cl [(ot, .inl (ar 2, 1, .inr (.inl (fun _ => 0))))] H := hP
    have hD : va_D A [(ot, .inl (ar 2, 1, .inr (.inl (fun _ => 0))))] := hD
    refine W.widen (k := 1) (n := 6) (Nat.le_of_ble_eq_true rfl) (Nat.le_of_ble_eq_true rfl) ?_
    refine lv_i2l (v := (Int32.toInt64 r1)) hx hb d_La_channel_7 rfl ?_
    refine va_last hx hb hK hP hD hS 0 2 rfl rfl (i := 0) (x := (Int32.toInt64 r1)) (by unfold vp_in; decide) d_La_channel_8 (fun H locs hP hD hS => ?_)
    have hP : va_P (dC, dI) x_cl [(ot, .inl (ar 2, 1, .inr (.inl (vp_updL (fun _ => 0) (Int32.toNatClampNeg 0) (Int32.toInt64 r1)))))] H := hP
    have hD : va_D A [(ot, .inl (ar 2, 1, .inr (.inl (vp_updL (fun _ => 0) (Int32.toNatClampNeg 0) (Int32.toInt64 r1)))))] := hD
    refine lv_goto (tgt := 15) hx hb d_La_channel_9 (by decide) ?_
    refine lv_iconst (v := 0) hx hb d_La_channel_15 (by decide) ?_
    refine W.widen (k := 1) (n := 6) (Nat.le_of_ble_eq_true rfl) (Nat.le_of_ble_eq_true rfl) ?_
    exact W.iret (v := 0) hx hb hr (fun t ht hW => ⟨⟨0, (vp_updL (fun _ => 0) (Int32.toNatClampNeg 0) (Int32.toInt64 r1)), rfl, Or.inl ⟨hw.1, rfl, by rw [hw.2]; rfl⟩, ⟨by rw [ht]; exact hP.sub (ws' := [(ot, .inl (ar 2, 1, .inr (.inl (vp_updL (fun _ => 0) (Int32.toNatClampNeg 0) (Int32.toInt64 r1)))))]) [0] rfl, hD.sub (ws' := [(ot, .inl (ar 2, 1, .inr (.inl (vp_updL (fun _ => 0) (Int32.toNatClampNeg 0) (Int32.toInt64 r1)))))]) [0] (by decide) rfl⟩⟩, hS.F ht⟩) hS.2.2 d_La_channel_16
