-- ===== 84.yact: await, pass, input, output, loop of the machine, by program =====
theorem k_791 : (Jvm.Cond.methodLink "ChannelMachine$Machine" (192 : Nat) ({ cls := "ChannelMachine$Machine", name := "evaluate", desc := "([I)I" } : Jvm.MethodName)) ∈ x_T := x_at 791 (by decide +kernel) (by decide +kernel)
theorem k_793 : (Jvm.Cond.instanceMethod ({ cls := "ChannelMachine$Machine", name := "evaluate", desc := "([I)I" } : Jvm.MethodName)) ∈ x_T := x_at 793 (by decide +kernel) (by decide +kernel)
theorem k_794 : (Jvm.Cond.code ({ cls := "ChannelMachine$Machine", name := "evaluate", desc := "([I)I" } : Jvm.MethodName) prog_6_method_26_code (5 : Nat) (Option.some Jvm.ClassFile.FieldType.int)) ∈ x_T := x_at 794 (by decide +kernel) (by decide +kernel)
theorem k_831 : (Jvm.Cond.methodLink "ChannelMachine$Machine" (236 : Nat) ({ cls := "ChannelMachine$Row", name := "isFull", desc := "()Z" } : Jvm.MethodName)) ∈ x_T := x_at 831 (by decide +kernel) (by decide +kernel)
theorem k_832 : (Jvm.Cond.instanceMethod ({ cls := "ChannelMachine$Row", name := "isFull", desc := "()Z" } : Jvm.MethodName)) ∈ x_T := x_at 832 (by decide +kernel) (by decide +kernel)
theorem k_833 : (Jvm.Cond.selects "ChannelMachine$Row" ({ cls := "ChannelMachine$Row", name := "isFull", desc := "()Z" } : Jvm.MethodName) ({ cls := "ChannelMachine$Row", name := "isFull", desc := "()Z" } : Jvm.MethodName)) ∈ x_T := x_at 833 (by decide +kernel) (by decide +kernel)
theorem k_834 : (Jvm.Cond.code ({ cls := "ChannelMachine$Row", name := "isFull", desc := "()Z" } : Jvm.MethodName) prog_9_method_2_code (1 : Nat) (Option.some Jvm.ClassFile.FieldType.boolean)) ∈ x_T := x_at 834 (by decide +kernel) (by decide +kernel)
theorem k_843 : (Jvm.Cond.methodLink "ChannelMachine$Machine" (246 : Nat) ({ cls := "ChannelMachine$Machine", name := "clash", desc := "()V" } : Jvm.MethodName)) ∈ x_T := x_at 843 (by decide +kernel) (by decide +kernel)
theorem k_845 : (Jvm.Cond.instanceMethod ({ cls := "ChannelMachine$Machine", name := "clash", desc := "()V" } : Jvm.MethodName)) ∈ x_T := x_at 845 (by decide +kernel) (by decide +kernel)
theorem k_846 : (Jvm.Cond.code ({ cls := "ChannelMachine$Machine", name := "clash", desc := "()V" } : Jvm.MethodName) prog_6_method_22_code (1 : Nat) (Option.none : Option Jvm.ClassFile.FieldType)) ∈ x_T := x_at 846 (by decide +kernel) (by decide +kernel)
theorem k_854 : (Jvm.Cond.methodLink "ChannelMachine$Machine" (252 : Nat) ({ cls := "ChannelMachine$Machine", name := "isReady", desc := "(I)Z" } : Jvm.MethodName)) ∈ x_T := x_at 854 (by decide +kernel) (by decide +kernel)
theorem k_856 : (Jvm.Cond.instanceMethod ({ cls := "ChannelMachine$Machine", name := "isReady", desc := "(I)Z" } : Jvm.MethodName)) ∈ x_T := x_at 856 (by decide +kernel) (by decide +kernel)
theorem k_857 : (Jvm.Cond.code ({ cls := "ChannelMachine$Machine", name := "isReady", desc := "(I)Z" } : Jvm.MethodName) prog_6_method_18_code (2 : Nat) (Option.some Jvm.ClassFile.FieldType.boolean)) ∈ x_T := x_at 857 (by decide +kernel) (by decide +kernel)
theorem k_858 : (Jvm.Cond.methodLink "ChannelMachine$Machine" (256 : Nat) ({ cls := "ChannelMachine$Machine", name := "fetched", desc := "(I)I" } : Jvm.MethodName)) ∈ x_T := x_at 858 (by decide +kernel) (by decide +kernel)
theorem k_860 : (Jvm.Cond.instanceMethod ({ cls := "ChannelMachine$Machine", name := "fetched", desc := "(I)I" } : Jvm.MethodName)) ∈ x_T := x_at 860 (by decide +kernel) (by decide +kernel)
theorem k_861 : (Jvm.Cond.code ({ cls := "ChannelMachine$Machine", name := "fetched", desc := "(I)I" } : Jvm.MethodName) prog_6_method_19_code (3 : Nat) (Option.some Jvm.ClassFile.FieldType.int)) ∈ x_T := x_at 861 (by decide +kernel) (by decide +kernel)
theorem k_867 : (Jvm.Cond.methodLink "ChannelMachine$Machine" (260 : Nat) ({ cls := "ChannelMachine$Machine", name := "await", desc := "(LChannelMachine$Task;IILChannelMachine$Process;)V" } : Jvm.MethodName)) ∈ x_T := x_at 867 (by decide +kernel) (by decide +kernel)
theorem k_869 : (Jvm.Cond.instanceMethod ({ cls := "ChannelMachine$Machine", name := "await", desc := "(LChannelMachine$Task;IILChannelMachine$Process;)V" } : Jvm.MethodName)) ∈ x_T := x_at 869 (by decide +kernel) (by decide +kernel)
theorem k_870 : (Jvm.Cond.code ({ cls := "ChannelMachine$Machine", name := "await", desc := "(LChannelMachine$Task;IILChannelMachine$Process;)V" } : Jvm.MethodName) prog_6_method_20_code (6 : Nat) (Option.none : Option Jvm.ClassFile.FieldType)) ∈ x_T := x_at 870 (by decide +kernel) (by decide +kernel)
theorem kn_397 : (Jvm.Cond.fieldLinkNest "ChannelMachine$Machine" (200 : Nat) "ChannelMachine$Process" "first" "LChannelMachine$Process;" "ChannelMachine") ∈ x_nest := x_nest_at 397 (by decide +kernel) (by decide +kernel)
theorem kn_414 : (Jvm.Cond.fieldLinkNest "ChannelMachine$Machine" (189 : Nat) "ChannelMachine$Process" "code" "[I" "ChannelMachine") ∈ x_nest := x_nest_at 414 (by decide +kernel) (by decide +kernel)
theorem kn_417 : (Jvm.Cond.fieldLinkNest "ChannelMachine$Machine" (213 : Nat) "ChannelMachine$Process" "channel" "I" "ChannelMachine") ∈ x_nest := x_nest_at 417 (by decide +kernel) (by decide +kernel)
theorem kn_420 : (Jvm.Cond.fieldLinkNest "ChannelMachine$Machine" (186 : Nat) "ChannelMachine$Process" "variable" "I" "ChannelMachine") ∈ x_nest := x_nest_at 420 (by decide +kernel) (by decide +kernel)
theorem kn_574 : (Jvm.Cond.fieldLinkNest "ChannelMachine$Machine" (285 : Nat) "ChannelMachine$Guard" "channel" "I" "ChannelMachine") ∈ x_nest := x_nest_at 574 (by decide +kernel) (by decide +kernel)
theorem kn_577 : (Jvm.Cond.fieldLinkNest "ChannelMachine$Machine" (290 : Nat) "ChannelMachine$Guard" "variable" "I" "ChannelMachine") ∈ x_nest := x_nest_at 577 (by decide +kernel) (by decide +kernel)
theorem kn_580 : (Jvm.Cond.fieldLinkNest "ChannelMachine$Machine" (291 : Nat) "ChannelMachine$Guard" "follow" "LChannelMachine$Process;" "ChannelMachine") ∈ x_nest := x_nest_at 580 (by decide +kernel) (by decide +kernel)
theorem kp_31 : (Jvm.Cond.selects "ChannelMachine$Machine" ({ cls := "ChannelMachine$Machine", name := "evaluate", desc := "([I)I" } : Jvm.MethodName) ({ cls := "ChannelMachine$Machine", name := "evaluate", desc := "([I)I" } : Jvm.MethodName)) ∈ x_T := x_sel (q := (({ cls := "ChannelMachine$Machine", name := "evaluate", desc := "([I)I" } : Jvm.MethodName), 11)) 31 (by decide +kernel) (by decide +kernel)
theorem kp_38 : (Jvm.Cond.selects "ChannelMachine$Machine" ({ cls := "ChannelMachine$Machine", name := "clash", desc := "()V" } : Jvm.MethodName) ({ cls := "ChannelMachine$Machine", name := "clash", desc := "()V" } : Jvm.MethodName)) ∈ x_T := x_sel (q := (({ cls := "ChannelMachine$Machine", name := "clash", desc := "()V" } : Jvm.MethodName), 11)) 38 (by decide +kernel) (by decide +kernel)
theorem kp_40 : (Jvm.Cond.selects "ChannelMachine$Machine" ({ cls := "ChannelMachine$Machine", name := "isReady", desc := "(I)Z" } : Jvm.MethodName) ({ cls := "ChannelMachine$Machine", name := "isReady", desc := "(I)Z" } : Jvm.MethodName)) ∈ x_T := x_sel (q := (({ cls := "ChannelMachine$Machine", name := "isReady", desc := "(I)Z" } : Jvm.MethodName), 11)) 40 (by decide +kernel) (by decide +kernel)
theorem kp_41 : (Jvm.Cond.selects "ChannelMachine$Machine" ({ cls := "ChannelMachine$Machine", name := "fetched", desc := "(I)I" } : Jvm.MethodName) ({ cls := "ChannelMachine$Machine", name := "fetched", desc := "(I)I" } : Jvm.MethodName)) ∈ x_T := x_sel (q := (({ cls := "ChannelMachine$Machine", name := "fetched", desc := "(I)I" } : Jvm.MethodName), 11)) 41 (by decide +kernel) (by decide +kernel)
theorem kp_42 : (Jvm.Cond.selects "ChannelMachine$Machine" ({ cls := "ChannelMachine$Machine", name := "await", desc := "(LChannelMachine$Task;IILChannelMachine$Process;)V" } : Jvm.MethodName) ({ cls := "ChannelMachine$Machine", name := "await", desc := "(LChannelMachine$Task;IILChannelMachine$Process;)V" } : Jvm.MethodName)) ∈ x_T := x_sel (q := (({ cls := "ChannelMachine$Machine", name := "await", desc := "(LChannelMachine$Task;IILChannelMachine$Process;)V" } : Jvm.MethodName), 11)) 42 (by decide +kernel) (by decide +kernel)
theorem d_Machine_await_0 : decode prog_6_method_20_code 0 = .ok (.aload_n 0, 1) := by decide +kernel
theorem d_Machine_await_1 : decode prog_6_method_20_code 1 = .ok (.getfield 17, 3) := by decide +kernel
theorem d_Machine_await_4 : decode prog_6_method_20_code 4 = .ok (.iload_n 2, 1) := by decide +kernel
theorem d_Machine_await_5 : decode prog_6_method_20_code 5 = .ok (.aaload, 1) := by decide +kernel
theorem d_Machine_await_6 : decode prog_6_method_20_code 6 = .ok (.astore 5, 2) := by decide +kernel
theorem d_Machine_await_8 : decode prog_6_method_20_code 8 = .ok (.aload 5, 2) := by decide +kernel
theorem d_Machine_await_10 : decode prog_6_method_20_code 10 = .ok (.getfield 103, 3) := by decide +kernel
theorem d_Machine_await_13 : decode prog_6_method_20_code 13 = .ok (.ifnonnull 25, 3) := by decide +kernel
theorem d_Machine_await_16 : decode prog_6_method_20_code 16 = .ok (.aload 5, 2) := by decide +kernel
theorem d_Machine_await_18 : decode prog_6_method_20_code 18 = .ok (.aload_n 1, 1) := by decide +kernel
theorem d_Machine_await_19 : decode prog_6_method_20_code 19 = .ok (.putfield 103, 3) := by decide +kernel
theorem d_Machine_await_22 : decode prog_6_method_20_code 22 = .ok (.aload 5, 2) := by decide +kernel
theorem d_Machine_await_24 : decode prog_6_method_20_code 24 = .ok (.iload_n 3, 1) := by decide +kernel
theorem d_Machine_await_25 : decode prog_6_method_20_code 25 = .ok (.putfield 267, 3) := by decide +kernel
theorem d_Machine_await_28 : decode prog_6_method_20_code 28 = .ok (.aload 5, 2) := by decide +kernel
theorem d_Machine_await_30 : decode prog_6_method_20_code 30 = .ok (.aload 4, 2) := by decide +kernel
theorem d_Machine_await_32 : decode prog_6_method_20_code 32 = .ok (.putfield 268, 3) := by decide +kernel
theorem d_Machine_await_35 : decode prog_6_method_20_code 35 = .ok (.goto 16, 3) := by decide +kernel
theorem d_Machine_await_38 : decode prog_6_method_20_code 38 = .ok (.aload 5, 2) := by decide +kernel
theorem d_Machine_await_40 : decode prog_6_method_20_code 40 = .ok (.getfield 103, 3) := by decide +kernel
theorem d_Machine_await_43 : decode prog_6_method_20_code 43 = .ok (.aload_n 1, 1) := by decide +kernel
theorem d_Machine_await_44 : decode prog_6_method_20_code 44 = .ok (.if_acmp .eq 7, 3) := by decide +kernel
theorem d_Machine_await_47 : decode prog_6_method_20_code 47 = .ok (.aload_n 0, 1) := by decide +kernel
theorem d_Machine_await_48 : decode prog_6_method_20_code 48 = .ok (.invokevirtual 246, 3) := by decide +kernel
theorem d_Machine_await_51 : decode prog_6_method_20_code 51 = .ok (.return_, 1) := by decide +kernel
theorem d_Machine_pass_0 : decode prog_6_method_25_code 0 = .ok (.aload_n 2, 1) := by decide +kernel
theorem d_Machine_pass_1 : decode prog_6_method_25_code 1 = .ok (.getfield 285, 3) := by decide +kernel
theorem d_Machine_pass_4 : decode prog_6_method_25_code 4 = .ok (.iconst (-1), 1) := by decide +kernel
theorem d_Machine_pass_5 : decode prog_6_method_25_code 5 = .ok (.if_icmp .eq 19, 3) := by decide +kernel
theorem d_Machine_pass_8 : decode prog_6_method_25_code 8 = .ok (.aload_n 0, 1) := by decide +kernel
theorem d_Machine_pass_9 : decode prog_6_method_25_code 9 = .ok (.aload_n 2, 1) := by decide +kernel
theorem d_Machine_pass_10 : decode prog_6_method_25_code 10 = .ok (.getfield 290, 3) := by decide +kernel
theorem d_Machine_pass_13 : decode prog_6_method_25_code 13 = .ok (.aload_n 0, 1) := by decide +kernel
theorem d_Machine_pass_14 : decode prog_6_method_25_code 14 = .ok (.aload_n 2, 1) := by decide +kernel
theorem d_Machine_pass_15 : decode prog_6_method_25_code 15 = .ok (.getfield 285, 3) := by decide +kernel
theorem d_Machine_pass_18 : decode prog_6_method_25_code 18 = .ok (.invokevirtual 256, 3) := by decide +kernel
theorem d_Machine_pass_21 : decode prog_6_method_25_code 21 = .ok (.invokevirtual 196, 3) := by decide +kernel
theorem d_Machine_pass_24 : decode prog_6_method_25_code 24 = .ok (.aload_n 1, 1) := by decide +kernel
theorem d_Machine_pass_25 : decode prog_6_method_25_code 25 = .ok (.aload_n 2, 1) := by decide +kernel
theorem d_Machine_pass_26 : decode prog_6_method_25_code 26 = .ok (.getfield 291, 3) := by decide +kernel
theorem d_Machine_pass_29 : decode prog_6_method_25_code 29 = .ok (.invokevirtual 82, 3) := by decide +kernel
theorem d_Machine_pass_32 : decode prog_6_method_25_code 32 = .ok (.return_, 1) := by decide +kernel
theorem d_Machine_input_0 : decode prog_6_method_17_code 0 = .ok (.aload_n 0, 1) := by decide +kernel
theorem d_Machine_input_1 : decode prog_6_method_17_code 1 = .ok (.aload_n 2, 1) := by decide +kernel
theorem d_Machine_input_2 : decode prog_6_method_17_code 2 = .ok (.getfield 213, 3) := by decide +kernel
theorem d_Machine_input_5 : decode prog_6_method_17_code 5 = .ok (.invokevirtual 252, 3) := by decide +kernel
theorem d_Machine_input_8 : decode prog_6_method_17_code 8 = .ok (.ifCond .eq 26, 3) := by decide +kernel
theorem d_Machine_input_11 : decode prog_6_method_17_code 11 = .ok (.aload_n 0, 1) := by decide +kernel
theorem d_Machine_input_12 : decode prog_6_method_17_code 12 = .ok (.aload_n 2, 1) := by decide +kernel
theorem d_Machine_input_13 : decode prog_6_method_17_code 13 = .ok (.getfield 186, 3) := by decide +kernel
theorem d_Machine_input_16 : decode prog_6_method_17_code 16 = .ok (.aload_n 0, 1) := by decide +kernel
theorem d_Machine_input_17 : decode prog_6_method_17_code 17 = .ok (.aload_n 2, 1) := by decide +kernel
theorem d_Machine_input_18 : decode prog_6_method_17_code 18 = .ok (.getfield 213, 3) := by decide +kernel
theorem d_Machine_input_21 : decode prog_6_method_17_code 21 = .ok (.invokevirtual 256, 3) := by decide +kernel
theorem d_Machine_input_24 : decode prog_6_method_17_code 24 = .ok (.invokevirtual 196, 3) := by decide +kernel
theorem d_Machine_input_27 : decode prog_6_method_17_code 27 = .ok (.aload_n 1, 1) := by decide +kernel
theorem d_Machine_input_28 : decode prog_6_method_17_code 28 = .ok (.invokevirtual 150, 3) := by decide +kernel
theorem d_Machine_input_31 : decode prog_6_method_17_code 31 = .ok (.goto 21, 3) := by decide +kernel
theorem d_Machine_input_34 : decode prog_6_method_17_code 34 = .ok (.aload_n 0, 1) := by decide +kernel
theorem d_Machine_input_35 : decode prog_6_method_17_code 35 = .ok (.aload_n 1, 1) := by decide +kernel
theorem d_Machine_input_36 : decode prog_6_method_17_code 36 = .ok (.aload_n 2, 1) := by decide +kernel
theorem d_Machine_input_37 : decode prog_6_method_17_code 37 = .ok (.getfield 213, 3) := by decide +kernel
theorem d_Machine_input_40 : decode prog_6_method_17_code 40 = .ok (.aload_n 2, 1) := by decide +kernel
theorem d_Machine_input_41 : decode prog_6_method_17_code 41 = .ok (.getfield 186, 3) := by decide +kernel
theorem d_Machine_input_44 : decode prog_6_method_17_code 44 = .ok (.aconst_null, 1) := by decide +kernel
theorem d_Machine_input_45 : decode prog_6_method_17_code 45 = .ok (.invokevirtual 260, 3) := by decide +kernel
theorem d_Machine_input_48 : decode prog_6_method_17_code 48 = .ok (.aload_n 0, 1) := by decide +kernel
theorem d_Machine_input_49 : decode prog_6_method_17_code 49 = .ok (.invokevirtual 183, 3) := by decide +kernel
theorem d_Machine_input_52 : decode prog_6_method_17_code 52 = .ok (.return_, 1) := by decide +kernel
theorem d_Machine_output_0 : decode prog_6_method_16_code 0 = .ok (.aload_n 0, 1) := by decide +kernel
theorem d_Machine_output_1 : decode prog_6_method_16_code 1 = .ok (.getfield 17, 3) := by decide +kernel
theorem d_Machine_output_4 : decode prog_6_method_16_code 4 = .ok (.iload_n 2, 1) := by decide +kernel
theorem d_Machine_output_5 : decode prog_6_method_16_code 5 = .ok (.aaload, 1) := by decide +kernel
theorem d_Machine_output_6 : decode prog_6_method_16_code 6 = .ok (.astore 4, 2) := by decide +kernel
theorem d_Machine_output_8 : decode prog_6_method_16_code 8 = .ok (.iload_n 2, 1) := by decide +kernel
theorem d_Machine_output_9 : decode prog_6_method_16_code 9 = .ok (.iconst 5, 1) := by decide +kernel
theorem d_Machine_output_10 : decode prog_6_method_16_code 10 = .ok (.if_icmp .ne 28, 3) := by decide +kernel
theorem d_Machine_output_13 : decode prog_6_method_16_code 13 = .ok (.aload_n 0, 1) := by decide +kernel
theorem d_Machine_output_14 : decode prog_6_method_16_code 14 = .ok (.getfield 28, 3) := by decide +kernel
theorem d_Machine_output_17 : decode prog_6_method_16_code 17 = .ok (.invokevirtual 236, 3) := by decide +kernel
theorem d_Machine_output_20 : decode prog_6_method_16_code 20 = .ok (.ifCond .ne 18, 3) := by decide +kernel
theorem d_Machine_output_23 : decode prog_6_method_16_code 23 = .ok (.aload_n 0, 1) := by decide +kernel
theorem d_Machine_output_24 : decode prog_6_method_16_code 24 = .ok (.getfield 28, 3) := by decide +kernel
theorem d_Machine_output_27 : decode prog_6_method_16_code 27 = .ok (.iload_n 3, 1) := by decide +kernel
theorem d_Machine_output_28 : decode prog_6_method_16_code 28 = .ok (.invokevirtual 239, 3) := by decide +kernel
theorem d_Machine_output_31 : decode prog_6_method_16_code 31 = .ok (.aload_n 1, 1) := by decide +kernel
theorem d_Machine_output_32 : decode prog_6_method_16_code 32 = .ok (.invokevirtual 150, 3) := by decide +kernel
theorem d_Machine_output_35 : decode prog_6_method_16_code 35 = .ok (.goto 55, 3) := by decide +kernel
theorem d_Machine_output_38 : decode prog_6_method_16_code 38 = .ok (.aload 4, 2) := by decide +kernel
theorem d_Machine_output_40 : decode prog_6_method_16_code 40 = .ok (.getfield 103, 3) := by decide +kernel
theorem d_Machine_output_43 : decode prog_6_method_16_code 43 = .ok (.ifnull 17, 3) := by decide +kernel
theorem d_Machine_output_46 : decode prog_6_method_16_code 46 = .ok (.aload_n 0, 1) := by decide +kernel
theorem d_Machine_output_47 : decode prog_6_method_16_code 47 = .ok (.aload 4, 2) := by decide +kernel
theorem d_Machine_output_49 : decode prog_6_method_16_code 49 = .ok (.iload_n 3, 1) := by decide +kernel
theorem d_Machine_output_50 : decode prog_6_method_16_code 50 = .ok (.invokevirtual 242, 3) := by decide +kernel
theorem d_Machine_output_53 : decode prog_6_method_16_code 53 = .ok (.aload_n 1, 1) := by decide +kernel
theorem d_Machine_output_54 : decode prog_6_method_16_code 54 = .ok (.invokevirtual 150, 3) := by decide +kernel
theorem d_Machine_output_57 : decode prog_6_method_16_code 57 = .ok (.goto 33, 3) := by decide +kernel
theorem d_Machine_output_60 : decode prog_6_method_16_code 60 = .ok (.aload 4, 2) := by decide +kernel
theorem d_Machine_output_62 : decode prog_6_method_16_code 62 = .ok (.getfield 99, 3) := by decide +kernel
theorem d_Machine_output_65 : decode prog_6_method_16_code 65 = .ok (.ifnull 10, 3) := by decide +kernel
theorem d_Machine_output_68 : decode prog_6_method_16_code 68 = .ok (.aload_n 0, 1) := by decide +kernel
theorem d_Machine_output_69 : decode prog_6_method_16_code 69 = .ok (.invokevirtual 246, 3) := by decide +kernel
theorem d_Machine_output_72 : decode prog_6_method_16_code 72 = .ok (.goto 18, 3) := by decide +kernel
theorem d_Machine_output_75 : decode prog_6_method_16_code 75 = .ok (.aload_n 1, 1) := by decide +kernel
theorem d_Machine_output_76 : decode prog_6_method_16_code 76 = .ok (.iload_n 3, 1) := by decide +kernel
theorem d_Machine_output_77 : decode prog_6_method_16_code 77 = .ok (.putfield 249, 3) := by decide +kernel
theorem d_Machine_output_80 : decode prog_6_method_16_code 80 = .ok (.aload 4, 2) := by decide +kernel
theorem d_Machine_output_82 : decode prog_6_method_16_code 82 = .ok (.aload_n 1, 1) := by decide +kernel
theorem d_Machine_output_83 : decode prog_6_method_16_code 83 = .ok (.putfield 99, 3) := by decide +kernel
theorem d_Machine_output_86 : decode prog_6_method_16_code 86 = .ok (.aload_n 0, 1) := by decide +kernel
theorem d_Machine_output_87 : decode prog_6_method_16_code 87 = .ok (.invokevirtual 183, 3) := by decide +kernel
theorem d_Machine_output_90 : decode prog_6_method_16_code 90 = .ok (.return_, 1) := by decide +kernel
theorem d_Machine_loop_0 : decode prog_6_method_14_code 0 = .ok (.aload_n 0, 1) := by decide +kernel
theorem d_Machine_loop_1 : decode prog_6_method_14_code 1 = .ok (.aload_n 2, 1) := by decide +kernel
theorem d_Machine_loop_2 : decode prog_6_method_14_code 2 = .ok (.getfield 189, 3) := by decide +kernel
theorem d_Machine_loop_5 : decode prog_6_method_14_code 5 = .ok (.invokevirtual 192, 3) := by decide +kernel
theorem d_Machine_loop_8 : decode prog_6_method_14_code 8 = .ok (.ifCond .ne 10, 3) := by decide +kernel
theorem d_Machine_loop_11 : decode prog_6_method_14_code 11 = .ok (.aload_n 1, 1) := by decide +kernel
theorem d_Machine_loop_12 : decode prog_6_method_14_code 12 = .ok (.invokevirtual 150, 3) := by decide +kernel
theorem d_Machine_loop_15 : decode prog_6_method_14_code 15 = .ok (.goto 11, 3) := by decide +kernel
theorem d_Machine_loop_18 : decode prog_6_method_14_code 18 = .ok (.aload_n 1, 1) := by decide +kernel
theorem d_Machine_loop_19 : decode prog_6_method_14_code 19 = .ok (.aload_n 2, 1) := by decide +kernel
theorem d_Machine_loop_20 : decode prog_6_method_14_code 20 = .ok (.getfield 200, 3) := by decide +kernel
theorem d_Machine_loop_23 : decode prog_6_method_14_code 23 = .ok (.invokevirtual 82, 3) := by decide +kernel
theorem d_Machine_loop_26 : decode prog_6_method_14_code 26 = .ok (.return_, 1) := by decide +kernel
theorem y_16 {c : Nat} (h : c < 6) : 16 + c ∈ [16, 17, 18, 19, 20, 21] := by rcases y_6 h with rfl | rfl | rfl | rfl | rfl | rfl <;> decide
set_option maxHeartbeats 4000000 in
set_option maxRecDepth 100000 in
theorem c_M_awaitN (l : Launch) (hst : l.stackTraces = false) (dC : Nat → ClassId) (dI : Nat → Nat → Nat) (ar : Nat → ClassId) (N0 : Nat) (z : Nat → Nat) (ad : Nat → Nat) (I : Nat → Int32) (T : Int64) (A : Nat → Nat → Int32) (O : Nat → Option Nat) (pl : va_W) (G : Nat → Nat) (C Gs : Nat → List Nat) (qn sn cq cs : Nat) (tt c9 : Nat) (vv : Int32) (sz w0 : Nat) (hmi : y_MI z ar G C Gs I O (y_L pl) (qn, sn, cq, cs)) (htt : G tt = 8) (hc9 : c9 < 6) : vx_Met l ({ cls := "ChannelMachine$Machine", name := "await", desc := "(LChannelMachine$Task;IILChannelMachine$Process;)V" } : Jvm.MethodName) ((Jvm.Cond.code ({ cls := "ChannelMachine$Machine", name := "await", desc := "(LChannelMachine$Task;IILChannelMachine$Process;)V" } : Jvm.MethodName) prog_6_method_20_code (6 : Nat) (Option.none : Option Jvm.ClassFile.FieldType)) :: x_T) ({ frames := 7, cells := 1, slots := 6, locals := 102 }) (y_Pc (dC, dI) ar N0 z (y_W ad ar I T A O pl) sz w0 [.ref (ad 4), .ref tt, .int (Int32.ofNat c9), .int vv, .null]) (va_Qv (fun (u : (Nat → Int32) × Int64 × (Nat → Nat → Int32) × (Nat → Option Nat) × va_W × (Nat × Nat × Nat × Nat)) => u.2.1 = T ∧ u.2.2.1 = A ∧ u.2.2.2.2.1 = pl ∧ u.2.2.2.2.2 = (qn, sn, cq, cs) ∧ y_MI z ar G C Gs u.1 u.2.2.2.1 (y_L u.2.2.2.2.1) u.2.2.2.2.2 ∧ m_fr [16, 17, 18, 19, 20, 21] I u.1) (fun u t => va_P (dC, dI) y_cl (y_W ad ar u.1 u.2.1 u.2.2.1 u.2.2.2.1 u.2.2.2.2.1) t.heap ∧ va_D (va_A (y_W ad ar I T A O pl) sz) (y_W ad ar u.1 u.2.1 u.2.2.1 u.2.2.2.1 u.2.2.2.2.1) ∧ y_ac (cq + cs) sz w0 (u.2.2.2.2.2.2.2.1 + u.2.2.2.2.2.2.2.2) t.heap) (va_A (y_W ad ar I T A O pl) sz)) (vx_X (fun (u : (Nat → Int32) × Int64 × (Nat → Nat → Int32) × (Nat → Option Nat) × va_W × (Nat × Nat × Nat × Nat)) => y_MI z ar G C Gs u.1 u.2.2.2.1 (y_L u.2.2.2.2.1) u.2.2.2.2.2 ∧ y_bd (qn, sn, cq, cs) u.2.2.2.2.2 0 0 ∧ m_fr [7, 8, 12, 13, 14, 15] I u.1 ∧ u.1 7 = 3) (fun E u t => va_P (dC, dI) y_cl (y_W ad ar u.1 u.2.1 u.2.2.1 u.2.2.2.1 u.2.2.2.2.1) t.heap ∧ va_D (va_A (y_W ad ar I T A O pl) sz) (y_W ad ar u.1 u.2.1 u.2.2.1 u.2.2.2.1 u.2.2.2.2.1) ∧ (E = "java/lang/IllegalStateException" ∨ E = "java/lang/ArithmeticException") ∧ y_ac (cq + cs) (sz + 1) (w0 + 6) (u.2.2.2.2.2.2.2.1 + u.2.2.2.2.2.2.2.2) t.heap) (va_A (y_W ad ar I T A O pl) sz)) (1) (6) (va_A (y_W ad ar I T A O pl) sz) := by
  refine vx_ofW (cc := prog_6_method_20_code) (maxL := 6) (ret := none) (by decide) rfl ?_
  intro p e s m args below meth c s₁ B hml htb hv
  obtain ⟨rfl, hsz, hN0, hP, hU, hZ, hD0, hw0⟩ := hv
  have hK := hU.2.1
  have hx := B.exec
  have hb := B.bytes
  have hr := B.returns
  have hts : ∀ w ∈ x_T, w.before ([.ref (ad 4), .ref tt, .int (Int32.ofNat c9), .int vv, .null] : List Value).toArray s = true := fun w h => atoms_spec (ws := (Jvm.Cond.code ({ cls := "ChannelMachine$Machine", name := "await", desc := "(LChannelMachine$Task;IILChannelMachine$Process;)V" } : Jvm.MethodName) prog_6_method_20_code (6 : Nat) (Option.none : Option Jvm.ClassFile.FieldType)) :: x_T) B.pre w (List.mem_cons_of_mem _ h)
  have hown : s.vm.findClass "ChannelMachine$Machine" = some m.cls := findClass_of_methodNamed B.named
  have hlocks := B.notSynchronized
  subst hsz
  subst hw0
  have hD := hD0.self (sz := s.heap.size)
  have hAN := x_AN hD0 hN0
  generalize hAe : va_A (y_W ad ar I T A O pl) s.heap.size = Bq at hD hAN ⊢
  have hA : ∀ q : Nat, s.heap.size ≤ q → Bq q := fun q h => by rw [← hAe]; exact Or.inr h
  have hS : va_S Bq s.heap s.heap [] := va_S.rf
  have hl := lv_entry ([.ref (ad 4), .ref tt, .int (Int32.ofNat c9), .int vv, .null]) (n := 6) (Nat.le_of_ble_eq_true rfl)
  rw [lg_entry_eq]
  generalize (lg_sl ([.ref (ad 4), .ref tt, .int (Int32.ofNat c9), .int vv, .null]) ++ List.replicate (6 - (lg_sl ([.ref (ad 4), .ref tt, .int (Int32.ofNat c9), .int vv, .null])).length) Slot.unset).toArray = ls at hl ⊢
  have hl : lv_has ls 6 [(0, .ref (ad 4)), (1, .ref tt), (2, .int (Int32.ofNat c9)), (3, .int vv), (4, .null)] := hl
  refine lv_aload_n hx hb d_Machine_await_0 rfl (lv_at hl 0 rfl) ?_
  refine k_g (C := "ChannelMachine$Machine") (F := F_Machine) (N := 11) hx hb hts i_Machine hown hK hP 4 1 (by decide) (by decide) rfl (by decide) (d := (0, 6)) rfl (hts _ k_152) (fun _ h9 => h9) (v := .ref (ad 6)) rfl d_Machine_await_1 ?_
  refine lv_iload_n hx hb d_Machine_await_4 rfl (lv_at hl 2 rfl) ?_
  refine k_chl hx hb hK hP (n := c9) (by omega) d_Machine_await_5 ?_
  refine lv_astore (lv' := [(5, .ref (ad (14 + c9))), (0, .ref (ad 4)), (1, .ref tt), (2, .int (Int32.ofNat c9)), (3, .int vv), (4, .null)]) hx hb d_Machine_await_6 hl (by decide) rfl (fun ls hl => ?_)
  refine lv_aload hx hb d_Machine_await_8 (lv_at hl 0 rfl) ?_
  refine k_gN (C := "ChannelMachine$Channel") (F := F_Channel) (N := 4) hx hb hts i_Channel hown hK hP (14 + c9) 1 (by omega) (y_cc (by omega)) (y_ccl (by omega)) (by decide) (d := (3, (4 + 3 * c9))) (y_dc1 (by omega)) (hU.1.2.1 _ kn_135) (fun _ h9 => h9) (v := va_rf (O ((4 + 3 * c9)))) rfl d_Machine_await_10 ?_
  rcases hOx1 : O ((4 + 3 * c9)) with _ | x1
  · refine W.eq (g2 := F0 m 13 ls [.null]) rfl ?_
    refine lv_ifnonnullN hx hb d_Machine_await_13 ?_
    refine lv_aload hx hb d_Machine_await_16 (lv_at hl 0 rfl) ?_
    refine lv_aload_n hx hb d_Machine_await_18 rfl (lv_at hl 2 rfl) ?_
    refine k_poN (C := "ChannelMachine$Channel") (F := F_Channel) (N := 4) hx hb hts i_Channel hown t_Channel t_Channel_ok n_Channel hK hP hD hS (14 + c9) 1 (by omega) (y_cc (by omega)) (y_ccl (by omega)) (by decide) (j := (4 + 3 * c9)) (x := (some tt)) (ty := (.object "ChannelMachine$Task")) (y_dc1 (by omega)) (hU.1.2.1 _ kn_135) (fun _ h9 => h9) rfl (by decide +kernel) rfl rfl d_Machine_await_19 (fun H locs hP hD hS => ?_)
    refine lv_aload hx hb d_Machine_await_22 (lv_at hl 0 rfl) ?_
    refine lv_iload_n hx hb d_Machine_await_24 rfl (lv_at hl 4 rfl) ?_
    refine k_piN (C := "ChannelMachine$Channel") (F := F_Channel) (N := 4) hx hb hts i_Channel hown t_Channel t_Channel_ok n_Channel hK hP hD hS (14 + c9) 2 (by omega) (y_cc (by omega)) (y_ccl (by omega)) (by decide) (j := (16 + c9)) (x := vv) (y_dc2 (by omega)) (hU.1.2.1 _ kn_138) (fun _ h9 => h9) rfl (by decide +kernel) d_Machine_await_25 (fun H locs hP hD hS => ?_)
    refine lv_aload hx hb d_Machine_await_28 (lv_at hl 0 rfl) ?_
    refine lv_aloadN hx hb d_Machine_await_30 (lv_at hl 5 rfl) ?_
    refine k_poN (C := "ChannelMachine$Channel") (F := F_Channel) (N := 4) hx hb hts i_Channel hown t_Channel t_Channel_ok n_Channel hK hP hD hS (14 + c9) 3 (by omega) (y_cc (by omega)) (y_ccl (by omega)) (by decide) (j := (5 + 3 * c9)) (x := none) (ty := (.object "ChannelMachine$Process")) (y_dc3 (by omega)) (hU.1.2.1 _ kn_140) (fun _ h9 => h9) rfl (by decide +kernel) rfl rfl d_Machine_await_32 (fun H locs hP hD hS => ?_)
    have hmi : y_MI z ar G C Gs (upd I (16 + c9) vv) (y_up (y_up O ((4 + 3 * c9)) (some tt)) ((5 + 3 * c9)) none) (y_L pl) (qn, sn, cq, cs) := (hmi.to (I' := (upd I (16 + c9) vv)) (upd_n (by omega)) (upd_n (by omega)) (upd_n (by omega)) (upd_n (by omega))).rcv1 (c := c9) (by omega) htt (fun a ha => nomatch ha)
    refine lv_goto (tgt := 51) hx hb d_Machine_await_35 (by decide) ?_
    refine vx_ret ?_
    refine y_know (fun hy91 hy92 hy93 hy94 => ?_)
    have hac9 : y_ac (cq + cs) s.heap.size (y_hs s.heap) (cq + cs) H := ⟨by omega, by omega⟩
    refine W.widen (k := 1) (n := 6) (by omega) (by omega) ?_
    exact W.vret hx hb hr (fun t ht hW => ⟨⟨((upd I (16 + c9) vv), T, A, (y_up (y_up O ((4 + 3 * c9)) (some tt)) ((5 + 3 * c9)) none), pl, (qn, sn, cq, cs)), rfl, ⟨rfl, rfl, rfl, rfl, hmi, (m_fr.rf.up (y_16 hc9) _)⟩, (by dsimp only; rw [ht]; exact ⟨hP, hD, hac9⟩)⟩, hS.F ht⟩) hS.2.2 d_Machine_await_51
  · refine W.eq (g2 := F0 m 13 ls [.ref x1]) rfl ?_
    have hx1 : G x1 = 8 := (hmi.2.2.2.2.2.1 c9 (by omega)).2.1 x1 hOx1
    refine lv_ifnonnull (tgt := 38) hx hb d_Machine_await_13 (by decide) ?_
    refine lv_aload hx hb d_Machine_await_38 (lv_at hl 0 rfl) ?_
    refine k_gN (C := "ChannelMachine$Channel") (F := F_Channel) (N := 4) hx hb hts i_Channel hown hK hP (14 + c9) 1 (by omega) (y_cc (by omega)) (y_ccl (by omega)) (by decide) (d := (3, (4 + 3 * c9))) (y_dc1 (by omega)) (hU.1.2.1 _ kn_135) (fun _ h9 => h9) (v := .ref x1) (by show va_rf (O ((4 + 3 * c9))) = _; rw [hOx1]; rfl) d_Machine_await_40 ?_
    refine lv_aload_n hx hb d_Machine_await_43 rfl (lv_at hl 2 rfl) ?_
    refine lv_acmp_eq (rx := (some x1)) (ry := (some tt)) (tgt := 51) hx hb d_Machine_await_44 (by decide) (fun h_2 => ?_) (fun h_2 => ?_)
    · refine vx_ret ?_
      refine y_know (fun hy91 hy92 hy93 hy94 => ?_)
      have hac9 : y_ac (cq + cs) s.heap.size (y_hs s.heap) (cq + cs) s.heap := ⟨by omega, by omega⟩
      refine W.widen (k := 1) (n := 6) (by omega) (by omega) ?_
      exact W.vret hx hb hr (fun t ht hW => ⟨⟨(I, T, A, O, pl, (qn, sn, cq, cs)), rfl, ⟨rfl, rfl, rfl, rfl, hmi, m_fr.rf⟩, (by dsimp only; rw [ht]; exact ⟨hP, hD, hac9⟩)⟩, hS.F ht⟩) hS.2.2 d_Machine_await_51
    · refine lv_aload_n hx hb d_Machine_await_47 rfl (lv_at hl 1 rfl) ?_
      refine y_know (fun hya1 hya2 hya3 hya4 => ?_)
      have hFc := y_free hD hS hA
      refine vx_callv (vx_runV (As := []) (rest := []) ⟨hx, hb, hml, hown, hts⟩ (c_M_clash l hst dC dI ar N0 z ad I T A O pl G C Gs qn sn cq cs s.heap.size (y_hs s.heap) hmi) (cwV 0 hts (x_goodV k_843 k_845 kp_38 k_3 k_846) rfl rfl rfl (by decide +kernel) ⟨Nat.le_of_ble_eq_true rfl, Nat.le_of_ble_eq_true rfl⟩) ⟨y_blind, va_recv hK hP (ci := 2) (q0 := 4) rfl (y_W_ob (by decide) (by decide)), fun U9 hU9 hW9 => y_pre hU9 hW9 hP hD hU hZ hS hAN hN0⟩ rfl rfl hl.1 rfl (lv_room (Nat.le_of_ble_eq_true rfl)) d_Machine_await_48 ⟨(by show 0 + (1) ≤ 1; omega), (by show 0 + (6) ≤ 6; omega)⟩) hS (fun q _ h => hFc q h) hFc (fun q h1 h2 => hFc q h2) (fun E ce q9 u t H1 locs ht hvm hpx hbx hz1 hk1 hS hce hcv hcl => ?_) (fun u t H1 locs ht hvm hw hB hz1 hk1 hS => ?_)
      · obtain ⟨I3, T3, A3, O3, pl3, q3, s3, cq3, cs3⟩ := u
        dsimp only at hpx hbx
        rw [ht] at hbx
        obtain ⟨hP, hD1, hac3⟩ := hbx
        have hD : va_D Bq (y_W ad ar I3 T3 A3 O3 pl3) := hD1.weaken (fun _ q _ h => hFc q.1 h)
        generalize H1 = H at hP hS hac3 hce ⊢
        obtain ⟨hE, hac3⟩ := hac3
        obtain ⟨hmi, hbd3, fr3, h73⟩ := hpx
        have hb3 := hbd3
        unfold y_bd at hb3
        dsimp only at hb3
        refine y_knowx (fun hy91 hy92 hy93 hy94 => ?_)
        have hac9 : y_ac (cq + cs) (s.heap.size + 1) (y_hs s.heap + 6) (cq3 + cs3) H := ⟨by omega, by omega⟩
        exact vx_out (fun x hx9 => (htb x hx9).elim) hlocks hce hcv hcl (fun t ht hvm => ⟨(I3, T3, A3, O3, pl3, (q3, s3, cq3, cs3)), ⟨hmi, (y_bd.tr hbd3 (y_bd.rf (a := 0) (b := 0)) (e := 0) (g := 0) (by decide) (by decide)), (m_fr.rf.tr fr3 (by decide)), h73⟩, (by dsimp only; rw [ht]; exact ⟨hP, hD, hE, hac9⟩), hS.F ht⟩) hS.2.2 (by show 0 + (1) ≤ 1; omega) (by show 0 + (6) ≤ 6; omega)
      · exact hw.elim
set_option maxHeartbeats 4000000 in
set_option maxRecDepth 100000 in
theorem c_M_awaitS (l : Launch) (hst : l.stackTraces = false) (dC : Nat → ClassId) (dI : Nat → Nat → Nat) (ar : Nat → ClassId) (N0 : Nat) (z : Nat → Nat) (ad : Nat → Nat) (I : Nat → Int32) (T : Int64) (A : Nat → Nat → Int32) (O : Nat → Option Nat) (pl : va_W) (G : Nat → Nat) (C Gs : Nat → List Nat) (qn sn cq cs : Nat) (tt c9 : Nat) (vv : Int32) (fo : Nat) (sz w0 : Nat) (hmi : y_MI z ar G C Gs I O (y_L pl) (qn, sn, cq, cs)) (htt : G tt = 8) (hc9 : c9 < 6) (hfo : G fo = 7) : vx_Met l ({ cls := "ChannelMachine$Machine", name := "await", desc := "(LChannelMachine$Task;IILChannelMachine$Process;)V" } : Jvm.MethodName) ((Jvm.Cond.code ({ cls := "ChannelMachine$Machine", name := "await", desc := "(LChannelMachine$Task;IILChannelMachine$Process;)V" } : Jvm.MethodName) prog_6_method_20_code (6 : Nat) (Option.none : Option Jvm.ClassFile.FieldType)) :: x_T) ({ frames := 7, cells := 1, slots := 6, locals := 102 }) (y_Pc (dC, dI) ar N0 z (y_W ad ar I T A O pl) sz w0 [.ref (ad 4), .ref tt, .int (Int32.ofNat c9), .int vv, .ref fo]) (va_Qv (fun (u : (Nat → Int32) × Int64 × (Nat → Nat → Int32) × (Nat → Option Nat) × va_W × (Nat × Nat × Nat × Nat)) => u.2.1 = T ∧ u.2.2.1 = A ∧ u.2.2.2.2.1 = pl ∧ u.2.2.2.2.2 = (qn, sn, cq, cs) ∧ y_MI z ar G C Gs u.1 u.2.2.2.1 (y_L u.2.2.2.2.1) u.2.2.2.2.2 ∧ m_fr [16, 17, 18, 19, 20, 21] I u.1) (fun u t => va_P (dC, dI) y_cl (y_W ad ar u.1 u.2.1 u.2.2.1 u.2.2.2.1 u.2.2.2.2.1) t.heap ∧ va_D (va_A (y_W ad ar I T A O pl) sz) (y_W ad ar u.1 u.2.1 u.2.2.1 u.2.2.2.1 u.2.2.2.2.1) ∧ y_ac (cq + cs) sz w0 (u.2.2.2.2.2.2.2.1 + u.2.2.2.2.2.2.2.2) t.heap) (va_A (y_W ad ar I T A O pl) sz)) (vx_X (fun (u : (Nat → Int32) × Int64 × (Nat → Nat → Int32) × (Nat → Option Nat) × va_W × (Nat × Nat × Nat × Nat)) => y_MI z ar G C Gs u.1 u.2.2.2.1 (y_L u.2.2.2.2.1) u.2.2.2.2.2 ∧ y_bd (qn, sn, cq, cs) u.2.2.2.2.2 0 0 ∧ m_fr [7, 8, 12, 13, 14, 15] I u.1 ∧ u.1 7 = 3) (fun E u t => va_P (dC, dI) y_cl (y_W ad ar u.1 u.2.1 u.2.2.1 u.2.2.2.1 u.2.2.2.2.1) t.heap ∧ va_D (va_A (y_W ad ar I T A O pl) sz) (y_W ad ar u.1 u.2.1 u.2.2.1 u.2.2.2.1 u.2.2.2.2.1) ∧ (E = "java/lang/IllegalStateException" ∨ E = "java/lang/ArithmeticException") ∧ y_ac (cq + cs) (sz + 1) (w0 + 6) (u.2.2.2.2.2.2.2.1 + u.2.2.2.2.2.2.2.2) t.heap) (va_A (y_W ad ar I T A O pl) sz)) (1) (6) (va_A (y_W ad ar I T A O pl) sz) := by
  refine vx_ofW (cc := prog_6_method_20_code) (maxL := 6) (ret := none) (by decide) rfl ?_
  intro p e s m args below meth c s₁ B hml htb hv
  obtain ⟨rfl, hsz, hN0, hP, hU, hZ, hD0, hw0⟩ := hv
  have hK := hU.2.1
  have hx := B.exec
  have hb := B.bytes
  have hr := B.returns
  have hts : ∀ w ∈ x_T, w.before ([.ref (ad 4), .ref tt, .int (Int32.ofNat c9), .int vv, .ref fo] : List Value).toArray s = true := fun w h => atoms_spec (ws := (Jvm.Cond.code ({ cls := "ChannelMachine$Machine", name := "await", desc := "(LChannelMachine$Task;IILChannelMachine$Process;)V" } : Jvm.MethodName) prog_6_method_20_code (6 : Nat) (Option.none : Option Jvm.ClassFile.FieldType)) :: x_T) B.pre w (List.mem_cons_of_mem _ h)
  have hown : s.vm.findClass "ChannelMachine$Machine" = some m.cls := findClass_of_methodNamed B.named
  have hlocks := B.notSynchronized
  subst hsz
  subst hw0
  have hD := hD0.self (sz := s.heap.size)
  have hAN := x_AN hD0 hN0
  generalize hAe : va_A (y_W ad ar I T A O pl) s.heap.size = Bq at hD hAN ⊢
  have hA : ∀ q : Nat, s.heap.size ≤ q → Bq q := fun q h => by rw [← hAe]; exact Or.inr h
  have hS : va_S Bq s.heap s.heap [] := va_S.rf
  have hl := lv_entry ([.ref (ad 4), .ref tt, .int (Int32.ofNat c9), .int vv, .ref fo]) (n := 6) (Nat.le_of_ble_eq_true rfl)
  rw [lg_entry_eq]
  generalize (lg_sl ([.ref (ad 4), .ref tt, .int (Int32.ofNat c9), .int vv, .ref fo]) ++ List.replicate (6 - (lg_sl ([.ref (ad 4), .ref tt, .int (Int32.ofNat c9), .int vv, .ref fo])).length) Slot.unset).toArray = ls at hl ⊢
  have hl : lv_has ls 6 [(0, .ref (ad 4)), (1, .ref tt), (2, .int (Int32.ofNat c9)), (3, .int vv), (4, .ref fo)] := hl
  refine lv_aload_n hx hb d_Machine_await_0 rfl (lv_at hl 0 rfl) ?_
  refine k_g (C := "ChannelMachine$Machine") (F := F_Machine) (N := 11) hx hb hts i_Machine hown hK hP 4 1 (by decide) (by decide) rfl (by decide) (d := (0, 6)) rfl (hts _ k_152) (fun _ h9 => h9) (v := .ref (ad 6)) rfl d_Machine_await_1 ?_
  refine lv_iload_n hx hb d_Machine_await_4 rfl (lv_at hl 2 rfl) ?_
  refine k_chl hx hb hK hP (n := c9) (by omega) d_Machine_await_5 ?_
  refine lv_astore (lv' := [(5, .ref (ad (14 + c9))), (0, .ref (ad 4)), (1, .ref tt), (2, .int (Int32.ofNat c9)), (3, .int vv), (4, .ref fo)]) hx hb d_Machine_await_6 hl (by decide) rfl (fun ls hl => ?_)
  refine lv_aload hx hb d_Machine_await_8 (lv_at hl 0 rfl) ?_
  refine k_gN (C := "ChannelMachine$Channel") (F := F_Channel) (N := 4) hx hb hts i_Channel hown hK hP (14 + c9) 1 (by omega) (y_cc (by omega)) (y_ccl (by omega)) (by decide) (d := (3, (4 + 3 * c9))) (y_dc1 (by omega)) (hU.1.2.1 _ kn_135) (fun _ h9 => h9) (v := va_rf (O ((4 + 3 * c9)))) rfl d_Machine_await_10 ?_
  rcases hOx1 : O ((4 + 3 * c9)) with _ | x1
  · refine W.eq (g2 := F0 m 13 ls [.null]) rfl ?_
    refine lv_ifnonnullN hx hb d_Machine_await_13 ?_
    refine lv_aload hx hb d_Machine_await_16 (lv_at hl 0 rfl) ?_
    refine lv_aload_n hx hb d_Machine_await_18 rfl (lv_at hl 2 rfl) ?_
    refine k_poN (C := "ChannelMachine$Channel") (F := F_Channel) (N := 4) hx hb hts i_Channel hown t_Channel t_Channel_ok n_Channel hK hP hD hS (14 + c9) 1 (by omega) (y_cc (by omega)) (y_ccl (by omega)) (by decide) (j := (4 + 3 * c9)) (x := (some tt)) (ty := (.object "ChannelMachine$Task")) (y_dc1 (by omega)) (hU.1.2.1 _ kn_135) (fun _ h9 => h9) rfl (by decide +kernel) rfl rfl d_Machine_await_19 (fun H locs hP hD hS => ?_)
    refine lv_aload hx hb d_Machine_await_22 (lv_at hl 0 rfl) ?_
    refine lv_iload_n hx hb d_Machine_await_24 rfl (lv_at hl 4 rfl) ?_
    refine k_piN (C := "ChannelMachine$Channel") (F := F_Channel) (N := 4) hx hb hts i_Channel hown t_Channel t_Channel_ok n_Channel hK hP hD hS (14 + c9) 2 (by omega) (y_cc (by omega)) (y_ccl (by omega)) (by decide) (j := (16 + c9)) (x := vv) (y_dc2 (by omega)) (hU.1.2.1 _ kn_138) (fun _ h9 => h9) rfl (by decide +kernel) d_Machine_await_25 (fun H locs hP hD hS => ?_)
    refine lv_aload hx hb d_Machine_await_28 (lv_at hl 0 rfl) ?_
    refine lv_aload hx hb d_Machine_await_30 (lv_at hl 5 rfl) ?_
    refine k_poN (C := "ChannelMachine$Channel") (F := F_Channel) (N := 4) hx hb hts i_Channel hown t_Channel t_Channel_ok n_Channel hK hP hD hS (14 + c9) 3 (by omega) (y_cc (by omega)) (y_ccl (by omega)) (by decide) (j := (5 + 3 * c9)) (x := (some fo)) (ty := (.object "ChannelMachine$Process")) (y_dc3 (by omega)) (hU.1.2.1 _ kn_140) (fun _ h9 => h9) rfl (by decide +kernel) rfl rfl d_Machine_await_32 (fun H locs hP hD hS => ?_)
    have hmi : y_MI z ar G C Gs (upd I (16 + c9) vv) (y_up (y_up O ((4 + 3 * c9)) (some tt)) ((5 + 3 * c9)) (some fo)) (y_L pl) (qn, sn, cq, cs) := (hmi.to (I' := (upd I (16 + c9) vv)) (upd_n (by omega)) (upd_n (by omega)) (upd_n (by omega)) (upd_n (by omega))).rcv1 (c := c9) (by omega) htt (fun a ha => by cases ha; exact hfo)
    refine lv_goto (tgt := 51) hx hb d_Machine_await_35 (by decide) ?_
    refine vx_ret ?_
    refine y_know (fun hy91 hy92 hy93 hy94 => ?_)
    have hac9 : y_ac (cq + cs) s.heap.size (y_hs s.heap) (cq + cs) H := ⟨by omega, by omega⟩
    refine W.widen (k := 1) (n := 6) (by omega) (by omega) ?_
    exact W.vret hx hb hr (fun t ht hW => ⟨⟨((upd I (16 + c9) vv), T, A, (y_up (y_up O ((4 + 3 * c9)) (some tt)) ((5 + 3 * c9)) (some fo)), pl, (qn, sn, cq, cs)), rfl, ⟨rfl, rfl, rfl, rfl, hmi, (m_fr.rf.up (y_16 hc9) _)⟩, (by dsimp only; rw [ht]; exact ⟨hP, hD, hac9⟩)⟩, hS.F ht⟩) hS.2.2 d_Machine_await_51
  · refine W.eq (g2 := F0 m 13 ls [.ref x1]) rfl ?_
    have hx1 : G x1 = 8 := (hmi.2.2.2.2.2.1 c9 (by omega)).2.1 x1 hOx1
    refine lv_ifnonnull (tgt := 38) hx hb d_Machine_await_13 (by decide) ?_
    refine lv_aload hx hb d_Machine_await_38 (lv_at hl 0 rfl) ?_
    refine k_gN (C := "ChannelMachine$Channel") (F := F_Channel) (N := 4) hx hb hts i_Channel hown hK hP (14 + c9) 1 (by omega) (y_cc (by omega)) (y_ccl (by omega)) (by decide) (d := (3, (4 + 3 * c9))) (y_dc1 (by omega)) (hU.1.2.1 _ kn_135) (fun _ h9 => h9) (v := .ref x1) (by show va_rf (O ((4 + 3 * c9))) = _; rw [hOx1]; rfl) d_Machine_await_40 ?_
    refine lv_aload_n hx hb d_Machine_await_43 rfl (lv_at hl 2 rfl) ?_
    refine lv_acmp_eq (rx := (some x1)) (ry := (some tt)) (tgt := 51) hx hb d_Machine_await_44 (by decide) (fun h_2 => ?_) (fun h_2 => ?_)
    · refine vx_ret ?_
      refine y_know (fun hy91 hy92 hy93 hy94 => ?_)
      have hac9 : y_ac (cq + cs) s.heap.size (y_hs s.heap) (cq + cs) s.heap := ⟨by omega, by omega⟩
      refine W.widen (k := 1) (n := 6) (by omega) (by omega) ?_
      exact W.vret hx hb hr (fun t ht hW => ⟨⟨(I, T, A, O, pl, (qn, sn, cq, cs)), rfl, ⟨rfl, rfl, rfl, rfl, hmi, m_fr.rf⟩, (by dsimp only; rw [ht]; exact ⟨hP, hD, hac9⟩)⟩, hS.F ht⟩) hS.2.2 d_Machine_await_51
    · refine lv_aload_n hx hb d_Machine_await_47 rfl (lv_at hl 1 rfl) ?_
      refine y_know (fun hya1 hya2 hya3 hya4 => ?_)
      have hFc := y_free hD hS hA
      refine vx_callv (vx_runV (As := []) (rest := []) ⟨hx, hb, hml, hown, hts⟩ (c_M_clash l hst dC dI ar N0 z ad I T A O pl G C Gs qn sn cq cs s.heap.size (y_hs s.heap) hmi) (cwV 0 hts (x_goodV k_843 k_845 kp_38 k_3 k_846) rfl rfl rfl (by decide +kernel) ⟨Nat.le_of_ble_eq_true rfl, Nat.le_of_ble_eq_true rfl⟩) ⟨y_blind, va_recv hK hP (ci := 2) (q0 := 4) rfl (y_W_ob (by decide) (by decide)), fun U9 hU9 hW9 => y_pre hU9 hW9 hP hD hU hZ hS hAN hN0⟩ rfl rfl hl.1 rfl (lv_room (Nat.le_of_ble_eq_true rfl)) d_Machine_await_48 ⟨(by show 0 + (1) ≤ 1; omega), (by show 0 + (6) ≤ 6; omega)⟩) hS (fun q _ h => hFc q h) hFc (fun q h1 h2 => hFc q h2) (fun E ce q9 u t H1 locs ht hvm hpx hbx hz1 hk1 hS hce hcv hcl => ?_) (fun u t H1 locs ht hvm hw hB hz1 hk1 hS => ?_)
      · obtain ⟨I3, T3, A3, O3, pl3, q3, s3, cq3, cs3⟩ := u
        dsimp only at hpx hbx
        rw [ht] at hbx
        obtain ⟨hP, hD1, hac3⟩ := hbx
        have hD : va_D Bq (y_W ad ar I3 T3 A3 O3 pl3) := hD1.weaken (fun _ q _ h => hFc q.1 h)
        generalize H1 = H at hP hS hac3 hce ⊢
        obtain ⟨hE, hac3⟩ := hac3
        obtain ⟨hmi, hbd3, fr3, h73⟩ := hpx
        have hb3 := hbd3
        unfold y_bd at hb3
        dsimp only at hb3
        refine y_knowx (fun hy91 hy92 hy93 hy94 => ?_)
        have hac9 : y_ac (cq + cs) (s.heap.size + 1) (y_hs s.heap + 6) (cq3 + cs3) H := ⟨by omega, by omega⟩
        exact vx_out (fun x hx9 => (htb x hx9).elim) hlocks hce hcv hcl (fun t ht hvm => ⟨(I3, T3, A3, O3, pl3, (q3, s3, cq3, cs3)), ⟨hmi, (y_bd.tr hbd3 (y_bd.rf (a := 0) (b := 0)) (e := 0) (g := 0) (by decide) (by decide)), (m_fr.rf.tr fr3 (by decide)), h73⟩, (by dsimp only; rw [ht]; exact ⟨hP, hD, hE, hac9⟩), hS.F ht⟩) hS.2.2 (by show 0 + (1) ≤ 1; omega) (by show 0 + (6) ≤ 6; omega)
      · exact hw.elim
set_option maxHeartbeats 4000000 in
set_option maxRecDepth 100000 in
theorem c_M_pass (l : Launch) (dC : Nat → ClassId) (dI : Nat → Nat → Nat) (ar : Nat → ClassId) (N0 : Nat) (z : Nat → Nat) (ad : Nat → Nat) (I : Nat → Int32) (T : Int64) (A : Nat → Nat → Int32) (O : Nat → Option Nat) (pl : va_W) (G : Nat → Nat) (C Gs : Nat → List Nat) (qn sn cq cs : Nat) (tt gg : Nat) (sz w0 : Nat) (hmi : y_MI z ar G C Gs I O (y_L pl) (qn, sn, cq, cs)) (htt : G tt = 8) (hgg9 : G gg = 9) (hlim : qn ≤ 20000000) : Met l ({ cls := "ChannelMachine$Machine", name := "pass", desc := "(LChannelMachine$Task;LChannelMachine$Guard;)V" } : Jvm.MethodName) ((Jvm.Cond.code ({ cls := "ChannelMachine$Machine", name := "pass", desc := "(LChannelMachine$Task;LChannelMachine$Guard;)V" } : Jvm.MethodName) prog_6_method_25_code (3 : Nat) (Option.none : Option Jvm.ClassFile.FieldType)) :: x_T) ({ frames := 9, cells := y_gc qn cq, slots := y_gs qn cq, locals := 234 }) (y_Pc (dC, dI) ar N0 z (y_W ad ar I T A O pl) sz w0 [.ref (ad 4), .ref tt, .ref gg]) (va_Qv (fun (u : (Nat → Int32) × Int64 × (Nat → Nat → Int32) × (Nat → Option Nat) × va_W × (Nat × Nat × Nat × Nat)) => y_MI z ar G C Gs u.1 u.2.2.2.1 (y_L u.2.2.2.2.1) u.2.2.2.2.2 ∧ y_bd (qn, sn, cq, cs) u.2.2.2.2.2 1 0 ∧ m_fr [10, 11, 12, 13, 14, 15] I u.1) (fun u t => va_P (dC, dI) y_cl (y_W ad ar u.1 u.2.1 u.2.2.1 u.2.2.2.1 u.2.2.2.2.1) t.heap ∧ va_D (va_A (y_W ad ar I T A O pl) sz) (y_W ad ar u.1 u.2.1 u.2.2.1 u.2.2.2.1 u.2.2.2.2.1) ∧ y_ac (cq + cs) sz w0 (u.2.2.2.2.2.2.2.1 + u.2.2.2.2.2.2.2.2) t.heap) (va_A (y_W ad ar I T A O pl) sz)) (y_gc qn cq) (y_gs qn cq) (va_A (y_W ad ar I T A O pl) sz) := by
  refine Met.ofW (cc := prog_6_method_25_code) (maxL := 3) (ret := none) (by decide) rfl ?_
  intro p e s m args below meth c s₁ B hml hv
  obtain ⟨rfl, hsz, hN0, hP, hU, hZ, hD0, hw0⟩ := hv
  have hK := hU.2.1
  have hx := B.exec
  have hb := B.bytes
  have hr := B.returns
  have hts : ∀ w ∈ x_T, w.before ([.ref (ad 4), .ref tt, .ref gg] : List Value).toArray s = true := fun w h => atoms_spec (ws := (Jvm.Cond.code ({ cls := "ChannelMachine$Machine", name := "pass", desc := "(LChannelMachine$Task;LChannelMachine$Guard;)V" } : Jvm.MethodName) prog_6_method_25_code (3 : Nat) (Option.none : Option Jvm.ClassFile.FieldType)) :: x_T) B.pre w (List.mem_cons_of_mem _ h)
  have hown : s.vm.findClass "ChannelMachine$Machine" = some m.cls := findClass_of_methodNamed B.named
  have hlocks := B.notSynchronized
  subst hsz
  subst hw0
  have hD := hD0.self (sz := s.heap.size)
  have hAN := x_AN hD0 hN0
  generalize hAe : va_A (y_W ad ar I T A O pl) s.heap.size = Bq at hD hAN ⊢
  have hA : ∀ q : Nat, s.heap.size ≤ q → Bq q := fun q h => by rw [← hAe]; exact Or.inr h
  have hS : va_S Bq s.heap s.heap [] := va_S.rf
  have hl := lv_entry ([.ref (ad 4), .ref tt, .ref gg]) (n := 3) (Nat.le_of_ble_eq_true rfl)
  rw [lg_entry_eq]
  generalize (lg_sl ([.ref (ad 4), .ref tt, .ref gg]) ++ List.replicate (3 - (lg_sl ([.ref (ad 4), .ref tt, .ref gg])).length) Slot.unset).toArray = ls at hl ⊢
  have hl : lv_has ls 3 [(0, .ref (ad 4)), (1, .ref tt), (2, .ref gg)] := hl
  have hle := y_LS.le hmi.2.1.2
  dsimp only at hle
  have hcap := hmi.2.2.2.2.1
  dsimp only at hcap
  have hgg := y_gg qn cq
  obtain ⟨co1, ch1, va1, fo1, nx1, op1, hf1, hgk1⟩ := hmi.1.2.2.1 gg hgg9
  have hco1 := hgk1.1
  obtain ⟨p1, rfl, hp1⟩ := hgk1.2.2
  refine lv_aload_n hx hb d_Machine_pass_0 rfl (lv_at hl 2 rfl) ?_
  refine d_gN (C := "ChannelMachine$Guard") (F := F_Guard) (N := 6) hx hb hts i_Guard hown hK hP hf1 1 rfl (by decide) (hU.1.2.1 _ kn_574) (fun _ h9 => h9) (v := .int ch1) rfl d_Machine_pass_1 ?_
  rcases hgk1.2.1 with rfl | ⟨c9, hc9, rfl⟩
  · refine lv_iconst (v := (-1)) hx hb d_Machine_pass_4 (by decide) ?_
    refine lv_icmp_eq (tgt := 24) hx hb d_Machine_pass_5 (by decide) (fun _ => ?_) (fun c2 => absurd (by decide) c2)
    refine lv_aload_n hx hb d_Machine_pass_24 rfl (lv_at hl 1 rfl) ?_
    refine lv_aload_n hx hb d_Machine_pass_25 rfl (lv_at hl 2 rfl) ?_
    refine d_gN (C := "ChannelMachine$Guard") (F := F_Guard) (N := 6) hx hb hts i_Guard hown hK hP hf1 3 rfl (by decide) (hU.1.2.1 _ kn_580) (fun _ h9 => h9) (v := .ref p1) rfl d_Machine_pass_26 ?_
    obtain ⟨w3, m3, a3, b3, r3, v3, u3, hf3, hw3, hm3, ha3⟩ := hmi.1.2.1 tt htt
    have hFc := y_free hD hS hA
    refine va_callv (va_runV (As := [.ref p1]) (rest := []) ⟨hx, hb, hml, hown, hts⟩ (c_T_enter l dC dI ar N0 z ad I T A O pl G C Gs qn sn cq cs tt p1 s.heap.size (y_hs s.heap) hmi htt hp1) (cwV 1 hts (x_goodV k_636 k_637 k_638 k_18 k_639) rfl rfl rfl (by decide +kernel) ⟨Nat.le_of_ble_eq_true rfl, Nat.le_of_ble_eq_true rfl⟩) ⟨y_blind, (by obtain ⟨q9, hq9⟩ := y_L_at hf3; exact va_recv hK hP (ci := 8) (q0 := 20 + q9) rfl (by rw [y_W_pl]; exact hq9)), fun U9 hU9 hW9 => y_pre hU9 hW9 hP hD hU hZ hS hAN hN0⟩ rfl rfl hl.1 rfl (lv_room (Nat.le_of_ble_eq_true rfl)) d_Machine_pass_29 ⟨(by show 0 + (0) ≤ y_gc qn cq; omega), (by show 0 + (0) ≤ y_gs qn cq; omega)⟩) hS (fun q _ h => hFc q h) hFc (fun u t H1 locs ht hvm hw hB hz1 hk1 hS => ?_)
    obtain ⟨I4, T4, A4, O4, pl4, q4, s4, cq4, cs4⟩ := u
    dsimp only at hw hB
    rw [ht] at hB
    obtain ⟨hP, hD1, hac4⟩ := hB
    have hD : va_D Bq (y_W ad ar I4 T4 A4 O4 pl4) := hD1.weaken (fun _ q _ h => hFc q.1 h)
    generalize H1 = H at hP hS hac4 ⊢
    have hae4 := hac4
    try unfold y_ac at hae4
    try dsimp only at hae4
    refine W.widen (k := 0) (n := 0) (by omega) (by omega) ?_
    obtain ⟨e1, e2, e3, e4, e5, hmi⟩ := hw
    cases e5
    rw [e1, e2, e3, e4] at hP hD
    rw [e1, e4] at hmi
    have hmi : y_MI z ar G C Gs I O (y_L pl4) (qn, sn, cq, cs) := hmi
    refine y_know (fun hy91 hy92 hy93 hy94 => ?_)
    have hac9 : y_ac (cq + cs) s.heap.size (y_hs s.heap) (cq + cs) H := ⟨by omega, by omega⟩
    refine W.widen (k := y_gc qn cq) (n := y_gs qn cq) (by omega) (by omega) ?_
    exact W.vret hx hb hr (fun t ht hW => ⟨⟨(I, T, A, O, pl4, (qn, sn, cq, cs)), rfl, ⟨hmi, y_bd.rf, m_fr.rf⟩, (by dsimp only; rw [ht]; exact ⟨hP, hD, hac9⟩)⟩, hS.F ht⟩) hS.2.2 d_Machine_pass_32
  · refine lv_iconst (v := (-1)) hx hb d_Machine_pass_4 (by decide) ?_
    refine lv_icmp_eq (tgt := 24) hx hb d_Machine_pass_5 (by decide) (fun h9 => absurd h9 (x_n1 (by omega))) (fun _ => ?_)
    refine lv_aload_n hx hb d_Machine_pass_8 rfl (lv_at hl 0 rfl) ?_
    refine lv_aload_n hx hb d_Machine_pass_9 rfl (lv_at hl 2 rfl) ?_
    refine d_gN (C := "ChannelMachine$Guard") (F := F_Guard) (N := 6) hx hb hts i_Guard hown hK hP hf1 2 rfl (by decide) (hU.1.2.1 _ kn_577) (fun _ h9 => h9) (v := .int va1) rfl d_Machine_pass_10 ?_
    refine lv_aload_n hx hb d_Machine_pass_13 rfl (lv_at hl 0 rfl) ?_
    refine lv_aload_n hx hb d_Machine_pass_14 rfl (lv_at hl 2 rfl) ?_
    refine d_gN (C := "ChannelMachine$Guard") (F := F_Guard) (N := 6) hx hb hts i_Guard hown hK hP hf1 1 rfl (by decide) (hU.1.2.1 _ kn_574) (fun _ h9 => h9) (v := .int (Int32.ofNat c9)) rfl d_Machine_pass_15 ?_
    have hgg5 := y_gg qn cq
    refine y_know (fun hya1 hya2 hya3 hya4 => ?_)
    have hFc := y_free hD hS hA
    refine va_calli (va_runV (As := [.int (Int32.ofNat c9)]) (rest := [.int va1, .ref (ad 4)]) ⟨hx, hb, hml, hown, hts⟩ (c_M_fetched l dC dI ar N0 z ad I T A O pl G C Gs qn sn cq cs c9 s.heap.size (y_hs s.heap) hmi (by omega) (by omega)) (cwV 1 hts (x_goodV k_858 k_860 kp_41 k_3 k_861) rfl rfl rfl (by decide +kernel) ⟨Nat.le_of_ble_eq_true rfl, Nat.le_of_ble_eq_true rfl⟩) ⟨y_blind, va_recv hK hP (ci := 2) (q0 := 4) rfl (y_W_ob (by decide) (by decide)), fun U9 hU9 hW9 => y_pre hU9 hW9 hP hD hU hZ hS hAN hN0⟩ rfl rfl hl.1 rfl (lv_room (Nat.le_of_ble_eq_true rfl)) d_Machine_pass_18 ⟨(by show 0 + (y_gc qn cq) ≤ y_gc qn cq; omega), (by show 0 + (y_gs qn cq) ≤ y_gs qn cq; omega)⟩) hS (fun q _ h => hFc q h) hFc (fun r_6 u t H1 locs ht hvm hw hB hz1 hk1 hS => ?_)
    obtain ⟨I7, T7, A7, O7, pl7, q7, s7, cq7, cs7⟩ := u
    dsimp only at hw hB
    rw [ht] at hB
    obtain ⟨hP, hD1, hac7⟩ := hB
    have hD : va_D Bq (y_W ad ar I7 T7 A7 O7 pl7) := hD1.weaken (fun _ q _ h => hFc q.1 h)
    generalize H1 = H at hP hS hac7 ⊢
    have hae7 := hac7
    try unfold y_ac at hae7
    try dsimp only at hae7
    obtain ⟨hmi, hbd7, fr7⟩ := hw
    unfold y_ac at hac7
    have hb7 := hbd7
    unfold y_bd at hb7
    dsimp only at hb7 hac7
    have hFc := y_free hD hS hA
    refine va_callv (va_runV (As := [.int va1, .int r_6]) (rest := []) ⟨hx, hb, hml, hown, hts⟩ (c_M_assign l dC dI ar N0 z ad I7 T7 A7 O7 pl7 G C Gs q7 s7 cq7 cs7 (va1) (r_6) H.size (y_hs H) hmi) (cwV 2 hts (x_goodV k_815 k_817 kp_33 k_3 k_818) rfl rfl rfl (by decide +kernel) ⟨Nat.le_of_ble_eq_true rfl, Nat.le_of_ble_eq_true rfl⟩) ⟨y_blind, va_recv hK hP (ci := 2) (q0 := 4) rfl (y_W_ob (by decide) (by decide)), fun U9 hU9 hW9 => y_pre hU9 hW9 hP hD hU hZ hS hAN hN0⟩ rfl rfl hl.1 rfl (lv_room (Nat.le_of_ble_eq_true rfl)) d_Machine_pass_21 ⟨(by show 0 + (y_gc qn cq) + (0) ≤ y_gc qn cq; omega), (by show 0 + (y_gs qn cq) + (0) ≤ y_gs qn cq; omega)⟩) hS (fun q _ h => hFc q h) hFc (fun u t H1 locs ht hvm hw hB hz1 hk1 hS => ?_)
    obtain ⟨I8, T8, A8, O8, pl8, q8, s8, cq8, cs8⟩ := u
    dsimp only at hw hB
    rw [ht] at hB
    obtain ⟨hP, hD1, hac8⟩ := hB
    have hD : va_D Bq (y_W ad ar I8 T8 A8 O8 pl8) := hD1.weaken (fun _ q _ h => hFc q.1 h)
    generalize H1 = H at hP hS hac8 ⊢
    have hae8 := hac8
    try unfold y_ac at hae8
    try dsimp only at hae8
    refine W.widen (k := 0 + (y_gc qn cq)) (n := 0 + (y_gs qn cq)) (by omega) (by omega) ?_
    obtain ⟨e1, e2, e3, e4, e5⟩ := hw
    cases e5
    rw [e1, e2, e3, e4] at hP hD
    refine lv_aload_n hx hb d_Machine_pass_24 rfl (lv_at hl 1 rfl) ?_
    refine lv_aload_n hx hb d_Machine_pass_25 rfl (lv_at hl 2 rfl) ?_
    obtain ⟨co9, ch9, va9, fo9, nx9, op9, hf9, hgk9⟩ := hmi.1.2.2.1 gg hgg9
    have hco9 := hgk9.1
    obtain ⟨p9, rfl, hp9⟩ := hgk9.2.2
    refine d_gN (C := "ChannelMachine$Guard") (F := F_Guard) (N := 6) hx hb hts i_Guard hown hK hP hf9 3 rfl (by decide) (hU.1.2.1 _ kn_580) (fun _ h9 => h9) (v := .ref p9) rfl d_Machine_pass_26 ?_
    obtain ⟨w10, m10, a10, b10, r10, v10, u10, hf10, hw10, hm10, ha10⟩ := hmi.1.2.1 tt htt
    have hFc := y_free hD hS hA
    refine va_callv (va_runV (As := [.ref p9]) (rest := []) ⟨hx, hb, hml, hown, hts⟩ (c_T_enter l dC dI ar N0 z ad I7 T7 A8 O7 pl7 G C Gs q7 s7 cq7 cs7 tt p9 H.size (y_hs H) hmi htt hp9) (cwV 1 hts (x_goodV k_636 k_637 k_638 k_18 k_639) rfl rfl rfl (by decide +kernel) ⟨Nat.le_of_ble_eq_true rfl, Nat.le_of_ble_eq_true rfl⟩) ⟨y_blind, (by obtain ⟨q9, hq9⟩ := y_L_at hf10; exact va_recv hK hP (ci := 8) (q0 := 20 + q9) rfl (by rw [y_W_pl]; exact hq9)), fun U9 hU9 hW9 => y_pre hU9 hW9 hP hD hU hZ hS hAN hN0⟩ rfl rfl hl.1 rfl (lv_room (Nat.le_of_ble_eq_true rfl)) d_Machine_pass_29 ⟨(by show 0 + (y_gc qn cq) + (0) ≤ y_gc qn cq; omega), (by show 0 + (y_gs qn cq) + (0) ≤ y_gs qn cq; omega)⟩) hS (fun q _ h => hFc q h) hFc (fun u t H1 locs ht hvm hw hB hz1 hk1 hS => ?_)
    obtain ⟨I11, T11, A11, O11, pl11, q11, s11, cq11, cs11⟩ := u
    dsimp only at hw hB
    rw [ht] at hB
    obtain ⟨hP, hD1, hac11⟩ := hB
    have hD : va_D Bq (y_W ad ar I11 T11 A11 O11 pl11) := hD1.weaken (fun _ q _ h => hFc q.1 h)
    generalize H1 = H at hP hS hac11 ⊢
    have hae11 := hac11
    try unfold y_ac at hae11
    try dsimp only at hae11
    refine W.widen (k := 0 + (y_gc qn cq)) (n := 0 + (y_gs qn cq)) (by omega) (by omega) ?_
    obtain ⟨e1, e2, e3, e4, e5, hmi⟩ := hw
    cases e5
    rw [e1, e2, e3, e4] at hP hD
    rw [e1, e4] at hmi
    have hmi : y_MI z ar G C Gs I7 O7 (y_L pl11) (q7, s7, cq7, cs7) := hmi
    refine y_know (fun hy91 hy92 hy93 hy94 => ?_)
    have hac9 : y_ac (cq + cs) s.heap.size (y_hs s.heap) (cq7 + cs7) H := ⟨by omega, by omega⟩
    refine W.widen (k := y_gc qn cq) (n := y_gs qn cq) (by omega) (by omega) ?_
    exact W.vret hx hb hr (fun t ht hW => ⟨⟨(I7, T7, A8, O7, pl11, (q7, s7, cq7, cs7)), rfl, ⟨hmi, (y_bd.tr hbd7 (y_bd.rf (a := 0) (b := 0)) (e := 1) (g := 0) (by decide) (by decide)), (m_fr.rf.tr fr7 (by decide))⟩, (by dsimp only; rw [ht]; exact ⟨hP, hD, hac9⟩)⟩, hS.F ht⟩) hS.2.2 d_Machine_pass_32
set_option maxHeartbeats 4000000 in
set_option maxRecDepth 100000 in
theorem c_M_input (l : Launch) (hst : l.stackTraces = false) (dC : Nat → ClassId) (dI : Nat → Nat → Nat) (ar : Nat → ClassId) (N0 : Nat) (z : Nat → Nat) (ad : Nat → Nat) (I : Nat → Int32) (T : Int64) (A : Nat → Nat → Int32) (O : Nat → Option Nat) (pl : va_W) (G : Nat → Nat) (C Gs : Nat → List Nat) (qn sn cq cs : Nat) (tt pp c9 : Nat) (sz w0 : Nat) (hmi : y_MI z ar G C Gs I O (y_L pl) (qn, sn, cq, cs)) (htt : G tt = 8) (hpp : G pp = 7) (hfp : y_sl (y_L pl) pp 8 = some (.int (Int32.ofNat c9))) (hc9 : c9 < 6) (hlim : qn ≤ 20000000) : vx_Met l ({ cls := "ChannelMachine$Machine", name := "input", desc := "(LChannelMachine$Task;LChannelMachine$Process;)V" } : Jvm.MethodName) ((Jvm.Cond.code ({ cls := "ChannelMachine$Machine", name := "input", desc := "(LChannelMachine$Task;LChannelMachine$Process;)V" } : Jvm.MethodName) prog_6_method_17_code (3 : Nat) (Option.none : Option Jvm.ClassFile.FieldType)) :: x_T) ({ frames := 9, cells := y_gc qn cq + 1, slots := y_gs qn cq + 6, locals := 234 }) (y_Pc (dC, dI) ar N0 z (y_W ad ar I T A O pl) sz w0 [.ref (ad 4), .ref tt, .ref pp]) (va_Qv (fun (u : (Nat → Int32) × Int64 × (Nat → Nat → Int32) × (Nat → Option Nat) × va_W × (Nat × Nat × Nat × Nat)) => y_MI z ar G C Gs u.1 u.2.2.2.1 (y_L u.2.2.2.2.1) u.2.2.2.2.2 ∧ y_bd (qn, sn, cq, cs) u.2.2.2.2.2 1 0 ∧ m_fr [7, 8, 10, 11, 12, 13, 14, 15, 16, 17, 18, 19, 20, 21] I u.1) (fun u t => va_P (dC, dI) y_cl (y_W ad ar u.1 u.2.1 u.2.2.1 u.2.2.2.1 u.2.2.2.2.1) t.heap ∧ va_D (va_A (y_W ad ar I T A O pl) sz) (y_W ad ar u.1 u.2.1 u.2.2.1 u.2.2.2.1 u.2.2.2.2.1) ∧ y_ac (cq + cs) sz w0 (u.2.2.2.2.2.2.2.1 + u.2.2.2.2.2.2.2.2) t.heap) (va_A (y_W ad ar I T A O pl) sz)) (vx_X (fun (u : (Nat → Int32) × Int64 × (Nat → Nat → Int32) × (Nat → Option Nat) × va_W × (Nat × Nat × Nat × Nat)) => y_MI z ar G C Gs u.1 u.2.2.2.1 (y_L u.2.2.2.2.1) u.2.2.2.2.2 ∧ y_bd (qn, sn, cq, cs) u.2.2.2.2.2 1 0 ∧ m_fr [7, 8, 10, 11, 12, 13, 14, 15, 16, 17, 18, 19, 20, 21] I u.1 ∧ u.1 7 = 3) (fun E u t => va_P (dC, dI) y_cl (y_W ad ar u.1 u.2.1 u.2.2.1 u.2.2.2.1 u.2.2.2.2.1) t.heap ∧ va_D (va_A (y_W ad ar I T A O pl) sz) (y_W ad ar u.1 u.2.1 u.2.2.1 u.2.2.2.1 u.2.2.2.2.1) ∧ (E = "java/lang/IllegalStateException" ∨ E = "java/lang/ArithmeticException") ∧ y_ac (cq + cs) (sz + 1) (w0 + 6) (u.2.2.2.2.2.2.2.1 + u.2.2.2.2.2.2.2.2) t.heap) (va_A (y_W ad ar I T A O pl) sz)) (y_gc qn cq + 1) (y_gs qn cq + 6) (va_A (y_W ad ar I T A O pl) sz) := by
  refine vx_ofW (cc := prog_6_method_17_code) (maxL := 3) (ret := none) (by decide) rfl ?_
  intro p e s m args below meth c s₁ B hml htb hv
  obtain ⟨rfl, hsz, hN0, hP, hU, hZ, hD0, hw0⟩ := hv
  have hK := hU.2.1
  have hx := B.exec
  have hb := B.bytes
  have hr := B.returns
  have hts : ∀ w ∈ x_T, w.before ([.ref (ad 4), .ref tt, .ref pp] : List Value).toArray s = true := fun w h => atoms_spec (ws := (Jvm.Cond.code ({ cls := "ChannelMachine$Machine", name := "input", desc := "(LChannelMachine$Task;LChannelMachine$Process;)V" } : Jvm.MethodName) prog_6_method_17_code (3 : Nat) (Option.none : Option Jvm.ClassFile.FieldType)) :: x_T) B.pre w (List.mem_cons_of_mem _ h)
  have hown : s.vm.findClass "ChannelMachine$Machine" = some m.cls := findClass_of_methodNamed B.named
  have hlocks := B.notSynchronized
  subst hsz
  subst hw0
  have hD := hD0.self (sz := s.heap.size)
  have hAN := x_AN hD0 hN0
  generalize hAe : va_A (y_W ad ar I T A O pl) s.heap.size = Bq at hD hAN ⊢
  have hA : ∀ q : Nat, s.heap.size ≤ q → Bq q := fun q h => by rw [← hAe]; exact Or.inr h
  have hS : va_S Bq s.heap s.heap [] := va_S.rf
  have hl := lv_entry ([.ref (ad 4), .ref tt, .ref pp]) (n := 3) (Nat.le_of_ble_eq_true rfl)
  rw [lg_entry_eq]
  generalize (lg_sl ([.ref (ad 4), .ref tt, .ref pp]) ++ List.replicate (3 - (lg_sl ([.ref (ad 4), .ref tt, .ref pp])).length) Slot.unset).toArray = ls at hl ⊢
  have hl : lv_has ls 3 [(0, .ref (ad 4)), (1, .ref tt), (2, .ref pp)] := hl
  have hle := y_LS.le hmi.2.1.2
  dsimp only at hle
  have hcap := hmi.2.2.2.2.1
  dsimp only at hcap
  have hgg := y_gg qn cq
  obtain ⟨j1, par1, nx1, tk1, co1, ch1, va1, hf1, hpk1⟩ := hmi.1.1 pp hpp
  have hpar1 := hpk1.2.1
  have hnx1 := hpk1.2.2.1
  obtain ⟨t1, rfl, ht1⟩ := hpk1.2.2.2.1
  have hfx9 : (Int32.ofNat c9) = ch1 := by rw [y_sl_at hf1] at hfp; exact (Value.int.inj (Option.some.inj hfp)).symm
  subst hfx9
  refine lv_aload_n hx hb d_Machine_input_0 rfl (lv_at hl 0 rfl) ?_
  refine lv_aload_n hx hb d_Machine_input_1 rfl (lv_at hl 2 rfl) ?_
  refine d_gN (C := "ChannelMachine$Process") (F := F_Process) (N := 10) hx hb hts i_Process hown hK hP hf1 8 rfl (by decide) (hU.1.2.1 _ kn_417) (fun _ h9 => h9) (v := .int (Int32.ofNat c9)) rfl d_Machine_input_2 ?_
  have hFc := y_free hD hS hA
  refine va_calli (va_runV (As := [.int (Int32.ofNat c9)]) (rest := []) ⟨hx, hb, hml, hown, hts⟩ (c_M_isReady l dC dI ar N0 z ad I T A O pl G C Gs qn sn cq cs ((Int32.ofNat c9)) s.heap.size (y_hs s.heap) hmi (Or.inr ⟨c9, hc9, rfl⟩)) (cwV 1 hts (x_goodV k_854 k_856 kp_40 k_3 k_857) rfl rfl rfl (by decide +kernel) ⟨Nat.le_of_ble_eq_true rfl, Nat.le_of_ble_eq_true rfl⟩) ⟨y_blind, va_recv hK hP (ci := 2) (q0 := 4) rfl (y_W_ob (by decide) (by decide)), fun U9 hU9 hW9 => y_pre hU9 hW9 hP hD hU hZ hS hAN hN0⟩ rfl rfl hl.1 rfl (lv_room (Nat.le_of_ble_eq_true rfl)) d_Machine_input_5 ⟨(by show 0 + (0) ≤ y_gc qn cq + 1; omega), (by show 0 + (0) ≤ y_gs qn cq + 6; omega)⟩) hS (fun q _ h => hFc q h) hFc (fun r_2 u t H1 locs ht hvm hw hB hz1 hk1 hS => ?_)
  obtain ⟨I3, T3, A3, O3, pl3, q3, s3, cq3, cs3⟩ := u
  dsimp only at hw hB
  rw [ht] at hB
  obtain ⟨hP, hD1, hac3⟩ := hB
  have hD : va_D Bq (y_W ad ar I3 T3 A3 O3 pl3) := hD1.weaken (fun _ q _ h => hFc q.1 h)
  generalize H1 = H at hP hS hac3 ⊢
  have hae3 := hac3
  try unfold y_ac at hae3
  try dsimp only at hae3
  refine W.widen (k := 0) (n := 0) (by omega) (by omega) ?_
  obtain ⟨h9, hw⟩ := hw
  cases h9
  rcases hw with rfl | ⟨rfl, hnr⟩
  · refine lv_if_eq (tgt := 34) hx hb d_Machine_input_8 (by decide) (fun c4 => absurd c4 (by decide)) (fun _ => ?_)
    refine lv_aload_n hx hb d_Machine_input_11 rfl (lv_at hl 0 rfl) ?_
    refine lv_aload_n hx hb d_Machine_input_12 rfl (lv_at hl 2 rfl) ?_
    refine d_gN (C := "ChannelMachine$Process") (F := F_Process) (N := 10) hx hb hts i_Process hown hK hP hf1 9 rfl (by decide) (hU.1.2.1 _ kn_420) (fun _ h9 => h9) (v := .int va1) rfl d_Machine_input_13 ?_
    refine lv_aload_n hx hb d_Machine_input_16 rfl (lv_at hl 0 rfl) ?_
    refine lv_aload_n hx hb d_Machine_input_17 rfl (lv_at hl 2 rfl) ?_
    refine d_gN (C := "ChannelMachine$Process") (F := F_Process) (N := 10) hx hb hts i_Process hown hK hP hf1 8 rfl (by decide) (hU.1.2.1 _ kn_417) (fun _ h9 => h9) (v := .int (Int32.ofNat c9)) rfl d_Machine_input_18 ?_
    have hgg5 := y_gg qn cq
    refine y_know (fun hya1 hya2 hya3 hya4 => ?_)
    have hFc := y_free hD hS hA
    refine va_calli (va_runV (As := [.int (Int32.ofNat c9)]) (rest := [.int va1, .ref (ad 4)]) ⟨hx, hb, hml, hown, hts⟩ (c_M_fetched l dC dI ar N0 z ad I T A O pl G C Gs qn sn cq cs c9 H.size (y_hs H) hmi (by omega) (by omega)) (cwV 1 hts (x_goodV k_858 k_860 kp_41 k_3 k_861) rfl rfl rfl (by decide +kernel) ⟨Nat.le_of_ble_eq_true rfl, Nat.le_of_ble_eq_true rfl⟩) ⟨y_blind, va_recv hK hP (ci := 2) (q0 := 4) rfl (y_W_ob (by decide) (by decide)), fun U9 hU9 hW9 => y_pre hU9 hW9 hP hD hU hZ hS hAN hN0⟩ rfl rfl hl.1 rfl (lv_room (Nat.le_of_ble_eq_true rfl)) d_Machine_input_21 ⟨(by show 0 + (y_gc qn cq) ≤ y_gc qn cq + 1; omega), (by show 0 + (y_gs qn cq) ≤ y_gs qn cq + 6; omega)⟩) hS (fun q _ h => hFc q h) hFc (fun r_6 u t H1 locs ht hvm hw hB hz1 hk1 hS => ?_)
    obtain ⟨I7, T7, A7, O7, pl7, q7, s7, cq7, cs7⟩ := u
    dsimp only at hw hB
    rw [ht] at hB
    obtain ⟨hP, hD1, hac7⟩ := hB
    have hD : va_D Bq (y_W ad ar I7 T7 A7 O7 pl7) := hD1.weaken (fun _ q _ h => hFc q.1 h)
    generalize H1 = H at hP hS hac7 ⊢
    have hae7 := hac7
    try unfold y_ac at hae7
    try dsimp only at hae7
    obtain ⟨hmi, hbd7, fr7⟩ := hw
    unfold y_ac at hac7
    have hb7 := hbd7
    unfold y_bd at hb7
    dsimp only at hb7 hac7
    have hFc := y_free hD hS hA
    refine va_callv (va_runV (As := [.int va1, .int r_6]) (rest := []) ⟨hx, hb, hml, hown, hts⟩ (c_M_assign l dC dI ar N0 z ad I7 T7 A7 O7 pl7 G C Gs q7 s7 cq7 cs7 (va1) (r_6) H.size (y_hs H) hmi) (cwV 2 hts (x_goodV k_815 k_817 kp_33 k_3 k_818) rfl rfl rfl (by decide +kernel) ⟨Nat.le_of_ble_eq_true rfl, Nat.le_of_ble_eq_true rfl⟩) ⟨y_blind, va_recv hK hP (ci := 2) (q0 := 4) rfl (y_W_ob (by decide) (by decide)), fun U9 hU9 hW9 => y_pre hU9 hW9 hP hD hU hZ hS hAN hN0⟩ rfl rfl hl.1 rfl (lv_room (Nat.le_of_ble_eq_true rfl)) d_Machine_input_24 ⟨(by show 0 + (y_gc qn cq) + (0) ≤ y_gc qn cq + 1; omega), (by show 0 + (y_gs qn cq) + (0) ≤ y_gs qn cq + 6; omega)⟩) hS (fun q _ h => hFc q h) hFc (fun u t H1 locs ht hvm hw hB hz1 hk1 hS => ?_)
    obtain ⟨I8, T8, A8, O8, pl8, q8, s8, cq8, cs8⟩ := u
    dsimp only at hw hB
    rw [ht] at hB
    obtain ⟨hP, hD1, hac8⟩ := hB
    have hD : va_D Bq (y_W ad ar I8 T8 A8 O8 pl8) := hD1.weaken (fun _ q _ h => hFc q.1 h)
    generalize H1 = H at hP hS hac8 ⊢
    have hae8 := hac8
    try unfold y_ac at hae8
    try dsimp only at hae8
    refine W.widen (k := 0 + (y_gc qn cq)) (n := 0 + (y_gs qn cq)) (by omega) (by omega) ?_
    obtain ⟨e1, e2, e3, e4, e5⟩ := hw
    cases e5
    rw [e1, e2, e3, e4] at hP hD
    refine lv_aload_n hx hb d_Machine_input_27 rfl (lv_at hl 1 rfl) ?_
    obtain ⟨w9, m9, a9, b9, r9, v9, u9, hf9, hw9, hm9, ha9⟩ := hmi.1.2.1 tt htt
    have hFc := y_free hD hS hA
    refine va_callv (va_runV (As := []) (rest := []) ⟨hx, hb, hml, hown, hts⟩ (c_T_goOn l dC dI ar N0 z ad I7 T7 A8 O7 pl7 G C Gs q7 s7 cq7 cs7 tt H.size (y_hs H) hmi htt) (cwV 0 hts (x_goodV k_777 k_778 k_779 k_18 k_780) rfl rfl rfl (by decide +kernel) ⟨Nat.le_of_ble_eq_true rfl, Nat.le_of_ble_eq_true rfl⟩) ⟨y_blind, (by obtain ⟨q9, hq9⟩ := y_L_at hf9; exact va_recv hK hP (ci := 8) (q0 := 20 + q9) rfl (by rw [y_W_pl]; exact hq9)), fun U9 hU9 hW9 => y_pre hU9 hW9 hP hD hU hZ hS hAN hN0⟩ rfl rfl hl.1 rfl (lv_room (Nat.le_of_ble_eq_true rfl)) d_Machine_input_28 ⟨(by show 0 + (y_gc qn cq) + (0) ≤ y_gc qn cq + 1; omega), (by show 0 + (y_gs qn cq) + (0) ≤ y_gs qn cq + 6; omega)⟩) hS (fun q _ h => hFc q h) hFc (fun u t H1 locs ht hvm hw hB hz1 hk1 hS => ?_)
    obtain ⟨I10, T10, A10, O10, pl10, q10, s10, cq10, cs10⟩ := u
    dsimp only at hw hB
    rw [ht] at hB
    obtain ⟨hP, hD1, hac10⟩ := hB
    have hD : va_D Bq (y_W ad ar I10 T10 A10 O10 pl10) := hD1.weaken (fun _ q _ h => hFc q.1 h)
    generalize H1 = H at hP hS hac10 ⊢
    have hae10 := hac10
    try unfold y_ac at hae10
    try dsimp only at hae10
    refine W.widen (k := 0 + (y_gc qn cq)) (n := 0 + (y_gs qn cq)) (by omega) (by omega) ?_
    obtain ⟨e1, e2, e3, e4, e5, hmi⟩ := hw
    cases e5
    rw [e1, e2, e3, e4] at hP hD
    rw [e1, e4] at hmi
    have hmi : y_MI z ar G C Gs I7 O7 (y_L pl10) (q7, s7, cq7, cs7) := hmi
    refine lv_goto (tgt := 52) hx hb d_Machine_input_31 (by decide) ?_
    refine vx_ret ?_
    refine y_know (fun hy91 hy92 hy93 hy94 => ?_)
    have hac9 : y_ac (cq + cs) s.heap.size (y_hs s.heap) (cq7 + cs7) H := ⟨by omega, by omega⟩
    refine W.widen (k := y_gc qn cq + 1) (n := y_gs qn cq + 6) (by omega) (by omega) ?_
    exact W.vret hx hb hr (fun t ht hW => ⟨⟨(I7, T7, A8, O7, pl10, (q7, s7, cq7, cs7)), rfl, ⟨hmi, (y_bd.tr hbd7 (y_bd.rf (a := 0) (b := 0)) (e := 1) (g := 0) (by decide) (by decide)), (m_fr.rf.tr fr7 (by decide))⟩, (by dsimp only; rw [ht]; exact ⟨hP, hD, hac9⟩)⟩, hS.F ht⟩) hS.2.2 d_Machine_input_52
  · refine lv_if_eq (tgt := 34) hx hb d_Machine_input_8 (by decide) (fun _ => ?_) (fun c11 => absurd (by decide) c11)
    refine lv_aload_n hx hb d_Machine_input_34 rfl (lv_at hl 0 rfl) ?_
    refine lv_aload_n hx hb d_Machine_input_35 rfl (lv_at hl 1 rfl) ?_
    refine lv_aload_n hx hb d_Machine_input_36 rfl (lv_at hl 2 rfl) ?_
    refine d_gN (C := "ChannelMachine$Process") (F := F_Process) (N := 10) hx hb hts i_Process hown hK hP hf1 8 rfl (by decide) (hU.1.2.1 _ kn_417) (fun _ h9 => h9) (v := .int (Int32.ofNat c9)) rfl d_Machine_input_37 ?_
    refine lv_aload_n hx hb d_Machine_input_40 rfl (lv_at hl 2 rfl) ?_
    refine d_gN (C := "ChannelMachine$Process") (F := F_Process) (N := 10) hx hb hts i_Process hown hK hP hf1 9 rfl (by decide) (hU.1.2.1 _ kn_420) (fun _ h9 => h9) (v := .int va1) rfl d_Machine_input_41 ?_
    refine lv_null hx hb d_Machine_input_44 ?_
    refine y_know (fun hya1 hya2 hya3 hya4 => ?_)
    have hFc := y_free hD hS hA
    refine vx_callv (vx_runV (As := [.ref tt, .int (Int32.ofNat c9), .int va1, .null]) (rest := []) ⟨hx, hb, hml, hown, hts⟩ (c_M_awaitN l hst dC dI ar N0 z ad I T A O pl G C Gs qn sn cq cs tt c9 (va1) H.size (y_hs H) hmi htt (by omega)) (cwV 4 hts (x_goodV k_867 k_869 kp_42 k_3 k_870) rfl rfl rfl (by decide +kernel) ⟨Nat.le_of_ble_eq_true rfl, Nat.le_of_ble_eq_true rfl⟩) ⟨y_blind, va_recv hK hP (ci := 2) (q0 := 4) rfl (y_W_ob (by decide) (by decide)), fun U9 hU9 hW9 => y_pre hU9 hW9 hP hD hU hZ hS hAN hN0⟩ rfl rfl hl.1 rfl (lv_room (Nat.le_of_ble_eq_true rfl)) d_Machine_input_45 ⟨(by show 0 + (1) ≤ y_gc qn cq + 1; omega), (by show 0 + (6) ≤ y_gs qn cq + 6; omega)⟩) hS (fun q _ h => hFc q h) hFc (fun q h1 h2 => hFc q h2) (fun E ce q9 u t H1 locs ht hvm hpx hbx hz1 hk1 hS hce hcv hcl => ?_) (fun u t H1 locs ht hvm hw hB hz1 hk1 hS => ?_)
    · obtain ⟨I12, T12, A12, O12, pl12, q12, s12, cq12, cs12⟩ := u
      dsimp only at hpx hbx
      rw [ht] at hbx
      obtain ⟨hP, hD1, hac12⟩ := hbx
      have hD : va_D Bq (y_W ad ar I12 T12 A12 O12 pl12) := hD1.weaken (fun _ q _ h => hFc q.1 h)
      generalize H1 = H at hP hS hac12 hce ⊢
      obtain ⟨hE, hac12⟩ := hac12
      obtain ⟨hmi, hbd12, fr12, h73⟩ := hpx
      have hb12 := hbd12
      unfold y_bd at hb12
      dsimp only at hb12
      unfold y_ac at hac12
      try dsimp only at hac12
      refine y_knowx (fun hy91 hy92 hy93 hy94 => ?_)
      have hac9 : y_ac (cq + cs) (s.heap.size + 1) (y_hs s.heap + 6) (cq12 + cs12) H := ⟨by omega, by omega⟩
      exact vx_out (fun x hx9 => (htb x hx9).elim) hlocks hce hcv hcl (fun t ht hvm => ⟨(I12, T12, A12, O12, pl12, (q12, s12, cq12, cs12)), ⟨hmi, (y_bd.tr hbd12 (y_bd.rf (a := 0) (b := 0)) (e := 1) (g := 0) (by decide) (by decide)), (m_fr.rf.tr fr12 (by decide)), h73⟩, (by dsimp only; rw [ht]; exact ⟨hP, hD, hE, hac9⟩), hS.F ht⟩) hS.2.2 (by show 0 + (1) ≤ y_gc qn cq + 1; omega) (by show 0 + (6) ≤ y_gs qn cq + 6; omega)
    · obtain ⟨I13, T13, A13, O13, pl13, q13, s13, cq13, cs13⟩ := u
      dsimp only at hw hB
      rw [ht] at hB
      obtain ⟨hP, hD1, hac13⟩ := hB
      have hD : va_D Bq (y_W ad ar I13 T13 A13 O13 pl13) := hD1.weaken (fun _ q _ h => hFc q.1 h)
      generalize H1 = H at hP hS hac13 ⊢
      have hae13 := hac13
      try unfold y_ac at hae13
      try dsimp only at hae13
      obtain ⟨e2, e3, e4, e5, hmi, fr13⟩ := hw
      cases e5
      rw [e2, e3, e4] at hP hD
      rw [e4] at hmi
      unfold y_ac at hac13
      try dsimp only at hac13
      refine y_tight (k := 0) (n := 0) (by omega) (by omega) ?_
      have hP : va_P (dC, dI) y_cl (y_W ad ar I13 T A O13 pl) H := hP
      have hD : va_D Bq (y_W ad ar I13 T A O13 pl) := hD
      have hmi : y_MI z ar G C Gs I13 O13 (y_L pl) (qn, sn, cq, cs) := hmi
      refine lv_aload_n hx hb d_Machine_input_48 rfl (lv_at hl 0 rfl) ?_
      have hFc := y_free hD hS hA
      refine va_callv (va_runV (As := []) (rest := []) ⟨hx, hb, hml, hown, hts⟩ (c_M_pause l dC dI ar N0 z ad I13 T A O13 pl G C Gs qn sn cq cs H.size (y_hs H) hmi) (cwV 0 hts (x_goodV k_787 k_789 kp_30 k_3 k_790) rfl rfl rfl (by decide +kernel) ⟨Nat.le_of_ble_eq_true rfl, Nat.le_of_ble_eq_true rfl⟩) ⟨y_blind, va_recv hK hP (ci := 2) (q0 := 4) rfl (y_W_ob (by decide) (by decide)), fun U9 hU9 hW9 => y_pre hU9 hW9 hP hD hU hZ hS hAN hN0⟩ rfl rfl hl.1 rfl (lv_room (Nat.le_of_ble_eq_true rfl)) d_Machine_input_49 ⟨(by show 0 + (0) ≤ y_gc qn cq + 1; omega), (by show 0 + (0) ≤ y_gs qn cq + 6; omega)⟩) hS (fun q _ h => hFc q h) hFc (fun u t H1 locs ht hvm hw hB hz1 hk1 hS => ?_)
      obtain ⟨I14, T14, A14, O14, pl14, q14, s14, cq14, cs14⟩ := u
      dsimp only at hw hB
      rw [ht] at hB
      obtain ⟨hP, hD1, hac14⟩ := hB
      have hD : va_D Bq (y_W ad ar I14 T14 A14 O14 pl14) := hD1.weaken (fun _ q _ h => hFc q.1 h)
      generalize H1 = H at hP hS hac14 ⊢
      have hae14 := hac14
      try unfold y_ac at hae14
      try dsimp only at hae14
      refine W.widen (k := 0) (n := 0) (by omega) (by omega) ?_
      obtain ⟨hmi, hbd14, fr14⟩ := hw
      have hb14 := hbd14
      unfold y_bd at hb14
      unfold y_ac at hac14
      dsimp only at hb14 hac14
      refine vx_ret ?_
      refine y_know (fun hy91 hy92 hy93 hy94 => ?_)
      have hac9 : y_ac (cq + cs) s.heap.size (y_hs s.heap) (cq14 + cs14) H := ⟨by omega, by omega⟩
      refine W.widen (k := y_gc qn cq + 1) (n := y_gs qn cq + 6) (by omega) (by omega) ?_
      exact W.vret hx hb hr (fun t ht hW => ⟨⟨(I14, T14, A14, O14, pl14, (q14, s14, cq14, cs14)), rfl, ⟨hmi, (y_bd.tr hbd14 (y_bd.rf (a := 0) (b := 0)) (e := 1) (g := 0) (by decide) (by decide)), ((m_fr.rf.tr fr13 (by decide)).tr fr14 (by decide))⟩, (by dsimp only; rw [ht]; exact ⟨hP, hD, hac9⟩)⟩, hS.F ht⟩) hS.2.2 d_Machine_input_52
set_option maxHeartbeats 4000000 in
set_option maxRecDepth 100000 in
theorem c_M_output (l : Launch) (hst : l.stackTraces = false) (dC : Nat → ClassId) (dI : Nat → Nat → Nat) (ar : Nat → ClassId) (N0 : Nat) (z : Nat → Nat) (ad : Nat → Nat) (I : Nat → Int32) (T : Int64) (A : Nat → Nat → Int32) (O : Nat → Option Nat) (pl : va_W) (G : Nat → Nat) (C Gs : Nat → List Nat) (qn sn cq cs : Nat) (tt c9 : Nat) (vv : Int32) (sz w0 : Nat) (hmi : y_MI z ar G C Gs I O (y_L pl) (qn, sn, cq, cs)) (htt : G tt = 8) (hc9 : c9 < 6) (hlim : qn ≤ 20000000) : vx_Met l ({ cls := "ChannelMachine$Machine", name := "output", desc := "(LChannelMachine$Task;II)V" } : Jvm.MethodName) ((Jvm.Cond.code ({ cls := "ChannelMachine$Machine", name := "output", desc := "(LChannelMachine$Task;II)V" } : Jvm.MethodName) prog_6_method_16_code (5 : Nat) (Option.none : Option Jvm.ClassFile.FieldType)) :: x_T) ({ frames := 8, cells := y_gc qn cq + 1, slots := y_gs qn cq + 6, locals := 216 }) (y_Pc (dC, dI) ar N0 z (y_W ad ar I T A O pl) sz w0 [.ref (ad 4), .ref tt, .int (Int32.ofNat c9), .int vv]) (va_Qv (fun (u : (Nat → Int32) × Int64 × (Nat → Nat → Int32) × (Nat → Option Nat) × va_W × (Nat × Nat × Nat × Nat)) => y_MI z ar G C Gs u.1 u.2.2.2.1 (y_L u.2.2.2.2.1) u.2.2.2.2.2 ∧ y_bd (qn, sn, cq, cs) u.2.2.2.2.2 1 0 ∧ m_fr [7, 8, 10, 11, 12, 13, 14, 15, 16, 17, 18, 19, 20, 21] I u.1) (fun u t => va_P (dC, dI) y_cl (y_W ad ar u.1 u.2.1 u.2.2.1 u.2.2.2.1 u.2.2.2.2.1) t.heap ∧ va_D (va_A (y_W ad ar I T A O pl) sz) (y_W ad ar u.1 u.2.1 u.2.2.1 u.2.2.2.1 u.2.2.2.2.1) ∧ y_ac (cq + cs) sz w0 (u.2.2.2.2.2.2.2.1 + u.2.2.2.2.2.2.2.2) t.heap) (va_A (y_W ad ar I T A O pl) sz)) (vx_X (fun (u : (Nat → Int32) × Int64 × (Nat → Nat → Int32) × (Nat → Option Nat) × va_W × (Nat × Nat × Nat × Nat)) => y_MI z ar G C Gs u.1 u.2.2.2.1 (y_L u.2.2.2.2.1) u.2.2.2.2.2 ∧ y_bd (qn, sn, cq, cs) u.2.2.2.2.2 1 0 ∧ m_fr [7, 8, 10, 11, 12, 13, 14, 15, 16, 17, 18, 19, 20, 21] I u.1 ∧ u.1 7 = 3) (fun E u t => va_P (dC, dI) y_cl (y_W ad ar u.1 u.2.1 u.2.2.1 u.2.2.2.1 u.2.2.2.2.1) t.heap ∧ va_D (va_A (y_W ad ar I T A O pl) sz) (y_W ad ar u.1 u.2.1 u.2.2.1 u.2.2.2.1 u.2.2.2.2.1) ∧ (E = "java/lang/IllegalStateException" ∨ E = "java/lang/ArithmeticException") ∧ y_ac (cq + cs) (sz + 1) (w0 + 6) (u.2.2.2.2.2.2.2.1 + u.2.2.2.2.2.2.2.2) t.heap) (va_A (y_W ad ar I T A O pl) sz)) (y_gc qn cq + 1) (y_gs qn cq + 6) (va_A (y_W ad ar I T A O pl) sz) := by
  refine vx_ofW (cc := prog_6_method_16_code) (maxL := 5) (ret := none) (by decide) rfl ?_
  intro p e s m args below meth c s₁ B hml htb hv
  obtain ⟨rfl, hsz, hN0, hP, hU, hZ, hD0, hw0⟩ := hv
  have hK := hU.2.1
  have hx := B.exec
  have hb := B.bytes
  have hr := B.returns
  have hts : ∀ w ∈ x_T, w.before ([.ref (ad 4), .ref tt, .int (Int32.ofNat c9), .int vv] : List Value).toArray s = true := fun w h => atoms_spec (ws := (Jvm.Cond.code ({ cls := "ChannelMachine$Machine", name := "output", desc := "(LChannelMachine$Task;II)V" } : Jvm.MethodName) prog_6_method_16_code (5 : Nat) (Option.none : Option Jvm.ClassFile.FieldType)) :: x_T) B.pre w (List.mem_cons_of_mem _ h)
  have hown : s.vm.findClass "ChannelMachine$Machine" = some m.cls := findClass_of_methodNamed B.named
  have hlocks := B.notSynchronized
  subst hsz
  subst hw0
  have hD := hD0.self (sz := s.heap.size)
  have hAN := x_AN hD0 hN0
  generalize hAe : va_A (y_W ad ar I T A O pl) s.heap.size = Bq at hD hAN ⊢
  have hA : ∀ q : Nat, s.heap.size ≤ q → Bq q := fun q h => by rw [← hAe]; exact Or.inr h
  have hS : va_S Bq s.heap s.heap [] := va_S.rf
  have hl := lv_entry ([.ref (ad 4), .ref tt, .int (Int32.ofNat c9), .int vv]) (n := 5) (Nat.le_of_ble_eq_true rfl)
  rw [lg_entry_eq]
  generalize (lg_sl ([.ref (ad 4), .ref tt, .int (Int32.ofNat c9), .int vv]) ++ List.replicate (5 - (lg_sl ([.ref (ad 4), .ref tt, .int (Int32.ofNat c9), .int vv])).length) Slot.unset).toArray = ls at hl ⊢
  have hl : lv_has ls 5 [(0, .ref (ad 4)), (1, .ref tt), (2, .int (Int32.ofNat c9)), (3, .int vv)] := hl
  have hle := y_LS.le hmi.2.1.2
  dsimp only at hle
  have hcap := hmi.2.2.2.2.1
  dsimp only at hcap
  have hgg := y_gg qn cq
  refine lv_aload_n hx hb d_Machine_output_0 rfl (lv_at hl 0 rfl) ?_
  refine k_g (C := "ChannelMachine$Machine") (F := F_Machine) (N := 11) hx hb hts i_Machine hown hK hP 4 1 (by decide) (by decide) rfl (by decide) (d := (0, 6)) rfl (hts _ k_152) (fun _ h9 => h9) (v := .ref (ad 6)) rfl d_Machine_output_1 ?_
  refine lv_iload_n hx hb d_Machine_output_4 rfl (lv_at hl 2 rfl) ?_
  refine k_chl hx hb hK hP (n := c9) (by omega) d_Machine_output_5 ?_
  refine lv_astore (lv' := [(4, .ref (ad (14 + c9))), (0, .ref (ad 4)), (1, .ref tt), (2, .int (Int32.ofNat c9)), (3, .int vv)]) hx hb d_Machine_output_6 hl (by decide) rfl (fun ls hl => ?_)
  refine lv_iload_n hx hb d_Machine_output_8 rfl (lv_at hl 3 rfl) ?_
  refine lv_iconst (v := 5) hx hb d_Machine_output_9 (by decide) ?_
  refine lv_icmp_ne (tgt := 38) hx hb d_Machine_output_10 (by decide) (fun c_1 => ?_) (fun c_1 => ?_)
  · have c_1 : ¬ c9 = 5 := fun h9 => c_1 ((x_eqN (a := c9) (b := 5) (by omega) (by omega)).mpr h9)
    refine lv_aload hx hb d_Machine_output_38 (lv_at hl 0 rfl) ?_
    refine k_gN (C := "ChannelMachine$Channel") (F := F_Channel) (N := 4) hx hb hts i_Channel hown hK hP (14 + c9) 1 (by omega) (y_cc (by omega)) (y_ccl (by omega)) (by decide) (d := (3, (4 + 3 * c9))) (y_dc1 (by omega)) (hU.1.2.1 _ kn_135) (fun _ h9 => h9) (v := va_rf (O ((4 + 3 * c9)))) rfl d_Machine_output_40 ?_
    rcases hOx2 : O ((4 + 3 * c9)) with _ | x2
    · refine W.eq (g2 := F0 m 43 ls [.null]) rfl ?_
      refine lv_ifnullN (tgt := 60) hx hb d_Machine_output_43 (by decide) ?_
      refine lv_aload hx hb d_Machine_output_60 (lv_at hl 0 rfl) ?_
      refine k_gN (C := "ChannelMachine$Channel") (F := F_Channel) (N := 4) hx hb hts i_Channel hown hK hP (14 + c9) 0 (by omega) (y_cc (by omega)) (y_ccl (by omega)) (by decide) (d := (3, (3 + 3 * c9))) (y_dc0 (by omega)) (hU.1.2.1 _ kn_132) (fun _ h9 => h9) (v := va_rf (O ((3 + 3 * c9)))) rfl d_Machine_output_62 ?_
      rcases hOx3 : O ((3 + 3 * c9)) with _ | x3
      · refine W.eq (g2 := F0 m 65 ls [.null]) rfl ?_
        refine lv_ifnullN (tgt := 75) hx hb d_Machine_output_65 (by decide) ?_
        refine lv_aload_n hx hb d_Machine_output_75 rfl (lv_at hl 2 rfl) ?_
        refine lv_iload_n hx hb d_Machine_output_76 rfl (lv_at hl 4 rfl) ?_
        obtain ⟨w4, m4, a4, b4, r4, v4, u4, hf4, hw4, hm4, ha4⟩ := hmi.1.2.1 tt htt
        refine d_pN (C := "ChannelMachine$Task") (F := F_Task) (N := 7) hx hb hts i_Task hown t_Task t_Task_ok n_Task hK hP hD hS hf4 5 rfl (by decide) (hU.1.2.1 _ kn_459) (fun _ h9 => h9) rfl (ty := .int) (v := .int vv) (by decide +kernel) rfl rfl (Nat.le_of_ble_eq_true rfl) d_Machine_output_77 (fun pl5 H locs hL hP hD hS => ?_)
        have hmi := y_MI.task hmi (t := tt) (w := w4) (m := m4) (a := a4) (b := b4) (r := r4) (v := vv) (u := u4) htt hw4 hm4 ha4
        have hfo4 := hf4
        have hf4 : y_L pl5 tt = some (.inr (8, y_Tf w4 m4 a4 b4 r4 vv u4)) := by rw [hL]; exact y_Lu_s
        have hmi : y_MI z ar G C Gs I O (y_L pl5) (qn, sn, cq, cs) := by rw [hL]; exact hmi
        clear hL
        refine lv_aload hx hb d_Machine_output_80 (lv_at hl 0 rfl) ?_
        refine lv_aload_n hx hb d_Machine_output_82 rfl (lv_at hl 2 rfl) ?_
        refine k_poN (C := "ChannelMachine$Channel") (F := F_Channel) (N := 4) hx hb hts i_Channel hown t_Channel t_Channel_ok n_Channel hK hP hD hS (14 + c9) 0 (by omega) (y_cc (by omega)) (y_ccl (by omega)) (by decide) (j := (3 + 3 * c9)) (x := (some tt)) (ty := (.object "ChannelMachine$Task")) (y_dc0 (by omega)) (hU.1.2.1 _ kn_132) (fun _ h9 => h9) rfl (by decide +kernel) rfl rfl d_Machine_output_83 (fun H locs hP hD hS => ?_)
        have hmi : y_MI z ar G C Gs I (y_up O ((3 + 3 * c9)) (some tt)) (y_L pl5) (qn, sn, cq, cs) := hmi.snd (c := c9) (by omega) (fun a ha => by cases ha; exact htt)
        refine lv_aload_n hx hb d_Machine_output_86 rfl (lv_at hl 1 rfl) ?_
        have hFc := y_free hD hS hA
        refine va_callv (va_runV (As := []) (rest := []) ⟨hx, hb, hml, hown, hts⟩ (c_M_pause l dC dI ar N0 z ad I T A (y_up O ((3 + 3 * c9)) (some tt)) pl5 G C Gs qn sn cq cs H.size (y_hs H) hmi) (cwV 0 hts (x_goodV k_787 k_789 kp_30 k_3 k_790) rfl rfl rfl (by decide +kernel) ⟨Nat.le_of_ble_eq_true rfl, Nat.le_of_ble_eq_true rfl⟩) ⟨y_blind, va_recv hK hP (ci := 2) (q0 := 4) rfl (y_W_ob (by decide) (by decide)), fun U9 hU9 hW9 => y_pre hU9 hW9 hP hD hU hZ hS hAN hN0⟩ rfl rfl hl.1 rfl (lv_room (Nat.le_of_ble_eq_true rfl)) d_Machine_output_87 ⟨(by show 0 + (0) ≤ y_gc qn cq + 1; omega), (by show 0 + (0) ≤ y_gs qn cq + 6; omega)⟩) hS (fun q _ h => hFc q h) hFc (fun u t H1 locs ht hvm hw hB hz1 hk1 hS => ?_)
        obtain ⟨I6, T6, A6, O6, pl6, q6, s6, cq6, cs6⟩ := u
        dsimp only at hw hB
        rw [ht] at hB
        obtain ⟨hP, hD1, hac6⟩ := hB
        have hD : va_D Bq (y_W ad ar I6 T6 A6 O6 pl6) := hD1.weaken (fun _ q _ h => hFc q.1 h)
        generalize H1 = H at hP hS hac6 ⊢
        have hae6 := hac6
        try unfold y_ac at hae6
        try dsimp only at hae6
        refine W.widen (k := 0) (n := 0) (by omega) (by omega) ?_
        obtain ⟨hmi, hbd6, fr6⟩ := hw
        have hb6 := hbd6
        unfold y_bd at hb6
        unfold y_ac at hac6
        dsimp only at hb6 hac6
        refine vx_ret ?_
        refine y_know (fun hy91 hy92 hy93 hy94 => ?_)
        have hac9 : y_ac (cq + cs) s.heap.size (y_hs s.heap) (cq6 + cs6) H := ⟨by omega, by omega⟩
        refine W.widen (k := y_gc qn cq + 1) (n := y_gs qn cq + 6) (by omega) (by omega) ?_
        exact W.vret hx hb hr (fun t ht hW => ⟨⟨(I6, T6, A6, O6, pl6, (q6, s6, cq6, cs6)), rfl, ⟨hmi, (y_bd.tr hbd6 (y_bd.rf (a := 0) (b := 0)) (e := 1) (g := 0) (by decide) (by decide)), (m_fr.rf.tr fr6 (by decide))⟩, (by dsimp only; rw [ht]; exact ⟨hP, hD, hac9⟩)⟩, hS.F ht⟩) hS.2.2 d_Machine_output_90
      · refine W.eq (g2 := F0 m 65 ls [.ref x3]) rfl ?_
        have hx3 : G x3 = 8 := (hmi.2.2.2.2.2.1 c9 (by omega)).1 x3 hOx3
        refine lv_ifnull hx hb d_Machine_output_65 ?_
        refine lv_aload_n hx hb d_Machine_output_68 rfl (lv_at hl 1 rfl) ?_
        refine y_know (fun hya1 hya2 hya3 hya4 => ?_)
        have hFc := y_free hD hS hA
        refine vx_callv (vx_runV (As := []) (rest := []) ⟨hx, hb, hml, hown, hts⟩ (c_M_clash l hst dC dI ar N0 z ad I T A O pl G C Gs qn sn cq cs s.heap.size (y_hs s.heap) hmi) (cwV 0 hts (x_goodV k_843 k_845 kp_38 k_3 k_846) rfl rfl rfl (by decide +kernel) ⟨Nat.le_of_ble_eq_true rfl, Nat.le_of_ble_eq_true rfl⟩) ⟨y_blind, va_recv hK hP (ci := 2) (q0 := 4) rfl (y_W_ob (by decide) (by decide)), fun U9 hU9 hW9 => y_pre hU9 hW9 hP hD hU hZ hS hAN hN0⟩ rfl rfl hl.1 rfl (lv_room (Nat.le_of_ble_eq_true rfl)) d_Machine_output_69 ⟨(by show 0 + (1) ≤ y_gc qn cq + 1; omega), (by show 0 + (6) ≤ y_gs qn cq + 6; omega)⟩) hS (fun q _ h => hFc q h) hFc (fun q h1 h2 => hFc q h2) (fun E ce q9 u t H1 locs ht hvm hpx hbx hz1 hk1 hS hce hcv hcl => ?_) (fun u t H1 locs ht hvm hw hB hz1 hk1 hS => ?_)
        · obtain ⟨I7, T7, A7, O7, pl7, q7, s7, cq7, cs7⟩ := u
          dsimp only at hpx hbx
          rw [ht] at hbx
          obtain ⟨hP, hD1, hac7⟩ := hbx
          have hD : va_D Bq (y_W ad ar I7 T7 A7 O7 pl7) := hD1.weaken (fun _ q _ h => hFc q.1 h)
          generalize H1 = H at hP hS hac7 hce ⊢
          obtain ⟨hE, hac7⟩ := hac7
          obtain ⟨hmi, hbd7, fr7, h73⟩ := hpx
          have hb7 := hbd7
          unfold y_bd at hb7
          dsimp only at hb7
          refine y_knowx (fun hy91 hy92 hy93 hy94 => ?_)
          have hac9 : y_ac (cq + cs) (s.heap.size + 1) (y_hs s.heap + 6) (cq7 + cs7) H := ⟨by omega, by omega⟩
          exact vx_out (fun x hx9 => (htb x hx9).elim) hlocks hce hcv hcl (fun t ht hvm => ⟨(I7, T7, A7, O7, pl7, (q7, s7, cq7, cs7)), ⟨hmi, (y_bd.tr hbd7 (y_bd.rf (a := 0) (b := 0)) (e := 1) (g := 0) (by decide) (by decide)), (m_fr.rf.tr fr7 (by decide)), h73⟩, (by dsimp only; rw [ht]; exact ⟨hP, hD, hE, hac9⟩), hS.F ht⟩) hS.2.2 (by show 0 + (1) ≤ y_gc qn cq + 1; omega) (by show 0 + (6) ≤ y_gs qn cq + 6; omega)
        · exact hw.elim
    · refine W.eq (g2 := F0 m 43 ls [.ref x2]) rfl ?_
      have hx2 : G x2 = 8 := (hmi.2.2.2.2.2.1 c9 (by omega)).2.1 x2 hOx2
      refine lv_ifnull hx hb d_Machine_output_43 ?_
      refine lv_aload_n hx hb d_Machine_output_46 rfl (lv_at hl 1 rfl) ?_
      refine lv_aload hx hb d_Machine_output_47 (lv_at hl 0 rfl) ?_
      refine lv_iload_n hx hb d_Machine_output_49 rfl (lv_at hl 4 rfl) ?_
      have hgg8 := y_gg qn cq
      refine y_know (fun hya1 hya2 hya3 hya4 => ?_)
      have hFc := y_free hD hS hA
      refine va_callv (va_runV (As := [.ref (ad (14 + c9)), .int vv]) (rest := []) ⟨hx, hb, hml, hown, hts⟩ (c_M_deliver l dC dI ar N0 z ad I T A O pl G C Gs qn sn cq cs c9 x2 (vv) s.heap.size (y_hs s.heap) hmi (by omega) hOx2 (by omega)) (cwV 2 hts (x_goodV k_839 k_841 kp_37 k_3 k_842) rfl rfl rfl (by decide +kernel) ⟨Nat.le_of_ble_eq_true rfl, Nat.le_of_ble_eq_true rfl⟩) ⟨y_blind, va_recv hK hP (ci := 2) (q0 := 4) rfl (y_W_ob (by decide) (by decide)), fun U9 hU9 hW9 => y_pre hU9 hW9 hP hD hU hZ hS hAN hN0⟩ rfl rfl hl.1 rfl (lv_room (Nat.le_of_ble_eq_true rfl)) d_Machine_output_50 ⟨(by show 0 + (y_gc qn cq) ≤ y_gc qn cq + 1; omega), (by show 0 + (y_gs qn cq) ≤ y_gs qn cq + 6; omega)⟩) hS (fun q _ h => hFc q h) hFc (fun u t H1 locs ht hvm hw hB hz1 hk1 hS => ?_)
      obtain ⟨I9, T9, A9, O9, pl9, q9, s9, cq9, cs9⟩ := u
      dsimp only at hw hB
      rw [ht] at hB
      obtain ⟨hP, hD1, hac9⟩ := hB
      have hD : va_D Bq (y_W ad ar I9 T9 A9 O9 pl9) := hD1.weaken (fun _ q _ h => hFc q.1 h)
      generalize H1 = H at hP hS hac9 ⊢
      have hae9 := hac9
      try unfold y_ac at hae9
      try dsimp only at hae9
      obtain ⟨hmi, hbd9, fr9⟩ := hw
      unfold y_ac at hac9
      have hb9 := hbd9
      unfold y_bd at hb9
      dsimp only at hb9 hac9
      refine lv_aload_n hx hb d_Machine_output_53 rfl (lv_at hl 2 rfl) ?_
      obtain ⟨w10, m10, a10, b10, r10, v10, u10, hf10, hw10, hm10, ha10⟩ := hmi.1.2.1 tt htt
      have hFc := y_free hD hS hA
      refine va_callv (va_runV (As := []) (rest := []) ⟨hx, hb, hml, hown, hts⟩ (c_T_goOn l dC dI ar N0 z ad I9 T9 A9 O9 pl9 G C Gs q9 s9 cq9 cs9 tt H.size (y_hs H) hmi htt) (cwV 0 hts (x_goodV k_777 k_778 k_779 k_18 k_780) rfl rfl rfl (by decide +kernel) ⟨Nat.le_of_ble_eq_true rfl, Nat.le_of_ble_eq_true rfl⟩) ⟨y_blind, (by obtain ⟨q9, hq9⟩ := y_L_at hf10; exact va_recv hK hP (ci := 8) (q0 := 20 + q9) rfl (by rw [y_W_pl]; exact hq9)), fun U9 hU9 hW9 => y_pre hU9 hW9 hP hD hU hZ hS hAN hN0⟩ rfl rfl hl.1 rfl (lv_room (Nat.le_of_ble_eq_true rfl)) d_Machine_output_54 ⟨(by show 0 + (y_gc qn cq) + (0) ≤ y_gc qn cq + 1; omega), (by show 0 + (y_gs qn cq) + (0) ≤ y_gs qn cq + 6; omega)⟩) hS (fun q _ h => hFc q h) hFc (fun u t H1 locs ht hvm hw hB hz1 hk1 hS => ?_)
      obtain ⟨I11, T11, A11, O11, pl11, q11, s11, cq11, cs11⟩ := u
      dsimp only at hw hB
      rw [ht] at hB
      obtain ⟨hP, hD1, hac11⟩ := hB
      have hD : va_D Bq (y_W ad ar I11 T11 A11 O11 pl11) := hD1.weaken (fun _ q _ h => hFc q.1 h)
      generalize H1 = H at hP hS hac11 ⊢
      have hae11 := hac11
      try unfold y_ac at hae11
      try dsimp only at hae11
      refine W.widen (k := 0 + (y_gc qn cq)) (n := 0 + (y_gs qn cq)) (by omega) (by omega) ?_
      obtain ⟨e1, e2, e3, e4, e5, hmi⟩ := hw
      cases e5
      rw [e1, e2, e3, e4] at hP hD
      rw [e1, e4] at hmi
      have hmi : y_MI z ar G C Gs I9 O9 (y_L pl11) (q9, s9, cq9, cs9) := hmi
      refine lv_goto (tgt := 90) hx hb d_Machine_output_57 (by decide) ?_
      refine vx_ret ?_
      refine y_know (fun hy91 hy92 hy93 hy94 => ?_)
      have hac9 : y_ac (cq + cs) s.heap.size (y_hs s.heap) (cq9 + cs9) H := ⟨by omega, by omega⟩
      refine W.widen (k := y_gc qn cq + 1) (n := y_gs qn cq + 6) (by omega) (by omega) ?_
      exact W.vret hx hb hr (fun t ht hW => ⟨⟨(I9, T9, A9, O9, pl11, (q9, s9, cq9, cs9)), rfl, ⟨hmi, (y_bd.tr hbd9 (y_bd.rf (a := 0) (b := 0)) (e := 1) (g := 0) (by decide) (by decide)), (m_fr.rf.tr fr9 (by decide))⟩, (by dsimp only; rw [ht]; exact ⟨hP, hD, hac9⟩)⟩, hS.F ht⟩) hS.2.2 d_Machine_output_90
  · have c_1 : c9 = 5 := (x_eqN (a := c9) (b := 5) (by omega) (by omega)).mp c_1
    refine lv_aload_n hx hb d_Machine_output_13 rfl (lv_at hl 1 rfl) ?_
    refine k_g (C := "ChannelMachine$Machine") (F := F_Machine) (N := 11) hx hb hts i_Machine hown hK hP 4 3 (by decide) (by decide) rfl (by decide) (d := (0, 9)) rfl (hts _ k_156) (fun _ h9 => h9) (v := .ref (ad 9)) rfl d_Machine_output_14 ?_
    have hFc := y_free hD hS hA
    refine va_calli (va_runV (As := []) (rest := []) ⟨hx, hb, hml, hown, hts⟩ (c_R_isFull9 l dC dI ar N0 z ad I T A O pl G C Gs qn sn cq cs s.heap.size (y_hs s.heap) hmi) (cwV 0 hts (x_goodV k_831 k_832 k_833 k_4 k_834) rfl rfl rfl (by decide +kernel) ⟨Nat.le_of_ble_eq_true rfl, Nat.le_of_ble_eq_true rfl⟩) ⟨y_blind, va_recv hK hP (ci := 4) (q0 := 9) rfl (y_W_ob (by decide) (by decide)), fun U9 hU9 hW9 => y_pre hU9 hW9 hP hD hU hZ hS hAN hN0⟩ rfl rfl hl.1 rfl (lv_room (Nat.le_of_ble_eq_true rfl)) d_Machine_output_17 ⟨(by show 0 + (0) ≤ y_gc qn cq + 1; omega), (by show 0 + (0) ≤ y_gs qn cq + 6; omega)⟩) hS (fun q _ h => hFc q h) hFc (fun r_12 u t H1 locs ht hvm hw hB hz1 hk1 hS => ?_)
    obtain ⟨I13, T13, A13, O13, pl13, q13, s13, cq13, cs13⟩ := u
    dsimp only at hw hB
    rw [ht] at hB
    obtain ⟨hP, hD1, hac13⟩ := hB
    have hD : va_D Bq (y_W ad ar I13 T13 A13 O13 pl13) := hD1.weaken (fun _ q _ h => hFc q.1 h)
    generalize H1 = H at hP hS hac13 ⊢
    have hae13 := hac13
    try unfold y_ac at hae13
    try dsimp only at hae13
    refine W.widen (k := 0) (n := 0) (by omega) (by omega) ?_
    obtain ⟨h9, hw⟩ := hw
    cases h9
    rcases hw with rfl | rfl
    · refine lv_if_ne (tgt := 38) hx hb d_Machine_output_20 (by decide) (fun c14 => absurd rfl c14) (fun _ => ?_)
      refine lv_aload_n hx hb d_Machine_output_23 rfl (lv_at hl 1 rfl) ?_
      refine k_g (C := "ChannelMachine$Machine") (F := F_Machine) (N := 11) hx hb hts i_Machine hown hK hP 4 3 (by decide) (by decide) rfl (by decide) (d := (0, 9)) rfl (hts _ k_156) (fun _ h9 => h9) (v := .ref (ad 9)) rfl d_Machine_output_24 ?_
      refine lv_iload_n hx hb d_Machine_output_27 rfl (lv_at hl 4 rfl) ?_
      have hFc := y_free hD hS hA
      refine va_callv (va_runV (As := [.int vv]) (rest := []) ⟨hx, hb, hml, hown, hts⟩ (c_R_addLast9 l dC dI ar N0 z ad I T A O pl G C Gs qn sn cq cs (vv) H.size (y_hs H) hmi) (cwV 1 hts (x_goodV k_835 k_836 k_837 k_4 k_838) rfl rfl rfl (by decide +kernel) ⟨Nat.le_of_ble_eq_true rfl, Nat.le_of_ble_eq_true rfl⟩) ⟨y_blind, va_recv hK hP (ci := 4) (q0 := 9) rfl (y_W_ob (by decide) (by decide)), fun U9 hU9 hW9 => y_pre hU9 hW9 hP hD hU hZ hS hAN hN0⟩ rfl rfl hl.1 rfl (lv_room (Nat.le_of_ble_eq_true rfl)) d_Machine_output_28 ⟨(by show 0 + (0) ≤ y_gc qn cq + 1; omega), (by show 0 + (0) ≤ y_gs qn cq + 6; omega)⟩) hS (fun q _ h => hFc q h) hFc (fun u t H1 locs ht hvm hw hB hz1 hk1 hS => ?_)
      obtain ⟨I15, T15, A15, O15, pl15, q15, s15, cq15, cs15⟩ := u
      dsimp only at hw hB
      rw [ht] at hB
      obtain ⟨hP, hD1, hac15⟩ := hB
      have hD : va_D Bq (y_W ad ar I15 T15 A15 O15 pl15) := hD1.weaken (fun _ q _ h => hFc q.1 h)
      generalize H1 = H at hP hS hac15 ⊢
      have hae15 := hac15
      try unfold y_ac at hae15
      try dsimp only at hae15
      refine W.widen (k := 0) (n := 0) (by omega) (by omega) ?_
      obtain ⟨hmi, hbd15, fr15⟩ := hw
      have hb15 := hbd15
      unfold y_bd at hb15
      unfold y_ac at hac15
      dsimp only at hb15 hac15
      refine lv_aload_n hx hb d_Machine_output_31 rfl (lv_at hl 2 rfl) ?_
      obtain ⟨w16, m16, a16, b16, r16, v16, u16, hf16, hw16, hm16, ha16⟩ := hmi.1.2.1 tt htt
      have hFc := y_free hD hS hA
      refine va_callv (va_runV (As := []) (rest := []) ⟨hx, hb, hml, hown, hts⟩ (c_T_goOn l dC dI ar N0 z ad I15 T15 A15 O15 pl15 G C Gs q15 s15 cq15 cs15 tt H.size (y_hs H) hmi htt) (cwV 0 hts (x_goodV k_777 k_778 k_779 k_18 k_780) rfl rfl rfl (by decide +kernel) ⟨Nat.le_of_ble_eq_true rfl, Nat.le_of_ble_eq_true rfl⟩) ⟨y_blind, (by obtain ⟨q9, hq9⟩ := y_L_at hf16; exact va_recv hK hP (ci := 8) (q0 := 20 + q9) rfl (by rw [y_W_pl]; exact hq9)), fun U9 hU9 hW9 => y_pre hU9 hW9 hP hD hU hZ hS hAN hN0⟩ rfl rfl hl.1 rfl (lv_room (Nat.le_of_ble_eq_true rfl)) d_Machine_output_32 ⟨(by show 0 + (0) ≤ y_gc qn cq + 1; omega), (by show 0 + (0) ≤ y_gs qn cq + 6; omega)⟩) hS (fun q _ h => hFc q h) hFc (fun u t H1 locs ht hvm hw hB hz1 hk1 hS => ?_)
      obtain ⟨I17, T17, A17, O17, pl17, q17, s17, cq17, cs17⟩ := u
      dsimp only at hw hB
      rw [ht] at hB
      obtain ⟨hP, hD1, hac17⟩ := hB
      have hD : va_D Bq (y_W ad ar I17 T17 A17 O17 pl17) := hD1.weaken (fun _ q _ h => hFc q.1 h)
      generalize H1 = H at hP hS hac17 ⊢
      have hae17 := hac17
      try unfold y_ac at hae17
      try dsimp only at hae17
      refine W.widen (k := 0) (n := 0) (by omega) (by omega) ?_
      obtain ⟨e1, e2, e3, e4, e5, hmi⟩ := hw
      cases e5
      rw [e1, e2, e3, e4] at hP hD
      rw [e1, e4] at hmi
      have hmi : y_MI z ar G C Gs I15 O15 (y_L pl17) (q15, s15, cq15, cs15) := hmi
      refine lv_goto (tgt := 90) hx hb d_Machine_output_35 (by decide) ?_
      refine vx_ret ?_
      refine y_know (fun hy91 hy92 hy93 hy94 => ?_)
      have hac9 : y_ac (cq + cs) s.heap.size (y_hs s.heap) (cq15 + cs15) H := ⟨by omega, by omega⟩
      refine W.widen (k := y_gc qn cq + 1) (n := y_gs qn cq + 6) (by omega) (by omega) ?_
      exact W.vret hx hb hr (fun t ht hW => ⟨⟨(I15, T15, A15, O15, pl17, (q15, s15, cq15, cs15)), rfl, ⟨hmi, (y_bd.tr hbd15 (y_bd.rf (a := 0) (b := 0)) (e := 1) (g := 0) (by decide) (by decide)), (m_fr.rf.tr fr15 (by decide))⟩, (by dsimp only; rw [ht]; exact ⟨hP, hD, hac9⟩)⟩, hS.F ht⟩) hS.2.2 d_Machine_output_90
    · refine lv_if_ne (tgt := 38) hx hb d_Machine_output_20 (by decide) (fun _ => ?_) (fun c18 => absurd c18 (by decide))
      refine lv_aload hx hb d_Machine_output_38 (lv_at hl 0 rfl) ?_
      refine k_gN (C := "ChannelMachine$Channel") (F := F_Channel) (N := 4) hx hb hts i_Channel hown hK hP (14 + c9) 1 (by omega) (y_cc (by omega)) (y_ccl (by omega)) (by decide) (d := (3, (4 + 3 * c9))) (y_dc1 (by omega)) (hU.1.2.1 _ kn_135) (fun _ h9 => h9) (v := va_rf (O ((4 + 3 * c9)))) rfl d_Machine_output_40 ?_
      rcases hOx19 : O ((4 + 3 * c9)) with _ | x19
      · refine W.eq (g2 := F0 m 43 ls [.null]) rfl ?_
        refine lv_ifnullN (tgt := 60) hx hb d_Machine_output_43 (by decide) ?_
        refine lv_aload hx hb d_Machine_output_60 (lv_at hl 0 rfl) ?_
        refine k_gN (C := "ChannelMachine$Channel") (F := F_Channel) (N := 4) hx hb hts i_Channel hown hK hP (14 + c9) 0 (by omega) (y_cc (by omega)) (y_ccl (by omega)) (by decide) (d := (3, (3 + 3 * c9))) (y_dc0 (by omega)) (hU.1.2.1 _ kn_132) (fun _ h9 => h9) (v := va_rf (O ((3 + 3 * c9)))) rfl d_Machine_output_62 ?_
        rcases hOx20 : O ((3 + 3 * c9)) with _ | x20
        · refine W.eq (g2 := F0 m 65 ls [.null]) rfl ?_
          refine lv_ifnullN (tgt := 75) hx hb d_Machine_output_65 (by decide) ?_
          refine lv_aload_n hx hb d_Machine_output_75 rfl (lv_at hl 2 rfl) ?_
          refine lv_iload_n hx hb d_Machine_output_76 rfl (lv_at hl 4 rfl) ?_
          obtain ⟨w21, m21, a21, b21, r21, v21, u21, hf21, hw21, hm21, ha21⟩ := hmi.1.2.1 tt htt
          refine d_pN (C := "ChannelMachine$Task") (F := F_Task) (N := 7) hx hb hts i_Task hown t_Task t_Task_ok n_Task hK hP hD hS hf21 5 rfl (by decide) (hU.1.2.1 _ kn_459) (fun _ h9 => h9) rfl (ty := .int) (v := .int vv) (by decide +kernel) rfl rfl (Nat.le_of_ble_eq_true rfl) d_Machine_output_77 (fun pl22 H locs hL hP hD hS => ?_)
          have hmi := y_MI.task hmi (t := tt) (w := w21) (m := m21) (a := a21) (b := b21) (r := r21) (v := vv) (u := u21) htt hw21 hm21 ha21
          have hfo21 := hf21
          have hf21 : y_L pl22 tt = some (.inr (8, y_Tf w21 m21 a21 b21 r21 vv u21)) := by rw [hL]; exact y_Lu_s
          have hmi : y_MI z ar G C Gs I O (y_L pl22) (qn, sn, cq, cs) := by rw [hL]; exact hmi
          clear hL
          refine lv_aload hx hb d_Machine_output_80 (lv_at hl 0 rfl) ?_
          refine lv_aload_n hx hb d_Machine_output_82 rfl (lv_at hl 2 rfl) ?_
          refine k_poN (C := "ChannelMachine$Channel") (F := F_Channel) (N := 4) hx hb hts i_Channel hown t_Channel t_Channel_ok n_Channel hK hP hD hS (14 + c9) 0 (by omega) (y_cc (by omega)) (y_ccl (by omega)) (by decide) (j := (3 + 3 * c9)) (x := (some tt)) (ty := (.object "ChannelMachine$Task")) (y_dc0 (by omega)) (hU.1.2.1 _ kn_132) (fun _ h9 => h9) rfl (by decide +kernel) rfl rfl d_Machine_output_83 (fun H locs hP hD hS => ?_)
          have hmi : y_MI z ar G C Gs I (y_up O ((3 + 3 * c9)) (some tt)) (y_L pl22) (qn, sn, cq, cs) := hmi.snd (c := c9) (by omega) (fun a ha => by cases ha; exact htt)
          refine lv_aload_n hx hb d_Machine_output_86 rfl (lv_at hl 1 rfl) ?_
          have hFc := y_free hD hS hA
          refine va_callv (va_runV (As := []) (rest := []) ⟨hx, hb, hml, hown, hts⟩ (c_M_pause l dC dI ar N0 z ad I T A (y_up O ((3 + 3 * c9)) (some tt)) pl22 G C Gs qn sn cq cs H.size (y_hs H) hmi) (cwV 0 hts (x_goodV k_787 k_789 kp_30 k_3 k_790) rfl rfl rfl (by decide +kernel) ⟨Nat.le_of_ble_eq_true rfl, Nat.le_of_ble_eq_true rfl⟩) ⟨y_blind, va_recv hK hP (ci := 2) (q0 := 4) rfl (y_W_ob (by decide) (by decide)), fun U9 hU9 hW9 => y_pre hU9 hW9 hP hD hU hZ hS hAN hN0⟩ rfl rfl hl.1 rfl (lv_room (Nat.le_of_ble_eq_true rfl)) d_Machine_output_87 ⟨(by show 0 + (0) ≤ y_gc qn cq + 1; omega), (by show 0 + (0) ≤ y_gs qn cq + 6; omega)⟩) hS (fun q _ h => hFc q h) hFc (fun u t H1 locs ht hvm hw hB hz1 hk1 hS => ?_)
          obtain ⟨I23, T23, A23, O23, pl23, q23, s23, cq23, cs23⟩ := u
          dsimp only at hw hB
          rw [ht] at hB
          obtain ⟨hP, hD1, hac23⟩ := hB
          have hD : va_D Bq (y_W ad ar I23 T23 A23 O23 pl23) := hD1.weaken (fun _ q _ h => hFc q.1 h)
          generalize H1 = H at hP hS hac23 ⊢
          have hae23 := hac23
          try unfold y_ac at hae23
          try dsimp only at hae23
          refine W.widen (k := 0) (n := 0) (by omega) (by omega) ?_
          obtain ⟨hmi, hbd23, fr23⟩ := hw
          have hb23 := hbd23
          unfold y_bd at hb23
          unfold y_ac at hac23
          dsimp only at hb23 hac23
          refine vx_ret ?_
          refine y_know (fun hy91 hy92 hy93 hy94 => ?_)
          have hac9 : y_ac (cq + cs) s.heap.size (y_hs s.heap) (cq23 + cs23) H := ⟨by omega, by omega⟩
          refine W.widen (k := y_gc qn cq + 1) (n := y_gs qn cq + 6) (by omega) (by omega) ?_
          exact W.vret hx hb hr (fun t ht hW => ⟨⟨(I23, T23, A23, O23, pl23, (q23, s23, cq23, cs23)), rfl, ⟨hmi, (y_bd.tr hbd23 (y_bd.rf (a := 0) (b := 0)) (e := 1) (g := 0) (by decide) (by decide)), (m_fr.rf.tr fr23 (by decide))⟩, (by dsimp only; rw [ht]; exact ⟨hP, hD, hac9⟩)⟩, hS.F ht⟩) hS.2.2 d_Machine_output_90
        · refine W.eq (g2 := F0 m 65 ls [.ref x20]) rfl ?_
          have hx20 : G x20 = 8 := (hmi.2.2.2.2.2.1 c9 (by omega)).1 x20 hOx20
          refine lv_ifnull hx hb d_Machine_output_65 ?_
          refine lv_aload_n hx hb d_Machine_output_68 rfl (lv_at hl 1 rfl) ?_
          refine y_know (fun hya1 hya2 hya3 hya4 => ?_)
          have hFc := y_free hD hS hA
          refine vx_callv (vx_runV (As := []) (rest := []) ⟨hx, hb, hml, hown, hts⟩ (c_M_clash l hst dC dI ar N0 z ad I T A O pl G C Gs qn sn cq cs H.size (y_hs H) hmi) (cwV 0 hts (x_goodV k_843 k_845 kp_38 k_3 k_846) rfl rfl rfl (by decide +kernel) ⟨Nat.le_of_ble_eq_true rfl, Nat.le_of_ble_eq_true rfl⟩) ⟨y_blind, va_recv hK hP (ci := 2) (q0 := 4) rfl (y_W_ob (by decide) (by decide)), fun U9 hU9 hW9 => y_pre hU9 hW9 hP hD hU hZ hS hAN hN0⟩ rfl rfl hl.1 rfl (lv_room (Nat.le_of_ble_eq_true rfl)) d_Machine_output_69 ⟨(by show 0 + (1) ≤ y_gc qn cq + 1; omega), (by show 0 + (6) ≤ y_gs qn cq + 6; omega)⟩) hS (fun q _ h => hFc q h) hFc (fun q h1 h2 => hFc q h2) (fun E ce q9 u t H1 locs ht hvm hpx hbx hz1 hk1 hS hce hcv hcl => ?_) (fun u t H1 locs ht hvm hw hB hz1 hk1 hS => ?_)
          · obtain ⟨I24, T24, A24, O24, pl24, q24, s24, cq24, cs24⟩ := u
            dsimp only at hpx hbx
            rw [ht] at hbx
            obtain ⟨hP, hD1, hac24⟩ := hbx
            have hD : va_D Bq (y_W ad ar I24 T24 A24 O24 pl24) := hD1.weaken (fun _ q _ h => hFc q.1 h)
            generalize H1 = H at hP hS hac24 hce ⊢
            obtain ⟨hE, hac24⟩ := hac24
            obtain ⟨hmi, hbd24, fr24, h73⟩ := hpx
            have hb24 := hbd24
            unfold y_bd at hb24
            dsimp only at hb24
            refine y_knowx (fun hy91 hy92 hy93 hy94 => ?_)
            have hac9 : y_ac (cq + cs) (s.heap.size + 1) (y_hs s.heap + 6) (cq24 + cs24) H := ⟨by omega, by omega⟩
            exact vx_out (fun x hx9 => (htb x hx9).elim) hlocks hce hcv hcl (fun t ht hvm => ⟨(I24, T24, A24, O24, pl24, (q24, s24, cq24, cs24)), ⟨hmi, (y_bd.tr hbd24 (y_bd.rf (a := 0) (b := 0)) (e := 1) (g := 0) (by decide) (by decide)), (m_fr.rf.tr fr24 (by decide)), h73⟩, (by dsimp only; rw [ht]; exact ⟨hP, hD, hE, hac9⟩), hS.F ht⟩) hS.2.2 (by show 0 + (1) ≤ y_gc qn cq + 1; omega) (by show 0 + (6) ≤ y_gs qn cq + 6; omega)
          · exact hw.elim
      · refine W.eq (g2 := F0 m 43 ls [.ref x19]) rfl ?_
        have hx19 : G x19 = 8 := (hmi.2.2.2.2.2.1 c9 (by omega)).2.1 x19 hOx19
        refine lv_ifnull hx hb d_Machine_output_43 ?_
        refine lv_aload_n hx hb d_Machine_output_46 rfl (lv_at hl 1 rfl) ?_
        refine lv_aload hx hb d_Machine_output_47 (lv_at hl 0 rfl) ?_
        refine lv_iload_n hx hb d_Machine_output_49 rfl (lv_at hl 4 rfl) ?_
        have hgg25 := y_gg qn cq
        refine y_know (fun hya1 hya2 hya3 hya4 => ?_)
        have hFc := y_free hD hS hA
        refine va_callv (va_runV (As := [.ref (ad (14 + c9)), .int vv]) (rest := []) ⟨hx, hb, hml, hown, hts⟩ (c_M_deliver l dC dI ar N0 z ad I T A O pl G C Gs qn sn cq cs c9 x19 (vv) H.size (y_hs H) hmi (by omega) hOx19 (by omega)) (cwV 2 hts (x_goodV k_839 k_841 kp_37 k_3 k_842) rfl rfl rfl (by decide +kernel) ⟨Nat.le_of_ble_eq_true rfl, Nat.le_of_ble_eq_true rfl⟩) ⟨y_blind, va_recv hK hP (ci := 2) (q0 := 4) rfl (y_W_ob (by decide) (by decide)), fun U9 hU9 hW9 => y_pre hU9 hW9 hP hD hU hZ hS hAN hN0⟩ rfl rfl hl.1 rfl (lv_room (Nat.le_of_ble_eq_true rfl)) d_Machine_output_50 ⟨(by show 0 + (y_gc qn cq) ≤ y_gc qn cq + 1; omega), (by show 0 + (y_gs qn cq) ≤ y_gs qn cq + 6; omega)⟩) hS (fun q _ h => hFc q h) hFc (fun u t H1 locs ht hvm hw hB hz1 hk1 hS => ?_)
        obtain ⟨I26, T26, A26, O26, pl26, q26, s26, cq26, cs26⟩ := u
        dsimp only at hw hB
        rw [ht] at hB
        obtain ⟨hP, hD1, hac26⟩ := hB
        have hD : va_D Bq (y_W ad ar I26 T26 A26 O26 pl26) := hD1.weaken (fun _ q _ h => hFc q.1 h)
        generalize H1 = H at hP hS hac26 ⊢
        have hae26 := hac26
        try unfold y_ac at hae26
        try dsimp only at hae26
        obtain ⟨hmi, hbd26, fr26⟩ := hw
        unfold y_ac at hac26
        have hb26 := hbd26
        unfold y_bd at hb26
        dsimp only at hb26 hac26
        refine lv_aload_n hx hb d_Machine_output_53 rfl (lv_at hl 2 rfl) ?_
        obtain ⟨w27, m27, a27, b27, r27, v27, u27, hf27, hw27, hm27, ha27⟩ := hmi.1.2.1 tt htt
        have hFc := y_free hD hS hA
        refine va_callv (va_runV (As := []) (rest := []) ⟨hx, hb, hml, hown, hts⟩ (c_T_goOn l dC dI ar N0 z ad I26 T26 A26 O26 pl26 G C Gs q26 s26 cq26 cs26 tt H.size (y_hs H) hmi htt) (cwV 0 hts (x_goodV k_777 k_778 k_779 k_18 k_780) rfl rfl rfl (by decide +kernel) ⟨Nat.le_of_ble_eq_true rfl, Nat.le_of_ble_eq_true rfl⟩) ⟨y_blind, (by obtain ⟨q9, hq9⟩ := y_L_at hf27; exact va_recv hK hP (ci := 8) (q0 := 20 + q9) rfl (by rw [y_W_pl]; exact hq9)), fun U9 hU9 hW9 => y_pre hU9 hW9 hP hD hU hZ hS hAN hN0⟩ rfl rfl hl.1 rfl (lv_room (Nat.le_of_ble_eq_true rfl)) d_Machine_output_54 ⟨(by show 0 + (y_gc qn cq) + (0) ≤ y_gc qn cq + 1; omega), (by show 0 + (y_gs qn cq) + (0) ≤ y_gs qn cq + 6; omega)⟩) hS (fun q _ h => hFc q h) hFc (fun u t H1 locs ht hvm hw hB hz1 hk1 hS => ?_)
        obtain ⟨I28, T28, A28, O28, pl28, q28, s28, cq28, cs28⟩ := u
        dsimp only at hw hB
        rw [ht] at hB
        obtain ⟨hP, hD1, hac28⟩ := hB
        have hD : va_D Bq (y_W ad ar I28 T28 A28 O28 pl28) := hD1.weaken (fun _ q _ h => hFc q.1 h)
        generalize H1 = H at hP hS hac28 ⊢
        have hae28 := hac28
        try unfold y_ac at hae28
        try dsimp only at hae28
        refine W.widen (k := 0 + (y_gc qn cq)) (n := 0 + (y_gs qn cq)) (by omega) (by omega) ?_
        obtain ⟨e1, e2, e3, e4, e5, hmi⟩ := hw
        cases e5
        rw [e1, e2, e3, e4] at hP hD
        rw [e1, e4] at hmi
        have hmi : y_MI z ar G C Gs I26 O26 (y_L pl28) (q26, s26, cq26, cs26) := hmi
        refine lv_goto (tgt := 90) hx hb d_Machine_output_57 (by decide) ?_
        refine vx_ret ?_
        refine y_know (fun hy91 hy92 hy93 hy94 => ?_)
        have hac9 : y_ac (cq + cs) s.heap.size (y_hs s.heap) (cq26 + cs26) H := ⟨by omega, by omega⟩
        refine W.widen (k := y_gc qn cq + 1) (n := y_gs qn cq + 6) (by omega) (by omega) ?_
        exact W.vret hx hb hr (fun t ht hW => ⟨⟨(I26, T26, A26, O26, pl28, (q26, s26, cq26, cs26)), rfl, ⟨hmi, (y_bd.tr hbd26 (y_bd.rf (a := 0) (b := 0)) (e := 1) (g := 0) (by decide) (by decide)), (m_fr.rf.tr fr26 (by decide))⟩, (by dsimp only; rw [ht]; exact ⟨hP, hD, hac9⟩)⟩, hS.F ht⟩) hS.2.2 d_Machine_output_90
set_option maxHeartbeats 4000000 in
set_option maxRecDepth 100000 in
theorem c_M_loop (l : Launch) (hst : l.stackTraces = false) (dC : Nat → ClassId) (dI : Nat → Nat → Nat) (ar : Nat → ClassId) (N0 : Nat) (z : Nat → Nat) (ad : Nat → Nat) (I : Nat → Int32) (T : Int64) (A : Nat → Nat → Int32) (O : Nat → Option Nat) (pl : va_W) (G : Nat → Nat) (C Gs : Nat → List Nat) (qn sn cq cs : Nat) (tt pp co9 : Nat) (sz w0 : Nat) (hmi : y_MI z ar G C Gs I O (y_L pl) (qn, sn, cq, cs)) (htt : G tt = 8) (hpp : G pp = 7) (hco : y_sl (y_L pl) pp 7 = some (.ref co9)) (hco9 : G co9 = 10) (hlen : 1 ≤ (C pp).length) : vx_Met l ({ cls := "ChannelMachine$Machine", name := "loop", desc := "(LChannelMachine$Task;LChannelMachine$Process;)V" } : Jvm.MethodName) ((Jvm.Cond.code ({ cls := "ChannelMachine$Machine", name := "loop", desc := "(LChannelMachine$Task;LChannelMachine$Process;)V" } : Jvm.MethodName) prog_6_method_14_code (3 : Nat) (Option.none : Option Jvm.ClassFile.FieldType)) :: x_T) ({ frames := 8, cells := 1, slots := 6, locals := 129 }) (y_Pc (dC, dI) ar N0 z (y_W ad ar I T A O pl) sz w0 [.ref (ad 4), .ref tt, .ref pp]) (va_Qv (fun (u : (Nat → Int32) × Int64 × (Nat → Nat → Int32) × (Nat → Option Nat) × va_W × (Nat × Nat × Nat × Nat)) => y_MI z ar G C Gs u.1 u.2.2.2.1 (y_L u.2.2.2.2.1) u.2.2.2.2.2 ∧ y_bd (qn, sn, cq, cs) u.2.2.2.2.2 0 0 ∧ m_fr [] I u.1) (fun u t => va_P (dC, dI) y_cl (y_W ad ar u.1 u.2.1 u.2.2.1 u.2.2.2.1 u.2.2.2.2.1) t.heap ∧ va_D (va_A (y_W ad ar I T A O pl) sz) (y_W ad ar u.1 u.2.1 u.2.2.1 u.2.2.2.1 u.2.2.2.2.1) ∧ y_ac (cq + cs) sz w0 (u.2.2.2.2.2.2.2.1 + u.2.2.2.2.2.2.2.2) t.heap) (va_A (y_W ad ar I T A O pl) sz)) (vx_X (fun (u : (Nat → Int32) × Int64 × (Nat → Nat → Int32) × (Nat → Option Nat) × va_W × (Nat × Nat × Nat × Nat)) => y_MI z ar G C Gs u.1 u.2.2.2.1 (y_L u.2.2.2.2.1) u.2.2.2.2.2 ∧ y_bd (qn, sn, cq, cs) u.2.2.2.2.2 0 0 ∧ m_fr [7, 8, 12, 13, 14, 15] I u.1 ∧ u.1 7 = 3) (fun E u t => va_P (dC, dI) y_cl (y_W ad ar u.1 u.2.1 u.2.2.1 u.2.2.2.1 u.2.2.2.2.1) t.heap ∧ va_D (va_A (y_W ad ar I T A O pl) sz) (y_W ad ar u.1 u.2.1 u.2.2.1 u.2.2.2.1 u.2.2.2.2.1) ∧ (E = "java/lang/IllegalStateException" ∨ E = "java/lang/ArithmeticException") ∧ y_ac (cq + cs) (sz + 1) (w0 + 6) (u.2.2.2.2.2.2.2.1 + u.2.2.2.2.2.2.2.2) t.heap) (va_A (y_W ad ar I T A O pl) sz)) (1) (6) (va_A (y_W ad ar I T A O pl) sz) := by
  refine vx_ofW (cc := prog_6_method_14_code) (maxL := 3) (ret := none) (by decide) rfl ?_
  intro p e s m args below meth c s₁ B hml htb hv
  obtain ⟨rfl, hsz, hN0, hP, hU, hZ, hD0, hw0⟩ := hv
  have hK := hU.2.1
  have hx := B.exec
  have hb := B.bytes
  have hr := B.returns
  have hts : ∀ w ∈ x_T, w.before ([.ref (ad 4), .ref tt, .ref pp] : List Value).toArray s = true := fun w h => atoms_spec (ws := (Jvm.Cond.code ({ cls := "ChannelMachine$Machine", name := "loop", desc := "(LChannelMachine$Task;LChannelMachine$Process;)V" } : Jvm.MethodName) prog_6_method_14_code (3 : Nat) (Option.none : Option Jvm.ClassFile.FieldType)) :: x_T) B.pre w (List.mem_cons_of_mem _ h)
  have hown : s.vm.findClass "ChannelMachine$Machine" = some m.cls := findClass_of_methodNamed B.named
  have hlocks := B.notSynchronized
  subst hsz
  subst hw0
  have hD := hD0.self (sz := s.heap.size)
  have hAN := x_AN hD0 hN0
  generalize hAe : va_A (y_W ad ar I T A O pl) s.heap.size = Bq at hD hAN ⊢
  have hA : ∀ q : Nat, s.heap.size ≤ q → Bq q := fun q h => by rw [← hAe]; exact Or.inr h
  have hS : va_S Bq s.heap s.heap [] := va_S.rf
  have hl := lv_entry ([.ref (ad 4), .ref tt, .ref pp]) (n := 3) (Nat.le_of_ble_eq_true rfl)
  rw [lg_entry_eq]
  generalize (lg_sl ([.ref (ad 4), .ref tt, .ref pp]) ++ List.replicate (3 - (lg_sl ([.ref (ad 4), .ref tt, .ref pp])).length) Slot.unset).toArray = ls at hl ⊢
  have hl : lv_has ls 3 [(0, .ref (ad 4)), (1, .ref tt), (2, .ref pp)] := hl
  obtain ⟨j1, par1, nx1, tk1, co1, ch1, va1, hf1, hpk1⟩ := hmi.1.1 pp hpp
  have hpar1 := hpk1.2.1
  have hnx1 := hpk1.2.2.1
  obtain ⟨t1, rfl, ht1⟩ := hpk1.2.2.2.1
  have hfx9 : co9 = co1 := by rw [y_sl_at hf1] at hco; exact (Value.ref.inj (Option.some.inj hco)).symm
  subst hfx9
  refine lv_aload_n hx hb d_Machine_loop_0 rfl (lv_at hl 0 rfl) ?_
  refine lv_aload_n hx hb d_Machine_loop_1 rfl (lv_at hl 2 rfl) ?_
  refine d_gN (C := "ChannelMachine$Process") (F := F_Process) (N := 10) hx hb hts i_Process hown hK hP hf1 7 rfl (by decide) (hU.1.2.1 _ kn_414) (fun _ h9 => h9) (v := .ref co9) rfl d_Machine_loop_2 ?_
  refine y_know (fun hya1 hya2 hya3 hya4 => ?_)
  have hFc := y_free hD hS hA
  refine vx_calli (vx_runV (As := [.ref co9]) (rest := []) ⟨hx, hb, hml, hown, hts⟩ (c_M_evaluate l hst dC dI ar N0 z ad I T A O pl G C Gs qn sn cq cs co9 s.heap.size (y_hs s.heap) hmi hco9) (cwV 1 hts (x_goodV k_791 k_793 kp_31 k_3 k_794) rfl rfl rfl (by decide +kernel) ⟨Nat.le_of_ble_eq_true rfl, Nat.le_of_ble_eq_true rfl⟩) ⟨y_blind, va_recv hK hP (ci := 2) (q0 := 4) rfl (y_W_ob (by decide) (by decide)), fun U9 hU9 hW9 => y_pre hU9 hW9 hP hD hU hZ hS hAN hN0⟩ rfl rfl hl.1 rfl (lv_room (Nat.le_of_ble_eq_true rfl)) d_Machine_loop_5 ⟨(by show 0 + (1) ≤ 1; omega), (by show 0 + (6) ≤ 6; omega)⟩) hS (fun q _ h => hFc q h) hFc (fun q h1 h2 => hFc q h2) (fun E ce q9 u t H1 locs ht hvm hpx hbx hz1 hk1 hS hce hcv hcl => ?_) (fun r_2 u t H1 locs ht hvm hw hB hz1 hk1 hS => ?_)
  · obtain ⟨I3, T3, A3, O3, pl3, q3, s3, cq3, cs3⟩ := u
    dsimp only at hpx hbx
    rw [ht] at hbx
    obtain ⟨hP, hD1, hac3⟩ := hbx
    have hD : va_D Bq (y_W ad ar I3 T3 A3 O3 pl3) := hD1.weaken (fun _ q _ h => hFc q.1 h)
    generalize H1 = H at hP hS hac3 hce ⊢
    obtain ⟨hE, hac3⟩ := hac3
    obtain ⟨hmi, hbd3, fr3, h73⟩ := hpx
    have hb3 := hbd3
    unfold y_bd at hb3
    dsimp only at hb3
    unfold y_ac at hac3
    try dsimp only at hac3
    refine y_knowx (fun hy91 hy92 hy93 hy94 => ?_)
    have hac9 : y_ac (cq + cs) (s.heap.size + 1) (y_hs s.heap + 6) (cq3 + cs3) H := ⟨by omega, by omega⟩
    exact vx_out (fun x hx9 => (htb x hx9).elim) hlocks hce hcv hcl (fun t ht hvm => ⟨(I3, T3, A3, O3, pl3, (q3, s3, cq3, cs3)), ⟨hmi, (y_bd.tr hbd3 (y_bd.rf (a := 0) (b := 0)) (e := 0) (g := 0) (by decide) (by decide)), (m_fr.rf.tr fr3 (by decide)), h73⟩, (by dsimp only; rw [ht]; exact ⟨hP, hD, hE, hac9⟩), hS.F ht⟩) hS.2.2 (by show 0 + (1) ≤ 1; omega) (by show 0 + (6) ≤ 6; omega)
  · obtain ⟨I4, T4, A4, O4, pl4, q4, s4, cq4, cs4⟩ := u
    dsimp only at hw hB
    rw [ht] at hB
    obtain ⟨hP, hD1, hac4⟩ := hB
    have hD : va_D Bq (y_W ad ar I4 T4 A4 O4 pl4) := hD1.weaken (fun _ q _ h => hFc q.1 h)
    generalize H1 = H at hP hS hac4 ⊢
    have hae4 := hac4
    try unfold y_ac at hae4
    try dsimp only at hae4
    obtain ⟨e1, e2, e3, e4, e5⟩ := hw
    cases e5
    rw [e1, e2, e3, e4] at hP hD
    unfold y_ac at hac4
    try dsimp only at hac4
    refine y_tight (k := 0) (n := 0) (by omega) (by omega) ?_
    refine lv_if_ne (tgt := 18) hx hb d_Machine_loop_8 (by decide) (fun c5 => ?_) (fun c5 => ?_)
    · refine lv_aload_n hx hb d_Machine_loop_18 rfl (lv_at hl 1 rfl) ?_
      refine lv_aload_n hx hb d_Machine_loop_19 rfl (lv_at hl 2 rfl) ?_
      refine d_gN (C := "ChannelMachine$Process") (F := F_Process) (N := 10) hx hb hts i_Process hown hK hP hf1 2 rfl (by decide) (hU.1.2.1 _ kn_397) (fun _ h9 => h9) (v := va_rf (C pp).head?) rfl d_Machine_loop_20 ?_
      rcases hhy6 : (C pp).head? with _ | y6
      · refine W.eq (g2 := F0 m 23 ls [.null, .ref tt]) rfl ?_
        rw [List.head?_eq_none_iff] at hhy6
        rw [hhy6] at hlen
        exact absurd hlen (by decide)
      · have hy6 := hmi.1.head hpp hhy6
        refine W.eq (g2 := F0 m 23 ls [.ref y6, .ref tt]) rfl ?_
        obtain ⟨w7, m7, a7, b7, r7, v7, u7, hf7, hw7, hm7, ha7⟩ := hmi.1.2.1 tt htt
        have hFc := y_free hD hS hA
        refine va_callv (va_runV (As := [.ref y6]) (rest := []) ⟨hx, hb, hml, hown, hts⟩ (c_T_enter l dC dI ar N0 z ad I T A4 O pl G C Gs qn sn cq cs tt y6 H.size (y_hs H) hmi htt hy6) (cwV 1 hts (x_goodV k_636 k_637 k_638 k_18 k_639) rfl rfl rfl (by decide +kernel) ⟨Nat.le_of_ble_eq_true rfl, Nat.le_of_ble_eq_true rfl⟩) ⟨y_blind, (by obtain ⟨q9, hq9⟩ := y_L_at hf7; exact va_recv hK hP (ci := 8) (q0 := 20 + q9) rfl (by rw [y_W_pl]; exact hq9)), fun U9 hU9 hW9 => y_pre hU9 hW9 hP hD hU hZ hS hAN hN0⟩ rfl rfl hl.1 rfl (lv_room (Nat.le_of_ble_eq_true rfl)) d_Machine_loop_23 ⟨(by show 0 + (0) ≤ 1; omega), (by show 0 + (0) ≤ 6; omega)⟩) hS (fun q _ h => hFc q h) hFc (fun u t H1 locs ht hvm hw hB hz1 hk1 hS => ?_)
        obtain ⟨I8, T8, A8, O8, pl8, q8, s8, cq8, cs8⟩ := u
        dsimp only at hw hB
        rw [ht] at hB
        obtain ⟨hP, hD1, hac8⟩ := hB
        have hD : va_D Bq (y_W ad ar I8 T8 A8 O8 pl8) := hD1.weaken (fun _ q _ h => hFc q.1 h)
        generalize H1 = H at hP hS hac8 ⊢
        have hae8 := hac8
        try unfold y_ac at hae8
        try dsimp only at hae8
        refine W.widen (k := 0) (n := 0) (by omega) (by omega) ?_
        obtain ⟨e1, e2, e3, e4, e5, hmi⟩ := hw
        cases e5
        rw [e1, e2, e3, e4] at hP hD
        rw [e1, e4] at hmi
        have hmi : y_MI z ar G C Gs I O (y_L pl8) (qn, sn, cq, cs) := hmi
        refine vx_ret ?_
        refine y_know (fun hy91 hy92 hy93 hy94 => ?_)
        have hac9 : y_ac (cq + cs) s.heap.size (y_hs s.heap) (cq + cs) H := ⟨by omega, by omega⟩
        refine W.widen (k := 1) (n := 6) (by omega) (by omega) ?_
        exact W.vret hx hb hr (fun t ht hW => ⟨⟨(I, T, A4, O, pl8, (qn, sn, cq, cs)), rfl, ⟨hmi, y_bd.rf, m_fr.rf⟩, (by dsimp only; rw [ht]; exact ⟨hP, hD, hac9⟩)⟩, hS.F ht⟩) hS.2.2 d_Machine_loop_26
    · refine lv_aload_n hx hb d_Machine_loop_11 rfl (lv_at hl 1 rfl) ?_
      obtain ⟨w9, m9, a9, b9, r9, v9, u9, hf9, hw9, hm9, ha9⟩ := hmi.1.2.1 tt htt
      have hFc := y_free hD hS hA
      refine va_callv (va_runV (As := []) (rest := []) ⟨hx, hb, hml, hown, hts⟩ (c_T_goOn l dC dI ar N0 z ad I T A4 O pl G C Gs qn sn cq cs tt H.size (y_hs H) hmi htt) (cwV 0 hts (x_goodV k_777 k_778 k_779 k_18 k_780) rfl rfl rfl (by decide +kernel) ⟨Nat.le_of_ble_eq_true rfl, Nat.le_of_ble_eq_true rfl⟩) ⟨y_blind, (by obtain ⟨q9, hq9⟩ := y_L_at hf9; exact va_recv hK hP (ci := 8) (q0 := 20 + q9) rfl (by rw [y_W_pl]; exact hq9)), fun U9 hU9 hW9 => y_pre hU9 hW9 hP hD hU hZ hS hAN hN0⟩ rfl rfl hl.1 rfl (lv_room (Nat.le_of_ble_eq_true rfl)) d_Machine_loop_12 ⟨(by show 0 + (0) ≤ 1; omega), (by show 0 + (0) ≤ 6; omega)⟩) hS (fun q _ h => hFc q h) hFc (fun u t H1 locs ht hvm hw hB hz1 hk1 hS => ?_)
      obtain ⟨I10, T10, A10, O10, pl10, q10, s10, cq10, cs10⟩ := u
      dsimp only at hw hB
      rw [ht] at hB
      obtain ⟨hP, hD1, hac10⟩ := hB
      have hD : va_D Bq (y_W ad ar I10 T10 A10 O10 pl10) := hD1.weaken (fun _ q _ h => hFc q.1 h)
      generalize H1 = H at hP hS hac10 ⊢
      have hae10 := hac10
      try unfold y_ac at hae10
      try dsimp only at hae10
      refine W.widen (k := 0) (n := 0) (by omega) (by omega) ?_
      obtain ⟨e1, e2, e3, e4, e5, hmi⟩ := hw
      cases e5
      rw [e1, e2, e3, e4] at hP hD
      rw [e1, e4] at hmi
      have hmi : y_MI z ar G C Gs I O (y_L pl10) (qn, sn, cq, cs) := hmi
      refine lv_goto (tgt := 26) hx hb d_Machine_loop_15 (by decide) ?_
      refine vx_ret ?_
      refine y_know (fun hy91 hy92 hy93 hy94 => ?_)
      have hac9 : y_ac (cq + cs) s.heap.size (y_hs s.heap) (cq + cs) H := ⟨by omega, by omega⟩
      refine W.widen (k := 1) (n := 6) (by omega) (by omega) ?_
      exact W.vret hx hb hr (fun t ht hW => ⟨⟨(I, T, A4, O, pl10, (qn, sn, cq, cs)), rfl, ⟨hmi, y_bd.rf, m_fr.rf⟩, (by dsimp only; rw [ht]; exact ⟨hP, hD, hac9⟩)⟩, hS.F ht⟩) hS.2.2 d_Machine_loop_26
