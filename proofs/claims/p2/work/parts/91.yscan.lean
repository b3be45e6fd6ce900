-- ===== 91.yscan: the Reader scans, by program =====
theorem k_338 : (Jvm.Cond.methodLink "ChannelMachine$Reader" (52 : Nat) ({ cls := "ChannelMachine$Reader", name := "look", desc := "()C" } : Jvm.MethodName)) ∈ x_T := x_at 338 (by decide +kernel) (by decide +kernel)
theorem k_340 : (Jvm.Cond.instanceMethod ({ cls := "ChannelMachine$Reader", name := "look", desc := "()C" } : Jvm.MethodName)) ∈ x_T := x_at 340 (by decide +kernel) (by decide +kernel)
theorem k_341 : (Jvm.Cond.code ({ cls := "ChannelMachine$Reader", name := "look", desc := "()C" } : Jvm.MethodName) prog_8_method_5_code (1 : Nat) (Option.some Jvm.ClassFile.FieldType.char)) ∈ x_T := x_at 341 (by decide +kernel) (by decide +kernel)
theorem k_369 : (Jvm.Cond.methodLink "ChannelMachine$Reader" (60 : Nat) ({ cls := "ChannelMachine$Reader", name := "isVariable", desc := "(C)Z" } : Jvm.MethodName)) ∈ x_T := x_at 369 (by decide +kernel) (by decide +kernel)
theorem k_370 : (Jvm.Cond.static ({ cls := "ChannelMachine$Reader", name := "isVariable", desc := "(C)Z" } : Jvm.MethodName)) ∈ x_T := x_at 370 (by decide +kernel) (by decide +kernel)
theorem k_371 : (Jvm.Cond.code ({ cls := "ChannelMachine$Reader", name := "isVariable", desc := "(C)Z" } : Jvm.MethodName) prog_8_method_11_code (1 : Nat) (Option.some Jvm.ClassFile.FieldType.boolean)) ∈ x_T := x_at 371 (by decide +kernel) (by decide +kernel)
theorem k_477 : (Jvm.Cond.methodLink "ChannelMachine$Reader" (42 : Nat) ({ cls := "ChannelMachine$Reader", name := "refuse", desc := "()Z" } : Jvm.MethodName)) ∈ x_T := x_at 477 (by decide +kernel) (by decide +kernel)
theorem k_479 : (Jvm.Cond.instanceMethod ({ cls := "ChannelMachine$Reader", name := "refuse", desc := "()Z" } : Jvm.MethodName)) ∈ x_T := x_at 479 (by decide +kernel) (by decide +kernel)
theorem k_480 : (Jvm.Cond.code ({ cls := "ChannelMachine$Reader", name := "refuse", desc := "()Z" } : Jvm.MethodName) prog_8_method_7_code (1 : Nat) (Option.some Jvm.ClassFile.FieldType.boolean)) ∈ x_T := x_at 480 (by decide +kernel) (by decide +kernel)
theorem k_481 : (Jvm.Cond.methodLink "ChannelMachine$Reader" (46 : Nat) ({ cls := "java/lang/Math", name := "max", desc := "(II)I" } : Jvm.MethodName)) ∈ x_T := x_at 481 (by decide +kernel) (by decide +kernel)
theorem k_492 : (Jvm.Cond.methodLink "ChannelMachine$Reader" (56 : Nat) ({ cls := "ChannelMachine$Reader", name := "expect", desc := "(C)Z" } : Jvm.MethodName)) ∈ x_T := x_at 492 (by decide +kernel) (by decide +kernel)
theorem k_494 : (Jvm.Cond.instanceMethod ({ cls := "ChannelMachine$Reader", name := "expect", desc := "(C)Z" } : Jvm.MethodName)) ∈ x_T := x_at 494 (by decide +kernel) (by decide +kernel)
theorem k_495 : (Jvm.Cond.code ({ cls := "ChannelMachine$Reader", name := "expect", desc := "(C)Z" } : Jvm.MethodName) prog_8_method_8_code (2 : Nat) (Option.some Jvm.ClassFile.FieldType.boolean)) ∈ x_T := x_at 495 (by decide +kernel) (by decide +kernel)
theorem kp_3 : (Jvm.Cond.selects "ChannelMachine$Reader" ({ cls := "ChannelMachine$Reader", name := "look", desc := "()C" } : Jvm.MethodName) ({ cls := "ChannelMachine$Reader", name := "look", desc := "()C" } : Jvm.MethodName)) ∈ x_T := x_sel (q := (({ cls := "ChannelMachine$Reader", name := "look", desc := "()C" } : Jvm.MethodName), 9)) 3 (by decide +kernel) (by decide +kernel)
theorem kp_6 : (Jvm.Cond.selects "ChannelMachine$Reader" ({ cls := "ChannelMachine$Reader", name := "refuse", desc := "()Z" } : Jvm.MethodName) ({ cls := "ChannelMachine$Reader", name := "refuse", desc := "()Z" } : Jvm.MethodName)) ∈ x_T := x_sel (q := (({ cls := "ChannelMachine$Reader", name := "refuse", desc := "()Z" } : Jvm.MethodName), 9)) 6 (by decide +kernel) (by decide +kernel)
theorem kp_7 : (Jvm.Cond.selects "ChannelMachine$Reader" ({ cls := "ChannelMachine$Reader", name := "expect", desc := "(C)Z" } : Jvm.MethodName) ({ cls := "ChannelMachine$Reader", name := "expect", desc := "(C)Z" } : Jvm.MethodName)) ∈ x_T := x_sel (q := (({ cls := "ChannelMachine$Reader", name := "expect", desc := "(C)Z" } : Jvm.MethodName), 9)) 7 (by decide +kernel) (by decide +kernel)
theorem d_Reader_look_0 : decode prog_8_method_5_code 0 = .ok (.aload_n 0, 1) := by decide +kernel
theorem d_Reader_look_1 : decode prog_8_method_5_code 1 = .ok (.getfield 29, 3) := by decide +kernel
theorem d_Reader_look_4 : decode prog_8_method_5_code 4 = .ok (.aload_n 0, 1) := by decide +kernel
theorem d_Reader_look_5 : decode prog_8_method_5_code 5 = .ok (.getfield 26, 3) := by decide +kernel
theorem d_Reader_look_8 : decode prog_8_method_5_code 8 = .ok (.if_icmp .ge 24, 3) := by decide +kernel
theorem d_Reader_look_11 : decode prog_8_method_5_code 11 = .ok (.aload_n 0, 1) := by decide +kernel
theorem d_Reader_look_12 : decode prog_8_method_5_code 12 = .ok (.getfield 29, 3) := by decide +kernel
theorem d_Reader_look_15 : decode prog_8_method_5_code 15 = .ok (.bipush 72, 2) := by decide +kernel
theorem d_Reader_look_17 : decode prog_8_method_5_code 17 = .ok (.if_icmp .ge 15, 3) := by decide +kernel
theorem d_Reader_look_20 : decode prog_8_method_5_code 20 = .ok (.aload_n 0, 1) := by decide +kernel
theorem d_Reader_look_21 : decode prog_8_method_5_code 21 = .ok (.getfield 9, 3) := by decide +kernel
theorem d_Reader_look_24 : decode prog_8_method_5_code 24 = .ok (.aload_n 0, 1) := by decide +kernel
theorem d_Reader_look_25 : decode prog_8_method_5_code 25 = .ok (.getfield 29, 3) := by decide +kernel
theorem d_Reader_look_28 : decode prog_8_method_5_code 28 = .ok (.caload, 1) := by decide +kernel
theorem d_Reader_look_29 : decode prog_8_method_5_code 29 = .ok (.goto 4, 3) := by decide +kernel
theorem d_Reader_look_32 : decode prog_8_method_5_code 32 = .ok (.iconst 0, 1) := by decide +kernel
theorem d_Reader_look_33 : decode prog_8_method_5_code 33 = .ok (.ireturn, 1) := by decide +kernel
theorem d_Reader_lookBehindNext_0 : decode prog_8_method_6_code 0 = .ok (.aload_n 0, 1) := by decide +kernel
theorem d_Reader_lookBehindNext_1 : decode prog_8_method_6_code 1 = .ok (.getfield 29, 3) := by decide +kernel
theorem d_Reader_lookBehindNext_4 : decode prog_8_method_6_code 4 = .ok (.iconst 1, 1) := by decide +kernel
theorem d_Reader_lookBehindNext_5 : decode prog_8_method_6_code 5 = .ok (.iadd, 1) := by decide +kernel
theorem d_Reader_lookBehindNext_6 : decode prog_8_method_6_code 6 = .ok (.aload_n 0, 1) := by decide +kernel
theorem d_Reader_lookBehindNext_7 : decode prog_8_method_6_code 7 = .ok (.getfield 26, 3) := by decide +kernel
theorem d_Reader_lookBehindNext_10 : decode prog_8_method_6_code 10 = .ok (.if_icmp .ge 28, 3) := by decide +kernel
theorem d_Reader_lookBehindNext_13 : decode prog_8_method_6_code 13 = .ok (.aload_n 0, 1) := by decide +kernel
theorem d_Reader_lookBehindNext_14 : decode prog_8_method_6_code 14 = .ok (.getfield 29, 3) := by decide +kernel
theorem d_Reader_lookBehindNext_17 : decode prog_8_method_6_code 17 = .ok (.iconst 1, 1) := by decide +kernel
theorem d_Reader_lookBehindNext_18 : decode prog_8_method_6_code 18 = .ok (.iadd, 1) := by decide +kernel
theorem d_Reader_lookBehindNext_19 : decode prog_8_method_6_code 19 = .ok (.bipush 72, 2) := by decide +kernel
theorem d_Reader_lookBehindNext_21 : decode prog_8_method_6_code 21 = .ok (.if_icmp .ge 17, 3) := by decide +kernel
theorem d_Reader_lookBehindNext_24 : decode prog_8_method_6_code 24 = .ok (.aload_n 0, 1) := by decide +kernel
theorem d_Reader_lookBehindNext_25 : decode prog_8_method_6_code 25 = .ok (.getfield 9, 3) := by decide +kernel
theorem d_Reader_lookBehindNext_28 : decode prog_8_method_6_code 28 = .ok (.aload_n 0, 1) := by decide +kernel
theorem d_Reader_lookBehindNext_29 : decode prog_8_method_6_code 29 = .ok (.getfield 29, 3) := by decide +kernel
theorem d_Reader_lookBehindNext_32 : decode prog_8_method_6_code 32 = .ok (.iconst 1, 1) := by decide +kernel
theorem d_Reader_lookBehindNext_33 : decode prog_8_method_6_code 33 = .ok (.iadd, 1) := by decide +kernel
theorem d_Reader_lookBehindNext_34 : decode prog_8_method_6_code 34 = .ok (.caload, 1) := by decide +kernel
theorem d_Reader_lookBehindNext_35 : decode prog_8_method_6_code 35 = .ok (.goto 4, 3) := by decide +kernel
theorem d_Reader_lookBehindNext_38 : decode prog_8_method_6_code 38 = .ok (.iconst 0, 1) := by decide +kernel
theorem d_Reader_lookBehindNext_39 : decode prog_8_method_6_code 39 = .ok (.ireturn, 1) := by decide +kernel
theorem d_Reader_refuse_0 : decode prog_8_method_7_code 0 = .ok (.aload_n 0, 1) := by decide +kernel
theorem d_Reader_refuse_1 : decode prog_8_method_7_code 1 = .ok (.aload_n 0, 1) := by decide +kernel
theorem d_Reader_refuse_2 : decode prog_8_method_7_code 2 = .ok (.getfield 32, 3) := by decide +kernel
theorem d_Reader_refuse_5 : decode prog_8_method_7_code 5 = .ok (.aload_n 0, 1) := by decide +kernel
theorem d_Reader_refuse_6 : decode prog_8_method_7_code 6 = .ok (.getfield 29, 3) := by decide +kernel
theorem d_Reader_refuse_9 : decode prog_8_method_7_code 9 = .ok (.invokestatic 46, 3) := by decide +kernel
theorem d_Reader_refuse_12 : decode prog_8_method_7_code 12 = .ok (.putfield 32, 3) := by decide +kernel
theorem d_Reader_refuse_15 : decode prog_8_method_7_code 15 = .ok (.iconst 0, 1) := by decide +kernel
theorem d_Reader_refuse_16 : decode prog_8_method_7_code 16 = .ok (.ireturn, 1) := by decide +kernel
theorem d_Reader_expect_0 : decode prog_8_method_8_code 0 = .ok (.aload_n 0, 1) := by decide +kernel
theorem d_Reader_expect_1 : decode prog_8_method_8_code 1 = .ok (.invokevirtual 52, 3) := by decide +kernel
theorem d_Reader_expect_4 : decode prog_8_method_8_code 4 = .ok (.iload_n 1, 1) := by decide +kernel
theorem d_Reader_expect_5 : decode prog_8_method_8_code 5 = .ok (.if_icmp .eq 8, 3) := by decide +kernel
theorem d_Reader_expect_8 : decode prog_8_method_8_code 8 = .ok (.aload_n 0, 1) := by decide +kernel
theorem d_Reader_expect_9 : decode prog_8_method_8_code 9 = .ok (.invokevirtual 42, 3) := by decide +kernel
theorem d_Reader_expect_12 : decode prog_8_method_8_code 12 = .ok (.ireturn, 1) := by decide +kernel
theorem d_Reader_expect_13 : decode prog_8_method_8_code 13 = .ok (.aload_n 0, 1) := by decide +kernel
theorem d_Reader_expect_14 : decode prog_8_method_8_code 14 = .ok (.dup, 1) := by decide +kernel
theorem d_Reader_expect_15 : decode prog_8_method_8_code 15 = .ok (.getfield 29, 3) := by decide +kernel
theorem d_Reader_expect_18 : decode prog_8_method_8_code 18 = .ok (.iconst 1, 1) := by decide +kernel
theorem d_Reader_expect_19 : decode prog_8_method_8_code 19 = .ok (.iadd, 1) := by decide +kernel
theorem d_Reader_expect_20 : decode prog_8_method_8_code 20 = .ok (.putfield 29, 3) := by decide +kernel
theorem d_Reader_expect_23 : decode prog_8_method_8_code 23 = .ok (.iconst 1, 1) := by decide +kernel
theorem d_Reader_expect_24 : decode prog_8_method_8_code 24 = .ok (.ireturn, 1) := by decide +kernel
theorem d_Reader_inputVariable_0 : decode prog_8_method_9_code 0 = .ok (.aload_n 0, 1) := by decide +kernel
theorem d_Reader_inputVariable_1 : decode prog_8_method_9_code 1 = .ok (.bipush 63, 2) := by decide +kernel
theorem d_Reader_inputVariable_3 : decode prog_8_method_9_code 3 = .ok (.invokevirtual 56, 3) := by decide +kernel
theorem d_Reader_inputVariable_6 : decode prog_8_method_9_code 6 = .ok (.ifCond .ne 5, 3) := by decide +kernel
theorem d_Reader_inputVariable_9 : decode prog_8_method_9_code 9 = .ok (.iconst (-1), 1) := by decide +kernel
theorem d_Reader_inputVariable_10 : decode prog_8_method_9_code 10 = .ok (.ireturn, 1) := by decide +kernel
theorem d_Reader_inputVariable_11 : decode prog_8_method_9_code 11 = .ok (.aload_n 0, 1) := by decide +kernel
theorem d_Reader_inputVariable_12 : decode prog_8_method_9_code 12 = .ok (.invokevirtual 52, 3) := by decide +kernel
theorem d_Reader_inputVariable_15 : decode prog_8_method_9_code 15 = .ok (.istore_n 1, 1) := by decide +kernel
theorem d_Reader_inputVariable_16 : decode prog_8_method_9_code 16 = .ok (.iload_n 1, 1) := by decide +kernel
theorem d_Reader_inputVariable_17 : decode prog_8_method_9_code 17 = .ok (.invokestatic 60, 3) := by decide +kernel
theorem d_Reader_inputVariable_20 : decode prog_8_method_9_code 20 = .ok (.ifCond .ne 10, 3) := by decide +kernel
theorem d_Reader_inputVariable_23 : decode prog_8_method_9_code 23 = .ok (.aload_n 0, 1) := by decide +kernel
theorem d_Reader_inputVariable_24 : decode prog_8_method_9_code 24 = .ok (.invokevirtual 42, 3) := by decide +kernel
theorem d_Reader_inputVariable_27 : decode prog_8_method_9_code 27 = .ok (.pop, 1) := by decide +kernel
theorem d_Reader_inputVariable_28 : decode prog_8_method_9_code 28 = .ok (.iconst (-1), 1) := by decide +kernel
theorem d_Reader_inputVariable_29 : decode prog_8_method_9_code 29 = .ok (.ireturn, 1) := by decide +kernel
theorem d_Reader_inputVariable_30 : decode prog_8_method_9_code 30 = .ok (.aload_n 0, 1) := by decide +kernel
theorem d_Reader_inputVariable_31 : decode prog_8_method_9_code 31 = .ok (.dup, 1) := by decide +kernel
theorem d_Reader_inputVariable_32 : decode prog_8_method_9_code 32 = .ok (.getfield 29, 3) := by decide +kernel
theorem d_Reader_inputVariable_35 : decode prog_8_method_9_code 35 = .ok (.iconst 1, 1) := by decide +kernel
theorem d_Reader_inputVariable_36 : decode prog_8_method_9_code 36 = .ok (.iadd, 1) := by decide +kernel
theorem d_Reader_inputVariable_37 : decode prog_8_method_9_code 37 = .ok (.putfield 29, 3) := by decide +kernel
theorem d_Reader_inputVariable_40 : decode prog_8_method_9_code 40 = .ok (.iload_n 1, 1) := by decide +kernel
theorem d_Reader_inputVariable_41 : decode prog_8_method_9_code 41 = .ok (.bipush 97, 2) := by decide +kernel
theorem d_Reader_inputVariable_43 : decode prog_8_method_9_code 43 = .ok (.isub, 1) := by decide +kernel
theorem d_Reader_inputVariable_44 : decode prog_8_method_9_code 44 = .ok (.ireturn, 1) := by decide +kernel
theorem d_Reader_channelOf_0 : decode prog_8_method_12_code 0 = .ok (.iload_n 0, 1) := by decide +kernel
theorem d_Reader_channelOf_1 : decode prog_8_method_12_code 1 = .ok (.bipush 73, 2) := by decide +kernel
theorem d_Reader_channelOf_3 : decode prog_8_method_12_code 3 = .ok (.if_icmp .ne 5, 3) := by decide +kernel
theorem d_Reader_channelOf_6 : decode prog_8_method_12_code 6 = .ok (.iconst 4, 1) := by decide +kernel
theorem d_Reader_channelOf_7 : decode prog_8_method_12_code 7 = .ok (.ireturn, 1) := by decide +kernel
theorem d_Reader_channelOf_8 : decode prog_8_method_12_code 8 = .ok (.iload_n 0, 1) := by decide +kernel
theorem d_Reader_channelOf_9 : decode prog_8_method_12_code 9 = .ok (.bipush 79, 2) := by decide +kernel
theorem d_Reader_channelOf_11 : decode prog_8_method_12_code 11 = .ok (.if_icmp .ne 5, 3) := by decide +kernel
theorem d_Reader_channelOf_14 : decode prog_8_method_12_code 14 = .ok (.iconst 5, 1) := by decide +kernel
theorem d_Reader_channelOf_15 : decode prog_8_method_12_code 15 = .ok (.ireturn, 1) := by decide +kernel
theorem d_Reader_channelOf_16 : decode prog_8_method_12_code 16 = .ok (.iload_n 0, 1) := by decide +kernel
theorem d_Reader_channelOf_17 : decode prog_8_method_12_code 17 = .ok (.bipush 65, 2) := by decide +kernel
theorem d_Reader_channelOf_19 : decode prog_8_method_12_code 19 = .ok (.if_icmp .lt 16, 3) := by decide +kernel
theorem d_Reader_channelOf_22 : decode prog_8_method_12_code 22 = .ok (.iload_n 0, 1) := by decide +kernel
theorem d_Reader_channelOf_23 : decode prog_8_method_12_code 23 = .ok (.bipush 68, 2) := by decide +kernel
theorem d_Reader_channelOf_25 : decode prog_8_method_12_code 25 = .ok (.if_icmp .gt 10, 3) := by decide +kernel
theorem d_Reader_channelOf_28 : decode prog_8_method_12_code 28 = .ok (.iload_n 0, 1) := by decide +kernel
theorem d_Reader_channelOf_29 : decode prog_8_method_12_code 29 = .ok (.bipush 65, 2) := by decide +kernel
theorem d_Reader_channelOf_31 : decode prog_8_method_12_code 31 = .ok (.isub, 1) := by decide +kernel
theorem d_Reader_channelOf_32 : decode prog_8_method_12_code 32 = .ok (.goto 4, 3) := by decide +kernel
theorem d_Reader_channelOf_35 : decode prog_8_method_12_code 35 = .ok (.iconst (-1), 1) := by decide +kernel
theorem d_Reader_channelOf_36 : decode prog_8_method_12_code 36 = .ok (.ireturn, 1) := by decide +kernel
theorem d_Reader_isJoining_0 : decode prog_8_method_27_code 0 = .ok (.iload_n 1, 1) := by decide +kernel
theorem d_Reader_isJoining_1 : decode prog_8_method_27_code 1 = .ok (.tableswitch 87 0 2 #[27, 45, 63], 27) := by decide +kernel
theorem d_Reader_isJoining_28 : decode prog_8_method_27_code 28 = .ok (.iload_n 0, 1) := by decide +kernel
theorem d_Reader_isJoining_29 : decode prog_8_method_27_code 29 = .ok (.bipush 60, 2) := by decide +kernel
theorem d_Reader_isJoining_31 : decode prog_8_method_27_code 31 = .ok (.if_icmp .eq 9, 3) := by decide +kernel
theorem d_Reader_isJoining_34 : decode prog_8_method_27_code 34 = .ok (.iload_n 0, 1) := by decide +kernel
theorem d_Reader_isJoining_35 : decode prog_8_method_27_code 35 = .ok (.bipush 61, 2) := by decide +kernel
theorem d_Reader_isJoining_37 : decode prog_8_method_27_code 37 = .ok (.if_icmp .ne 7, 3) := by decide +kernel
theorem d_Reader_isJoining_40 : decode prog_8_method_27_code 40 = .ok (.iconst 1, 1) := by decide +kernel
theorem d_Reader_isJoining_41 : decode prog_8_method_27_code 41 = .ok (.goto 4, 3) := by decide +kernel
theorem d_Reader_isJoining_44 : decode prog_8_method_27_code 44 = .ok (.iconst 0, 1) := by decide +kernel
theorem d_Reader_isJoining_45 : decode prog_8_method_27_code 45 = .ok (.ireturn, 1) := by decide +kernel
theorem d_Reader_isJoining_46 : decode prog_8_method_27_code 46 = .ok (.iload_n 0, 1) := by decide +kernel
theorem d_Reader_isJoining_47 : decode prog_8_method_27_code 47 = .ok (.bipush 43, 2) := by decide +kernel
theorem d_Reader_isJoining_49 : decode prog_8_method_27_code 49 = .ok (.if_icmp .eq 9, 3) := by decide +kernel
theorem d_Reader_isJoining_52 : decode prog_8_method_27_code 52 = .ok (.iload_n 0, 1) := by decide +kernel
theorem d_Reader_isJoining_53 : decode prog_8_method_27_code 53 = .ok (.bipush 45, 2) := by decide +kernel
theorem d_Reader_isJoining_55 : decode prog_8_method_27_code 55 = .ok (.if_icmp .ne 7, 3) := by decide +kernel
theorem d_Reader_isJoining_58 : decode prog_8_method_27_code 58 = .ok (.iconst 1, 1) := by decide +kernel
theorem d_Reader_isJoining_59 : decode prog_8_method_27_code 59 = .ok (.goto 4, 3) := by decide +kernel
theorem d_Reader_isJoining_62 : decode prog_8_method_27_code 62 = .ok (.iconst 0, 1) := by decide +kernel
theorem d_Reader_isJoining_63 : decode prog_8_method_27_code 63 = .ok (.ireturn, 1) := by decide +kernel
theorem d_Reader_isJoining_64 : decode prog_8_method_27_code 64 = .ok (.iload_n 0, 1) := by decide +kernel
theorem d_Reader_isJoining_65 : decode prog_8_method_27_code 65 = .ok (.bipush 42, 2) := by decide +kernel
theorem d_Reader_isJoining_67 : decode prog_8_method_27_code 67 = .ok (.if_icmp .eq 15, 3) := by decide +kernel
theorem d_Reader_isJoining_70 : decode prog_8_method_27_code 70 = .ok (.iload_n 0, 1) := by decide +kernel
theorem d_Reader_isJoining_71 : decode prog_8_method_27_code 71 = .ok (.bipush 47, 2) := by decide +kernel
theorem d_Reader_isJoining_73 : decode prog_8_method_27_code 73 = .ok (.if_icmp .eq 9, 3) := by decide +kernel
theorem d_Reader_isJoining_76 : decode prog_8_method_27_code 76 = .ok (.iload_n 0, 1) := by decide +kernel
theorem d_Reader_isJoining_77 : decode prog_8_method_27_code 77 = .ok (.bipush 37, 2) := by decide +kernel
theorem d_Reader_isJoining_79 : decode prog_8_method_27_code 79 = .ok (.if_icmp .ne 7, 3) := by decide +kernel
theorem d_Reader_isJoining_82 : decode prog_8_method_27_code 82 = .ok (.iconst 1, 1) := by decide +kernel
theorem d_Reader_isJoining_83 : decode prog_8_method_27_code 83 = .ok (.goto 4, 3) := by decide +kernel
theorem d_Reader_isJoining_86 : decode prog_8_method_27_code 86 = .ok (.iconst 0, 1) := by decide +kernel
theorem d_Reader_isJoining_87 : decode prog_8_method_27_code 87 = .ok (.ireturn, 1) := by decide +kernel
theorem d_Reader_isJoining_88 : decode prog_8_method_27_code 88 = .ok (.iconst 0, 1) := by decide +kernel
theorem d_Reader_isJoining_89 : decode prog_8_method_27_code 89 = .ok (.ireturn, 1) := by decide +kernel
theorem d_Reader_write_0 : decode prog_8_method_26_code 0 = .ok (.aload_n 0, 1) := by decide +kernel
theorem d_Reader_write_1 : decode prog_8_method_26_code 1 = .ok (.getfield 23, 3) := by decide +kernel
theorem d_Reader_write_4 : decode prog_8_method_26_code 4 = .ok (.bipush 72, 2) := by decide +kernel
theorem d_Reader_write_6 : decode prog_8_method_26_code 6 = .ok (.if_icmp .ge 23, 3) := by decide +kernel
theorem d_Reader_write_9 : decode prog_8_method_26_code 9 = .ok (.aload_n 0, 1) := by decide +kernel
theorem d_Reader_write_10 : decode prog_8_method_26_code 10 = .ok (.getfield 15, 3) := by decide +kernel
theorem d_Reader_write_13 : decode prog_8_method_26_code 13 = .ok (.aload_n 0, 1) := by decide +kernel
theorem d_Reader_write_14 : decode prog_8_method_26_code 14 = .ok (.getfield 23, 3) := by decide +kernel
theorem d_Reader_write_17 : decode prog_8_method_26_code 17 = .ok (.iload_n 1, 1) := by decide +kernel
theorem d_Reader_write_18 : decode prog_8_method_26_code 18 = .ok (.iastore, 1) := by decide +kernel
theorem d_Reader_write_19 : decode prog_8_method_26_code 19 = .ok (.aload_n 0, 1) := by decide +kernel
theorem d_Reader_write_20 : decode prog_8_method_26_code 20 = .ok (.dup, 1) := by decide +kernel
theorem d_Reader_write_21 : decode prog_8_method_26_code 21 = .ok (.getfield 23, 3) := by decide +kernel
theorem d_Reader_write_24 : decode prog_8_method_26_code 24 = .ok (.iconst 1, 1) := by decide +kernel
theorem d_Reader_write_25 : decode prog_8_method_26_code 25 = .ok (.iadd, 1) := by decide +kernel
theorem d_Reader_write_26 : decode prog_8_method_26_code 26 = .ok (.putfield 23, 3) := by decide +kernel
theorem d_Reader_write_29 : decode prog_8_method_26_code 29 = .ok (.return_, 1) := by decide +kernel
def y_chr (v : Int32) : Int32 := v.toUInt32.toUInt16.toUInt32.toInt32
def y_lk (A : Nat → Nat → Int32) (lm aa : Nat) : Int32 := if aa < lm then y_chr (A 2 aa) else 0
theorem y_lk_lt {A : Nat → Nat → Int32} {lm aa : Nat} (h : y_lk A lm aa ≠ 0) : aa < lm := by
  by_cases e : aa < lm
  · exact e
  · exact absurd (if_neg e) h
theorem y_lk_lo {A : Nat → Nat → Int32} {lm aa : Nat} {k : Int32} (h : ¬ y_lk A lm aa < k) (hk : (0 : Int32) < k) : aa < lm := y_lk_lt (fun e => h (by rw [e]; exact hk))
/-- the Reader: length, codeLength, limit, at -/
def y_RD (I : Nat → Int32) (A : Nat → Nat → Int32) (n : Nat × Nat × Nat × Nat) : Prop := (I 1 = Int32.ofNat n.1 ∧ (∃ c : Nat, c ≤ 72 ∧ I 2 = Int32.ofNat c ∧ (n.2.1 = c ∨ n.2.1 = 73)) ∧ I 3 = Int32.ofNat n.2.2.1 ∧ I 4 = Int32.ofNat n.2.2.2) ∧ (n.1 ≤ 72 ∧ n.2.1 ≤ 73 ∧ n.2.2.1 ≤ n.1 ∧ n.2.2.2 ≤ n.2.2.1) ∧ ∀ i, i < n.2.1 → n.2.1 ≤ 72 → y_op (A 3 i)
section YRD
variable {I : Nat → Int32} {A : Nat → Nat → Int32} {ln cl lm aa k : Nat} {x : Int32}
theorem y_RD.c2 (h : y_RD I A (ln, cl, lm, aa)) (hc : cl ≤ 72) : I 2 = Int32.ofNat cl := by
  obtain ⟨c, h1, h2, h3⟩ := h.1.2.1
  dsimp only at h3
  rw [h2, show c = cl by omega]
theorem y_RD.at4 (h : y_RD I A (ln, cl, lm, aa)) (hk : k ≤ lm) : y_RD (upd I 4 (Int32.ofNat k)) A (ln, cl, lm, k) := ⟨⟨h.1.1, h.1.2.1, h.1.2.2.1, rfl⟩, ⟨h.2.1.1, h.2.1.2.1, h.2.1.2.2.1, hk⟩, h.2.2⟩
theorem y_RD.cl0 (h : y_RD I A (ln, cl, lm, aa)) : y_RD (upd I 2 (Int32.ofNat 0)) A (ln, 0, lm, aa) := ⟨⟨h.1.1, ⟨0, by decide, rfl, Or.inl rfl⟩, h.1.2.2.1, h.1.2.2.2⟩, ⟨h.2.1.1, Nat.zero_le _, h.2.1.2.2⟩, fun i hi => absurd hi (Nat.not_lt_zero i)⟩
theorem y_RD.lm3 (h : y_RD I A (ln, cl, lm, aa)) (h1 : aa ≤ k) (h2 : k ≤ ln) : y_RD (upd I 3 (Int32.ofNat k)) A (ln, cl, k, aa) := ⟨⟨h.1.1, h.1.2.1, rfl, h.1.2.2.2⟩, ⟨h.2.1.1, h.2.1.2.1, h2, h1⟩, h.2.2⟩
theorem y_RD.p5 (h : y_RD I A (ln, cl, lm, aa)) : y_RD (upd I 5 x) A (ln, cl, lm, aa) := h
theorem y_RD.p6 (h : y_RD I A (ln, cl, lm, aa)) : y_RD (upd I 6 x) A (ln, cl, lm, aa) := h
theorem y_RD.wr (h : y_RD I A (ln, cl, lm, aa)) (hx : y_op x) (hc : cl < 72) : y_RD (upd I 2 (Int32.ofNat (cl + 1))) (m_up A 3 (upd (A 3) cl x)) (ln, cl + 1, lm, aa) := by
  refine ⟨⟨h.1.1, ⟨cl + 1, hc, rfl, Or.inl rfl⟩, h.1.2.2.1, h.1.2.2.2⟩, ⟨h.2.1.1, Nat.le_succ_of_le hc, h.2.1.2.2⟩, fun i hi _ => ?_⟩
  show y_op (m_up A 3 (upd (A 3) cl x) 3 i)
  rw [m_up_s]
  by_cases e : i = cl
  · subst e; rw [show upd (A 3) i x i = x from if_pos rfl]; exact hx
  · rw [show upd (A 3) cl x i = A 3 i from if_neg e]
    have hi' : i < cl + 1 := hi
    exact h.2.2 i (by show i < cl; omega) (by show cl ≤ 72; omega)
end YRD
theorem y_rg {d : Int32} {lo hi : Nat} (h1 : ¬ d < Int32.ofNat lo) (h2 : ¬ Int32.ofNat hi < d) (hh : hi < 2147483648) (hl : lo < 2147483648) : ∃ e : Nat, lo ≤ e ∧ e ≤ hi ∧ d = Int32.ofNat e := by
  rw [x_lt, x_nI hl] at h1
  rw [x_lt, x_nI hh] at h2
  refine ⟨d.toInt.toNat, by omega, by omega, ?_⟩
  apply Int32.toInt_inj.mp
  rw [x_nI (by omega)]
  omega
section YCR
variable {p : Program} {l : Launch} {e : Env} {R : Room} {s : State} {m : MethodId} {args : Array Value} {below : List Frame} {meth : Method} {c : Code} {H : Heap} {locs : List Loc} {cells slots : Nat}
/-- a char is answered: the low sixteen bits -/
theorem y_cret {cc : ByteArray} {Qc : Array Value → State → Outcome → State → Prop} {free : Addr → Prop} {v : Int32} (hexec : p.tables.exec = Jvm.exec) (hb : c.code = cc) (hr : meth.sig.returnType = some .char)
    (hq : ∀ t : State, t.heap = H → s.WarmedH t.vm → Qc args s (.returned (some (.int (y_chr v)))) t) (hf : ∀ q ∈ locs, free q.base)
    {pc : Nat} {ls : Array Slot} (hdg : decode cc pc = .ok (.ireturn, 1)) (hlocks : meth.locks = false) : W p l e R s m args below meth c H locs cells slots (MQ below Qc args s cells slots free) (F0 m pc ls [.int v]) := by
  intro T hT X
  have hn : narrow .char (.int v) = .int (y_chr v) := rfl
  obtain ⟨fs, hret, hrun, hended, hW, hframe⟩ := X.leave (v := some (.int (y_chr v))) (fun h => by rw [hr] at h; cases h)
  have hmeth' : T.vm.method? m = some meth := X.method'
  refine ⟨T.setFrames fs, ?_, .returned (some (.int (y_chr v))), hrun, hended, hq _ hT hW, locs, ⟨⟨_, rfl⟩, hW, hframe⟩, hf⟩
  jvm_step X.here [X.here.top, hexec, hb, hdg, hmeth', hr, hn]
  (try refine ⟨rfl, ?_⟩); (try refine ⟨rfl, ?_⟩)
  first | (intro acts; rw [hret _ acts rfl rfl rfl]) | rw [hret _ _ rfl rfl rfl]
  exact Steps.refl _
end YCR
set_option maxHeartbeats 4000000 in
set_option maxRecDepth 100000 in
theorem c_Rd_look (l : Launch) (dC : Nat → ClassId) (dI : Nat → Nat → Nat) (ar : Nat → ClassId) (N0 : Nat) (z : Nat → Nat) (ad : Nat → Nat) (I : Nat → Int32) (T : Int64) (A : Nat → Nat → Int32) (O : Nat → Option Nat) (pl : va_W) (ln cl lm aa : Nat) (sz w0 : Nat) (hmi : y_RD I A (ln, cl, lm, aa))  : Met l ({ cls := "ChannelMachine$Reader", name := "look", desc := "()C" } : Jvm.MethodName) ((Jvm.Cond.code ({ cls := "ChannelMachine$Reader", name := "look", desc := "()C" } : Jvm.MethodName) prog_8_method_5_code (1 : Nat) (Option.some Jvm.ClassFile.FieldType.char)) :: x_T) ({ frames := 0, cells := 0, slots := 0, locals := 0 }) (y_Pc (dC, dI) ar N0 z (y_W ad ar I T A O pl) sz w0 [.ref (ad 1)]) (va_Qi (fun (r : Int32) (u : (Nat → Int32) × Int64 × (Nat → Nat → Int32) × (Nat → Option Nat) × va_W × (Nat × Nat × Nat × Nat)) => u = (I, T, A, O, pl, ln, cl, lm, aa) ∧ r = y_lk A lm aa) (fun u t => va_P (dC, dI) y_cl (y_W ad ar u.1 u.2.1 u.2.2.1 u.2.2.2.1 u.2.2.2.2.1) t.heap ∧ va_D (va_A (y_W ad ar I T A O pl) sz) (y_W ad ar u.1 u.2.1 u.2.2.1 u.2.2.2.1 u.2.2.2.2.1) ∧ True) (va_A (y_W ad ar I T A O pl) sz)) (0) (0) (va_A (y_W ad ar I T A O pl) sz) := by
  refine Met.ofW (cc := prog_8_method_5_code) (maxL := 1) (ret := (some .char)) (by decide) rfl ?_
  intro p e s m args below meth c s₁ B hml hv
  obtain ⟨rfl, hsz, hN0, hP, hU, hZ, hD0, hw0⟩ := hv
  have hK := hU.2.1
  have hx := B.exec
  have hb := B.bytes
  have hr := B.returns
  have hts : ∀ w ∈ x_T, w.before ([.ref (ad 1)] : List Value).toArray s = true := fun w h => atoms_spec (ws := (Jvm.Cond.code ({ cls := "ChannelMachine$Reader", name := "look", desc := "()C" } : Jvm.MethodName) prog_8_method_5_code (1 : Nat) (Option.some Jvm.ClassFile.FieldType.char)) :: x_T) B.pre w (List.mem_cons_of_mem _ h)
  have hown : s.vm.findClass "ChannelMachine$Reader" = some m.cls := findClass_of_methodNamed B.named
  have hlocks := B.notSynchronized
  subst hsz
  subst hw0
  have hD := hD0.self (sz := s.heap.size)
  have hAN := x_AN hD0 hN0
  generalize hAe : va_A (y_W ad ar I T A O pl) s.heap.size = Bq at hD hAN ⊢
  have hA : ∀ q : Nat, s.heap.size ≤ q → Bq q := fun q h => by rw [← hAe]; exact Or.inr h
  have hS : va_S Bq s.heap s.heap [] := va_S.rf
  have hl := lv_entry ([.ref (ad 1)]) (n := 1) (Nat.le_of_ble_eq_true rfl)
  rw [lg_entry_eq]
  generalize (lg_sl ([.ref (ad 1)]) ++ List.replicate (1 - (lg_sl ([.ref (ad 1)])).length) Slot.unset).toArray = ls at hl ⊢
  have hl : lv_has ls 1 [(0, .ref (ad 1))] := hl
  have hbn := hmi.2.1
  dsimp only at hbn
  refine lv_aload_n hx hb d_Reader_look_0 rfl (lv_at hl 0 rfl) ?_
  refine k_g (C := "ChannelMachine$Reader") (F := F_Reader) (N := 9) hx hb hts i_Reader hown hK hP 1 5 (by decide) (by decide) rfl (by decide) (d := (1, 4)) rfl (hts _ k_49) (fun _ h9 => h9) (v := .int (Int32.ofNat aa)) (congrArg Value.int hmi.1.2.2.2) d_Reader_look_1 ?_
  refine lv_aload_n hx hb d_Reader_look_4 rfl (lv_at hl 0 rfl) ?_
  refine k_g (C := "ChannelMachine$Reader") (F := F_Reader) (N := 9) hx hb hts i_Reader hown hK hP 1 4 (by decide) (by decide) rfl (by decide) (d := (1, 3)) rfl (hts _ k_48) (fun _ h9 => h9) (v := .int (Int32.ofNat lm)) (congrArg Value.int hmi.1.2.2.1) d_Reader_look_5 ?_
  refine lv_icmp_ge (tgt := 32) hx hb d_Reader_look_8 (by decide) (fun c_1 => ?_) (fun c_1 => ?_)
  · have c_1 : lm ≤ aa := (x_leN (a := lm) (b := aa) (by omega) (by omega)).mp c_1
    refine lv_iconst (v := 0) hx hb d_Reader_look_32 (by decide) ?_
    refine W.widen (k := 0) (n := 0) (by omega) (by omega) ?_
    exact y_cret (v := 0) hx hb hr (fun t ht hW => ⟨⟨y_chr 0, (I, T, A, O, pl, (ln, cl, lm, aa)), rfl, ⟨rfl, by unfold y_lk; rw [if_neg (by omega)]; decide⟩, (by dsimp only; rw [ht]; exact ⟨hP, hD, trivial⟩)⟩, hS.F ht⟩) hS.2.2 d_Reader_look_33 hlocks
  · have c_1 : ¬ lm ≤ aa := fun h9 => c_1 ((x_leN (a := lm) (b := aa) (by omega) (by omega)).mpr h9)
    refine lv_aload_n hx hb d_Reader_look_11 rfl (lv_at hl 0 rfl) ?_
    refine k_g (C := "ChannelMachine$Reader") (F := F_Reader) (N := 9) hx hb hts i_Reader hown hK hP 1 5 (by decide) (by decide) rfl (by decide) (d := (1, 4)) rfl (hts _ k_49) (fun _ h9 => h9) (v := .int (Int32.ofNat aa)) (congrArg Value.int hmi.1.2.2.2) d_Reader_look_12 ?_
    refine lv_bipush (v := 72) hx hb d_Reader_look_15 (by decide) ?_
    refine lv_icmp_ge (tgt := 32) hx hb d_Reader_look_17 (by decide) (fun c_2 => ?_) (fun c_2 => ?_)
    · have c_2 : 72 ≤ aa := (x_leN (a := 72) (b := aa) (by omega) (by omega)).mp c_2
      refine lv_iconst (v := 0) hx hb d_Reader_look_32 (by decide) ?_
      refine W.widen (k := 0) (n := 0) (by omega) (by omega) ?_
      exact y_cret (v := 0) hx hb hr (fun t ht hW => ⟨⟨y_chr 0, (I, T, A, O, pl, (ln, cl, lm, aa)), rfl, ⟨rfl, by unfold y_lk; rw [if_neg (by omega)]; decide⟩, (by dsimp only; rw [ht]; exact ⟨hP, hD, trivial⟩)⟩, hS.F ht⟩) hS.2.2 d_Reader_look_33 hlocks
    · have c_2 : ¬ 72 ≤ aa := fun h9 => c_2 ((x_leN (a := 72) (b := aa) (by omega) (by omega)).mpr h9)
      refine lv_aload_n hx hb d_Reader_look_20 rfl (lv_at hl 0 rfl) ?_
      refine k_g (C := "ChannelMachine$Reader") (F := F_Reader) (N := 9) hx hb hts i_Reader hown hK hP 1 0 (by decide) (by decide) rfl (by decide) (d := (0, 2)) rfl (hts _ k_43) (fun _ h9 => h9) (v := .ref (ad 2)) rfl d_Reader_look_21 ?_
      refine lv_aload_n hx hb d_Reader_look_24 rfl (lv_at hl 0 rfl) ?_
      refine k_g (C := "ChannelMachine$Reader") (F := F_Reader) (N := 9) hx hb hts i_Reader hown hK hP 1 5 (by decide) (by decide) rfl (by decide) (d := (1, 4)) rfl (hts _ k_49) (fun _ h9 => h9) (v := .int (Int32.ofNat aa)) (congrArg Value.int hmi.1.2.2.2) d_Reader_look_25 ?_
      refine k_cld hx hb hK hP (j := (Int32.ofNat aa)) (x_inN (show aa < 72 from by omega) (by decide)) d_Reader_look_28 ?_
      refine W.eq (g2 := F0 m 29 ls [.int (A 2 (aa))]) (by rw [x_nat (a := aa) (by omega)]) ?_
      refine lv_goto (tgt := 33) hx hb d_Reader_look_29 (by decide) ?_
      refine W.widen (k := 0) (n := 0) (by omega) (by omega) ?_
      exact y_cret (v := (A 2 (aa))) hx hb hr (fun t ht hW => ⟨⟨y_chr ((A 2 (aa))), (I, T, A, O, pl, (ln, cl, lm, aa)), rfl, ⟨rfl, by unfold y_lk; rw [if_pos (by omega)]⟩, (by dsimp only; rw [ht]; exact ⟨hP, hD, trivial⟩)⟩, hS.F ht⟩) hS.2.2 d_Reader_look_33 hlocks
set_option maxHeartbeats 4000000 in
set_option maxRecDepth 100000 in
theorem c_Rd_look2 (l : Launch) (dC : Nat → ClassId) (dI : Nat → Nat → Nat) (ar : Nat → ClassId) (N0 : Nat) (z : Nat → Nat) (ad : Nat → Nat) (I : Nat → Int32) (T : Int64) (A : Nat → Nat → Int32) (O : Nat → Option Nat) (pl : va_W) (ln cl lm aa : Nat) (sz w0 : Nat) (hmi : y_RD I A (ln, cl, lm, aa))  : Met l ({ cls := "ChannelMachine$Reader", name := "lookBehindNext", desc := "()C" } : Jvm.MethodName) ((Jvm.Cond.code ({ cls := "ChannelMachine$Reader", name := "lookBehindNext", desc := "()C" } : Jvm.MethodName) prog_8_method_6_code (1 : Nat) (Option.some Jvm.ClassFile.FieldType.char)) :: x_T) ({ frames := 0, cells := 0, slots := 0, locals := 0 }) (y_Pc (dC, dI) ar N0 z (y_W ad ar I T A O pl) sz w0 [.ref (ad 1)]) (va_Qi (fun (r : Int32) (u : (Nat → Int32) × Int64 × (Nat → Nat → Int32) × (Nat → Option Nat) × va_W × (Nat × Nat × Nat × Nat)) => u = (I, T, A, O, pl, ln, cl, lm, aa)) (fun u t => va_P (dC, dI) y_cl (y_W ad ar u.1 u.2.1 u.2.2.1 u.2.2.2.1 u.2.2.2.2.1) t.heap ∧ va_D (va_A (y_W ad ar I T A O pl) sz) (y_W ad ar u.1 u.2.1 u.2.2.1 u.2.2.2.1 u.2.2.2.2.1) ∧ True) (va_A (y_W ad ar I T A O pl) sz)) (0) (0) (va_A (y_W ad ar I T A O pl) sz) := by
  refine Met.ofW (cc := prog_8_method_6_code) (maxL := 1) (ret := (some .char)) (by decide) rfl ?_
  intro p e s m args below meth c s₁ B hml hv
  obtain ⟨rfl, hsz, hN0, hP, hU, hZ, hD0, hw0⟩ := hv
  have hK := hU.2.1
  have hx := B.exec
  have hb := B.bytes
  have hr := B.returns
  have hts : ∀ w ∈ x_T, w.before ([.ref (ad 1)] : List Value).toArray s = true := fun w h => atoms_spec (ws := (Jvm.Cond.code ({ cls := "ChannelMachine$Reader", name := "lookBehindNext", desc := "()C" } : Jvm.MethodName) prog_8_method_6_code (1 : Nat) (Option.some Jvm.ClassFile.FieldType.char)) :: x_T) B.pre w (List.mem_cons_of_mem _ h)
  have hown : s.vm.findClass "ChannelMachine$Reader" = some m.cls := findClass_of_methodNamed B.named
  have hlocks := B.notSynchronized
  subst hsz
  subst hw0
  have hD := hD0.self (sz := s.heap.size)
  have hAN := x_AN hD0 hN0
  generalize hAe : va_A (y_W ad ar I T A O pl) s.heap.size = Bq at hD hAN ⊢
  have hA : ∀ q : Nat, s.heap.size ≤ q → Bq q := fun q h => by rw [← hAe]; exact Or.inr h
  have hS : va_S Bq s.heap s.heap [] := va_S.rf
  have hl := lv_entry ([.ref (ad 1)]) (n := 1) (Nat.le_of_ble_eq_true rfl)
  rw [lg_entry_eq]
  generalize (lg_sl ([.ref (ad 1)]) ++ List.replicate (1 - (lg_sl ([.ref (ad 1)])).length) Slot.unset).toArray = ls at hl ⊢
  have hl : lv_has ls 1 [(0, .ref (ad 1))] := hl
  have hbn := hmi.2.1
  dsimp only at hbn
  refine lv_aload_n hx hb d_Reader_lookBehindNext_0 rfl (lv_at hl 0 rfl) ?_
  refine k_g (C := "ChannelMachine$Reader") (F := F_Reader) (N := 9) hx hb hts i_Reader hown hK hP 1 5 (by decide) (by decide) rfl (by decide) (d := (1, 4)) rfl (hts _ k_49) (fun _ h9 => h9) (v := .int (Int32.ofNat aa)) (congrArg Value.int hmi.1.2.2.2) d_Reader_lookBehindNext_1 ?_
  refine lv_iconst (v := 1) hx hb d_Reader_lookBehindNext_4 (by decide) ?_
  refine lv_iadd hx hb d_Reader_lookBehindNext_5 ?_
  refine W.eq (g2 := F0 m 6 ls [.int (Int32.ofNat (aa + 1))]) (by rw [← x_addN (a := aa) (b := 1)] <;> rfl) ?_
  refine lv_aload_n hx hb d_Reader_lookBehindNext_6 rfl (lv_at hl 0 rfl) ?_
  refine k_g (C := "ChannelMachine$Reader") (F := F_Reader) (N := 9) hx hb hts i_Reader hown hK hP 1 4 (by decide) (by decide) rfl (by decide) (d := (1, 3)) rfl (hts _ k_48) (fun _ h9 => h9) (v := .int (Int32.ofNat lm)) (congrArg Value.int hmi.1.2.2.1) d_Reader_lookBehindNext_7 ?_
  refine lv_icmp_ge (tgt := 38) hx hb d_Reader_lookBehindNext_10 (by decide) (fun c_1 => ?_) (fun c_1 => ?_)
  · have c_1 : lm ≤ (aa + 1) := (x_leN (a := lm) (b := (aa + 1)) (by omega) (by omega)).mp c_1
    refine lv_iconst (v := 0) hx hb d_Reader_lookBehindNext_38 (by decide) ?_
    refine W.widen (k := 0) (n := 0) (by omega) (by omega) ?_
    exact y_cret (v := 0) hx hb hr (fun t ht hW => ⟨⟨y_chr 0, (I, T, A, O, pl, (ln, cl, lm, aa)), rfl, rfl, (by dsimp only; rw [ht]; exact ⟨hP, hD, trivial⟩)⟩, hS.F ht⟩) hS.2.2 d_Reader_lookBehindNext_39 hlocks
  · have c_1 : ¬ lm ≤ (aa + 1) := fun h9 => c_1 ((x_leN (a := lm) (b := (aa + 1)) (by omega) (by omega)).mpr h9)
    refine lv_aload_n hx hb d_Reader_lookBehindNext_13 rfl (lv_at hl 0 rfl) ?_
    refine k_g (C := "ChannelMachine$Reader") (F := F_Reader) (N := 9) hx hb hts i_Reader hown hK hP 1 5 (by decide) (by decide) rfl (by decide) (d := (1, 4)) rfl (hts _ k_49) (fun _ h9 => h9) (v := .int (Int32.ofNat aa)) (congrArg Value.int hmi.1.2.2.2) d_Reader_lookBehindNext_14 ?_
    refine lv_iconst (v := 1) hx hb d_Reader_lookBehindNext_17 (by decide) ?_
    refine lv_iadd hx hb d_Reader_lookBehindNext_18 ?_
    refine W.eq (g2 := F0 m 19 ls [.int (Int32.ofNat (aa + 1))]) (by rw [← x_addN (a := aa) (b := 1)] <;> rfl) ?_
    refine lv_bipush (v := 72) hx hb d_Reader_lookBehindNext_19 (by decide) ?_
    refine lv_icmp_ge (tgt := 38) hx hb d_Reader_lookBehindNext_21 (by decide) (fun c_2 => ?_) (fun c_2 => ?_)
    · have c_2 : 72 ≤ (aa + 1) := (x_leN (a := 72) (b := (aa + 1)) (by omega) (by omega)).mp c_2
      refine lv_iconst (v := 0) hx hb d_Reader_lookBehindNext_38 (by decide) ?_
      refine W.widen (k := 0) (n := 0) (by omega) (by omega) ?_
      exact y_cret (v := 0) hx hb hr (fun t ht hW => ⟨⟨y_chr 0, (I, T, A, O, pl, (ln, cl, lm, aa)), rfl, rfl, (by dsimp only; rw [ht]; exact ⟨hP, hD, trivial⟩)⟩, hS.F ht⟩) hS.2.2 d_Reader_lookBehindNext_39 hlocks
    · have c_2 : ¬ 72 ≤ (aa + 1) := fun h9 => c_2 ((x_leN (a := 72) (b := (aa + 1)) (by omega) (by omega)).mpr h9)
      refine lv_aload_n hx hb d_Reader_lookBehindNext_24 rfl (lv_at hl 0 rfl) ?_
      refine k_g (C := "ChannelMachine$Reader") (F := F_Reader) (N := 9) hx hb hts i_Reader hown hK hP 1 0 (by decide) (by decide) rfl (by decide) (d := (0, 2)) rfl (hts _ k_43) (fun _ h9 => h9) (v := .ref (ad 2)) rfl d_Reader_lookBehindNext_25 ?_
      refine lv_aload_n hx hb d_Reader_lookBehindNext_28 rfl (lv_at hl 0 rfl) ?_
      refine k_g (C := "ChannelMachine$Reader") (F := F_Reader) (N := 9) hx hb hts i_Reader hown hK hP 1 5 (by decide) (by decide) rfl (by decide) (d := (1, 4)) rfl (hts _ k_49) (fun _ h9 => h9) (v := .int (Int32.ofNat aa)) (congrArg Value.int hmi.1.2.2.2) d_Reader_lookBehindNext_29 ?_
      refine lv_iconst (v := 1) hx hb d_Reader_lookBehindNext_32 (by decide) ?_
      refine lv_iadd hx hb d_Reader_lookBehindNext_33 ?_
      refine W.eq (g2 := F0 m 34 ls [.int (Int32.ofNat (aa + 1)), .ref (ad 2)]) (by rw [← x_addN (a := aa) (b := 1)] <;> rfl) ?_
      refine k_cld hx hb hK hP (j := (Int32.ofNat (aa + 1))) (x_inN (show (aa + 1) < 72 from by omega) (by decide)) d_Reader_lookBehindNext_34 ?_
      refine W.eq (g2 := F0 m 35 ls [.int (A 2 ((aa + 1)))]) (by rw [x_nat (a := (aa + 1)) (by omega)]) ?_
      refine lv_goto (tgt := 39) hx hb d_Reader_lookBehindNext_35 (by decide) ?_
      refine W.widen (k := 0) (n := 0) (by omega) (by omega) ?_
      exact y_cret (v := (A 2 ((aa + 1)))) hx hb hr (fun t ht hW => ⟨⟨y_chr ((A 2 ((aa + 1)))), (I, T, A, O, pl, (ln, cl, lm, aa)), rfl, rfl, (by dsimp only; rw [ht]; exact ⟨hP, hD, trivial⟩)⟩, hS.F ht⟩) hS.2.2 d_Reader_lookBehindNext_39 hlocks
set_option maxHeartbeats 4000000 in
set_option maxRecDepth 100000 in
theorem c_Rd_refuse (l : Launch) (dC : Nat → ClassId) (dI : Nat → Nat → Nat) (ar : Nat → ClassId) (N0 : Nat) (z : Nat → Nat) (ad : Nat → Nat) (I : Nat → Int32) (T : Int64) (A : Nat → Nat → Int32) (O : Nat → Option Nat) (pl : va_W) (ln cl lm aa : Nat) (sz w0 : Nat) (hmi : y_RD I A (ln, cl, lm, aa))  : Met l ({ cls := "ChannelMachine$Reader", name := "refuse", desc := "()Z" } : Jvm.MethodName) ((Jvm.Cond.code ({ cls := "ChannelMachine$Reader", name := "refuse", desc := "()Z" } : Jvm.MethodName) prog_8_method_7_code (1 : Nat) (Option.some Jvm.ClassFile.FieldType.boolean)) :: x_T) ({ frames := 1, cells := 0, slots := 0, locals := 15 }) (y_Pc (dC, dI) ar N0 z (y_W ad ar I T A O pl) sz w0 [.ref (ad 1)]) (va_Qi (fun (r : Int32) (u : (Nat → Int32) × Int64 × (Nat → Nat → Int32) × (Nat → Option Nat) × va_W × (Nat × Nat × Nat × Nat)) => y_RD u.1 u.2.2.1 u.2.2.2.2.2 ∧ u.2.1 = T ∧ u.2.2.2.1 = O ∧ u.2.2.2.2.1 = pl ∧ m_fr [5] I u.1 ∧ u.2.2.2.2.2.1 = ln ∧ u.2.2.2.2.2.2.2.1 = lm ∧ aa ≤ u.2.2.2.2.2.2.2.2 ∧ (u.2.2.2.2.2.2.1 ≤ 72 ∨ 72 < cl) ∧ r = 0) (fun u t => va_P (dC, dI) y_cl (y_W ad ar u.1 u.2.1 u.2.2.1 u.2.2.2.1 u.2.2.2.2.1) t.heap ∧ va_D (va_A (y_W ad ar I T A O pl) sz) (y_W ad ar u.1 u.2.1 u.2.2.1 u.2.2.2.1 u.2.2.2.2.1) ∧ True) (va_A (y_W ad ar I T A O pl) sz)) (0) (0) (va_A (y_W ad ar I T A O pl) sz) := by
  refine Met.ofW (cc := prog_8_method_7_code) (maxL := 1) (ret := (some .boolean)) (by decide) rfl ?_
  intro p e s m args below meth c s₁ B hml hv
  obtain ⟨rfl, hsz, hN0, hP, hU, hZ, hD0, hw0⟩ := hv
  have hK := hU.2.1
  have hx := B.exec
  have hb := B.bytes
  have hr := B.returns
  have hts : ∀ w ∈ x_T, w.before ([.ref (ad 1)] : List Value).toArray s = true := fun w h => atoms_spec (ws := (Jvm.Cond.code ({ cls := "ChannelMachine$Reader", name := "refuse", desc := "()Z" } : Jvm.MethodName) prog_8_method_7_code (1 : Nat) (Option.some Jvm.ClassFile.FieldType.boolean)) :: x_T) B.pre w (List.mem_cons_of_mem _ h)
  have hown : s.vm.findClass "ChannelMachine$Reader" = some m.cls := findClass_of_methodNamed B.named
  have hlocks := B.notSynchronized
  subst hsz
  subst hw0
  have hD := hD0.self (sz := s.heap.size)
  have hAN := x_AN hD0 hN0
  generalize hAe : va_A (y_W ad ar I T A O pl) s.heap.size = Bq at hD hAN ⊢
  have hA : ∀ q : Nat, s.heap.size ≤ q → Bq q := fun q h => by rw [← hAe]; exact Or.inr h
  have hS : va_S Bq s.heap s.heap [] := va_S.rf
  have hl := lv_entry ([.ref (ad 1)]) (n := 1) (Nat.le_of_ble_eq_true rfl)
  rw [lg_entry_eq]
  generalize (lg_sl ([.ref (ad 1)]) ++ List.replicate (1 - (lg_sl ([.ref (ad 1)])).length) Slot.unset).toArray = ls at hl ⊢
  have hl : lv_has ls 1 [(0, .ref (ad 1))] := hl
  have hbn := hmi.2.1
  dsimp only at hbn
  refine lv_aload_n hx hb d_Reader_refuse_0 rfl (lv_at hl 0 rfl) ?_
  refine lv_aload_n hx hb d_Reader_refuse_1 rfl (lv_at hl 0 rfl) ?_
  refine k_g (C := "ChannelMachine$Reader") (F := F_Reader) (N := 9) hx hb hts i_Reader hown hK hP 1 6 (by decide) (by decide) rfl (by decide) (d := (1, 5)) rfl (hts _ k_50) (fun _ h9 => h9) (v := .int (I 5)) rfl d_Reader_refuse_2 ?_
  refine lv_aload_n hx hb d_Reader_refuse_5 rfl (lv_at hl 0 rfl) ?_
  refine k_g (C := "ChannelMachine$Reader") (F := F_Reader) (N := 9) hx hb hts i_Reader hown hK hP 1 5 (by decide) (by decide) rfl (by decide) (d := (1, 4)) rfl (hts _ k_49) (fun _ h9 => h9) (v := .int (Int32.ofNat aa)) (congrArg Value.int hmi.1.2.2.2) d_Reader_refuse_6 ?_
  refine va_mmax hx hb (by rw [hml]; exact hl.1.symm) hown (hts _ k_481) (hts _ k_482) (hts _ k_19) (hts _ k_483) (Nat.le_of_ble_eq_true rfl) (Nat.le_of_ble_eq_true rfl) (by show 0 ≤ 0; omega) (by show 0 ≤ 0; omega) d_Reader_refuse_9 ?_
  refine k_pi (C := "ChannelMachine$Reader") (F := F_Reader) (N := 9) hx hb hts i_Reader hown t_Reader t_Reader_ok n_Reader hK hP hD hS 1 6 (by decide) (by decide) rfl (by decide) (j := 5) (x := (if (I 5) < (Int32.ofNat aa) then (Int32.ofNat aa) else (I 5))) rfl (hts _ k_50) (fun _ h9 => h9) rfl (by decide +kernel) d_Reader_refuse_12 (fun H locs hP hD hS => ?_)
  have hmi : y_RD (upd I 5 (if (I 5) < (Int32.ofNat aa) then (Int32.ofNat aa) else (I 5))) A (ln, cl, lm, aa) := hmi.p5
  have hbn := hmi.2.1
  dsimp only at hbn
  refine lv_iconst (v := 0) hx hb d_Reader_refuse_15 (by decide) ?_
  refine y_know (fun hy91 hy92 hy93 hy94 => ?_)
  have hac9 : True := trivial
  refine W.widen (k := 0) (n := 0) (by omega) (by omega) ?_
  exact W.zret (v := 0) hx hb hr (rfl) (fun t ht hW => ⟨⟨0, ((upd I 5 (if (I 5) < (Int32.ofNat aa) then (Int32.ofNat aa) else (I 5))), T, A, O, pl, (ln, cl, lm, aa)), rfl, ⟨hmi, rfl, rfl, rfl, (m_fr.rf.up (by decide) _), rfl, rfl, by dsimp only; omega, by dsimp only; omega, rfl⟩, (by dsimp only; rw [ht]; exact ⟨hP, hD, hac9⟩)⟩, hS.F ht⟩) hS.2.2 d_Reader_refuse_16
set_option maxHeartbeats 4000000 in
set_option maxRecDepth 100000 in
theorem c_Rd_expect (l : Launch) (dC : Nat → ClassId) (dI : Nat → Nat → Nat) (ar : Nat → ClassId) (N0 : Nat) (z : Nat → Nat) (ad : Nat → Nat) (I : Nat → Int32) (T : Int64) (A : Nat → Nat → Int32) (O : Nat → Option Nat) (pl : va_W) (ln cl lm aa : Nat) (dv : Int32) (sz w0 : Nat) (hmi : y_RD I A (ln, cl, lm, aa)) (hdv : dv ≠ 0) : Met l ({ cls := "ChannelMachine$Reader", name := "expect", desc := "(C)Z" } : Jvm.MethodName) ((Jvm.Cond.code ({ cls := "ChannelMachine$Reader", name := "expect", desc := "(C)Z" } : Jvm.MethodName) prog_8_method_8_code (2 : Nat) (Option.some Jvm.ClassFile.FieldType.boolean)) :: x_T) ({ frames := 2, cells := 0, slots := 0, locals := 35 }) (y_Pc (dC, dI) ar N0 z (y_W ad ar I T A O pl) sz w0 [.ref (ad 1), .int dv]) (va_Qi (fun (r : Int32) (u : (Nat → Int32) × Int64 × (Nat → Nat → Int32) × (Nat → Option Nat) × va_W × (Nat × Nat × Nat × Nat)) => y_RD u.1 u.2.2.1 u.2.2.2.2.2 ∧ u.2.1 = T ∧ u.2.2.2.1 = O ∧ u.2.2.2.2.1 = pl ∧ m_fr [4, 5] I u.1 ∧ u.2.2.2.2.2.1 = ln ∧ u.2.2.2.2.2.2.2.1 = lm ∧ aa ≤ u.2.2.2.2.2.2.2.2 ∧ (u.2.2.2.2.2.2.1 ≤ 72 ∨ 72 < cl) ∧ (r = 0 ∨ (r = 1 ∧ aa + 1 ≤ u.2.2.2.2.2.2.2.2))) (fun u t => va_P (dC, dI) y_cl (y_W ad ar u.1 u.2.1 u.2.2.1 u.2.2.2.1 u.2.2.2.2.1) t.heap ∧ va_D (va_A (y_W ad ar I T A O pl) sz) (y_W ad ar u.1 u.2.1 u.2.2.1 u.2.2.2.1 u.2.2.2.2.1) ∧ True) (va_A (y_W ad ar I T A O pl) sz)) (0) (0) (va_A (y_W ad ar I T A O pl) sz) := by
  refine Met.ofW (cc := prog_8_method_8_code) (maxL := 2) (ret := (some .boolean)) (by decide) rfl ?_
  intro p e s m args below meth c s₁ B hml hv
  obtain ⟨rfl, hsz, hN0, hP, hU, hZ, hD0, hw0⟩ := hv
  have hK := hU.2.1
  have hx := B.exec
  have hb := B.bytes
  have hr := B.returns
  have hts : ∀ w ∈ x_T, w.before ([.ref (ad 1), .int dv] : List Value).toArray s = true := fun w h => atoms_spec (ws := (Jvm.Cond.code ({ cls := "ChannelMachine$Reader", name := "expect", desc := "(C)Z" } : Jvm.MethodName) prog_8_method_8_code (2 : Nat) (Option.some Jvm.ClassFile.FieldType.boolean)) :: x_T) B.pre w (List.mem_cons_of_mem _ h)
  have hown : s.vm.findClass "ChannelMachine$Reader" = some m.cls := findClass_of_methodNamed B.named
  have hlocks := B.notSynchronized
  subst hsz
  subst hw0
  have hD := hD0.self (sz := s.heap.size)
  have hAN := x_AN hD0 hN0
  generalize hAe : va_A (y_W ad ar I T A O pl) s.heap.size = Bq at hD hAN ⊢
  have hA : ∀ q : Nat, s.heap.size ≤ q → Bq q := fun q h => by rw [← hAe]; exact Or.inr h
  have hS : va_S Bq s.heap s.heap [] := va_S.rf
  have hl := lv_entry ([.ref (ad 1), .int dv]) (n := 2) (Nat.le_of_ble_eq_true rfl)
  rw [lg_entry_eq]
  generalize (lg_sl ([.ref (ad 1), .int dv]) ++ List.replicate (2 - (lg_sl ([.ref (ad 1), .int dv])).length) Slot.unset).toArray = ls at hl ⊢
  have hl : lv_has ls 2 [(0, .ref (ad 1)), (1, .int dv)] := hl
  have hbn := hmi.2.1
  dsimp only at hbn
  refine lv_aload_n hx hb d_Reader_expect_0 rfl (lv_at hl 0 rfl) ?_
  have hFc := y_free hD hS hA
  refine va_calli (va_runV (As := []) (rest := []) ⟨hx, hb, hml, hown, hts⟩ (c_Rd_look l dC dI ar N0 z ad I T A O pl ln cl lm aa s.heap.size (y_hs s.heap) hmi) (cwV 0 hts (x_goodV k_338 k_340 kp_3 k_2 k_341) rfl rfl rfl (by decide +kernel) ⟨Nat.le_of_ble_eq_true rfl, Nat.le_of_ble_eq_true rfl⟩) ⟨y_blind, va_recv hK hP (ci := 3) (q0 := 1) rfl (y_W_ob (by decide) (by decide)), fun U9 hU9 hW9 => y_pre hU9 hW9 hP hD hU hZ hS hAN hN0⟩ rfl rfl hl.1 rfl (lv_room (Nat.le_of_ble_eq_true rfl)) d_Reader_expect_1 ⟨(by show 0 + (0) ≤ 0; omega), (by show 0 + (0) ≤ 0; omega)⟩) hS (fun q _ h => hFc q h) hFc (fun r_1 u t H1 locs ht hvm hw hB hz1 hk1 hS => ?_)
  obtain ⟨I2, T2, A2, O2, pl2, q2, s2, cq2, cs2⟩ := u
  dsimp only at hw hB
  rw [ht] at hB
  obtain ⟨hP, hD1, hac2⟩ := hB
  have hD : va_D Bq (y_W ad ar I2 T2 A2 O2 pl2) := hD1.weaken (fun _ q _ h => hFc q.1 h)
  generalize H1 = H at hP hS hac2 ⊢
  have hae2 := hac2
  try unfold y_ac at hae2
  try dsimp only at hae2
  refine W.widen (k := 0) (n := 0) (by omega) (by omega) ?_
  obtain ⟨h9, hw⟩ := hw
  cases h9
  obtain rfl := hw
  refine lv_iload_n hx hb d_Reader_expect_4 rfl (lv_at hl 1 rfl) ?_
  refine lv_icmp_eq (tgt := 13) hx hb d_Reader_expect_5 (by decide) (fun c3 => ?_) (fun c3 => ?_)
  · have hlt : aa < lm := y_lk_lt (by rw [c3]; exact hdv)
    refine lv_aload_n hx hb d_Reader_expect_13 rfl (lv_at hl 0 rfl) ?_
    refine lv_dup hx hb d_Reader_expect_14 rfl ?_
    refine k_g (C := "ChannelMachine$Reader") (F := F_Reader) (N := 9) hx hb hts i_Reader hown hK hP 1 5 (by decide) (by decide) rfl (by decide) (d := (1, 4)) rfl (hts _ k_49) (fun _ h9 => h9) (v := .int (Int32.ofNat aa)) (congrArg Value.int hmi.1.2.2.2) d_Reader_expect_15 ?_
    refine lv_iconst (v := 1) hx hb d_Reader_expect_18 (by decide) ?_
    refine lv_iadd hx hb d_Reader_expect_19 ?_
    refine W.eq (g2 := F0 m 20 ls [.int (Int32.ofNat (aa + 1)), .ref (ad 1)]) (by rw [← x_addN (a := aa) (b := 1)] <;> rfl) ?_
    refine k_pi (C := "ChannelMachine$Reader") (F := F_Reader) (N := 9) hx hb hts i_Reader hown t_Reader t_Reader_ok n_Reader hK hP hD hS 1 5 (by decide) (by decide) rfl (by decide) (j := 4) (x := (Int32.ofNat (aa + 1))) rfl (hts _ k_49) (fun _ h9 => h9) rfl (by decide +kernel) d_Reader_expect_20 (fun H locs hP hD hS => ?_)
    have hmi : y_RD (upd I 4 (Int32.ofNat (aa + 1))) A (ln, cl, lm, (aa + 1)) := hmi.at4 (by omega)
    have hbn := hmi.2.1
    dsimp only at hbn
    refine lv_iconst (v := 1) hx hb d_Reader_expect_23 (by decide) ?_
    refine y_know (fun hy91 hy92 hy93 hy94 => ?_)
    have hac9 : True := trivial
    refine W.widen (k := 0) (n := 0) (by omega) (by omega) ?_
    exact W.zret (v := 1) hx hb hr (rfl) (fun t ht hW => ⟨⟨1, ((upd I 4 (Int32.ofNat (aa + 1))), T, A, O, pl, (ln, cl, lm, (aa + 1))), rfl, ⟨hmi, rfl, rfl, rfl, (m_fr.rf.up (by decide) _), rfl, rfl, by dsimp only; omega, by dsimp only; omega, Or.inr ⟨rfl, by dsimp only; omega⟩⟩, (by dsimp only; rw [ht]; exact ⟨hP, hD, hac9⟩)⟩, hS.F ht⟩) hS.2.2 d_Reader_expect_24
  · refine lv_aload_n hx hb d_Reader_expect_8 rfl (lv_at hl 0 rfl) ?_
    have hFc := y_free hD hS hA
    refine va_calli (va_runV (As := []) (rest := []) ⟨hx, hb, hml, hown, hts⟩ (c_Rd_refuse l dC dI ar N0 z ad I T A O pl ln cl lm aa H.size (y_hs H) hmi) (cwV 0 hts (x_goodV k_477 k_479 kp_6 k_2 k_480) rfl rfl rfl (by decide +kernel) ⟨Nat.le_of_ble_eq_true rfl, Nat.le_of_ble_eq_true rfl⟩) ⟨y_blind, va_recv hK hP (ci := 3) (q0 := 1) rfl (y_W_ob (by decide) (by decide)), fun U9 hU9 hW9 => y_pre hU9 hW9 hP hD hU hZ hS hAN hN0⟩ rfl rfl hl.1 rfl (lv_room (Nat.le_of_ble_eq_true rfl)) d_Reader_expect_9 ⟨(by show 0 + (0) ≤ 0; omega), (by show 0 + (0) ≤ 0; omega)⟩) hS (fun q _ h => hFc q h) hFc (fun r_4 u t H1 locs ht hvm hw hB hz1 hk1 hS => ?_)
    obtain ⟨I5, T5, A5, O5, pl5, q5, s5, cq5, cs5⟩ := u
    dsimp only at hw hB
    rw [ht] at hB
    obtain ⟨hP, hD1, hac5⟩ := hB
    have hD : va_D Bq (y_W ad ar I5 T5 A5 O5 pl5) := hD1.weaken (fun _ q _ h => hFc q.1 h)
    generalize H1 = H at hP hS hac5 ⊢
    have hae5 := hac5
    try unfold y_ac at hae5
    try dsimp only at hae5
    refine W.widen (k := 0) (n := 0) (by omega) (by omega) ?_
    obtain ⟨hmi, e2, e4, e5, fr5, e6, e7, hge5, hcc5, hr9⟩ := hw
    rw [e2, e4, e5] at hP hD
    rw [e6, e7] at hmi
    have hP : va_P (dC, dI) y_cl (y_W ad ar I5 T A5 O pl) H := hP
    have hD : va_D Bq (y_W ad ar I5 T A5 O pl) := hD
    have hbn := hmi.2.1
    dsimp only at hbn
    obtain rfl := hr9
    refine y_know (fun hy91 hy92 hy93 hy94 => ?_)
    have hac9 : True := trivial
    refine W.widen (k := 0) (n := 0) (by omega) (by omega) ?_
    exact W.zret (v := 0) hx hb hr (rfl) (fun t ht hW => ⟨⟨0, (I5, T, A5, O, pl, (ln, s5, lm, cs5)), rfl, ⟨hmi, rfl, rfl, rfl, (m_fr.rf.tr fr5 (by decide)), rfl, rfl, by dsimp only; omega, by dsimp only; omega, Or.inl rfl⟩, (by dsimp only; rw [ht]; exact ⟨hP, hD, hac9⟩)⟩, hS.F ht⟩) hS.2.2 d_Reader_expect_12
set_option maxHeartbeats 4000000 in
set_option maxRecDepth 100000 in
theorem c_Rd_inputVariable (l : Launch) (dC : Nat → ClassId) (dI : Nat → Nat → Nat) (ar : Nat → ClassId) (N0 : Nat) (z : Nat → Nat) (ad : Nat → Nat) (I : Nat → Int32) (T : Int64) (A : Nat → Nat → Int32) (O : Nat → Option Nat) (pl : va_W) (ln cl lm aa : Nat) (sz w0 : Nat) (hmi : y_RD I A (ln, cl, lm, aa))  : Met l ({ cls := "ChannelMachine$Reader", name := "inputVariable", desc := "()I" } : Jvm.MethodName) ((Jvm.Cond.code ({ cls := "ChannelMachine$Reader", name := "inputVariable", desc := "()I" } : Jvm.MethodName) prog_8_method_9_code (2 : Nat) (Option.some Jvm.ClassFile.FieldType.int)) :: x_T) ({ frames := 3, cells := 0, slots := 0, locals := 56 }) (y_Pc (dC, dI) ar N0 z (y_W ad ar I T A O pl) sz w0 [.ref (ad 1)]) (va_Qi (fun (r : Int32) (u : (Nat → Int32) × Int64 × (Nat → Nat → Int32) × (Nat → Option Nat) × va_W × (Nat × Nat × Nat × Nat)) => y_RD u.1 u.2.2.1 u.2.2.2.2.2 ∧ u.2.1 = T ∧ u.2.2.2.1 = O ∧ u.2.2.2.2.1 = pl ∧ m_fr [4, 5] I u.1 ∧ u.2.2.2.2.2.1 = ln ∧ u.2.2.2.2.2.2.2.1 = lm ∧ aa ≤ u.2.2.2.2.2.2.2.2 ∧ (u.2.2.2.2.2.2.1 ≤ 72 ∨ 72 < cl)) (fun u t => va_P (dC, dI) y_cl (y_W ad ar u.1 u.2.1 u.2.2.1 u.2.2.2.1 u.2.2.2.2.1) t.heap ∧ va_D (va_A (y_W ad ar I T A O pl) sz) (y_W ad ar u.1 u.2.1 u.2.2.1 u.2.2.2.1 u.2.2.2.2.1) ∧ True) (va_A (y_W ad ar I T A O pl) sz)) (0) (0) (va_A (y_W ad ar I T A O pl) sz) := by
  refine Met.ofW (cc := prog_8_method_9_code) (maxL := 2) (ret := (some .int)) (by decide) rfl ?_
  intro p e s m args below meth c s₁ B hml hv
  obtain ⟨rfl, hsz, hN0, hP, hU, hZ, hD0, hw0⟩ := hv
  have hK := hU.2.1
  have hx := B.exec
  have hb := B.bytes
  have hr := B.returns
  have hts : ∀ w ∈ x_T, w.before ([.ref (ad 1)] : List Value).toArray s = true := fun w h => atoms_spec (ws := (Jvm.Cond.code ({ cls := "ChannelMachine$Reader", name := "inputVariable", desc := "()I" } : Jvm.MethodName) prog_8_method_9_code (2 : Nat) (Option.some Jvm.ClassFile.FieldType.int)) :: x_T) B.pre w (List.mem_cons_of_mem _ h)
  have hown : s.vm.findClass "ChannelMachine$Reader" = some m.cls := findClass_of_methodNamed B.named
  have hlocks := B.notSynchronized
  subst hsz
  subst hw0
  have hD := hD0.self (sz := s.heap.size)
  have hAN := x_AN hD0 hN0
  generalize hAe : va_A (y_W ad ar I T A O pl) s.heap.size = Bq at hD hAN ⊢
  have hA : ∀ q : Nat, s.heap.size ≤ q → Bq q := fun q h => by rw [← hAe]; exact Or.inr h
  have hS : va_S Bq s.heap s.heap [] := va_S.rf
  have hl := lv_entry ([.ref (ad 1)]) (n := 2) (Nat.le_of_ble_eq_true rfl)
  rw [lg_entry_eq]
  generalize (lg_sl ([.ref (ad 1)]) ++ List.replicate (2 - (lg_sl ([.ref (ad 1)])).length) Slot.unset).toArray = ls at hl ⊢
  have hl : lv_has ls 2 [(0, .ref (ad 1))] := hl
  have hbn := hmi.2.1
  dsimp only at hbn
  refine lv_aload_n hx hb d_Reader_inputVariable_0 rfl (lv_at hl 0 rfl) ?_
  refine lv_bipush (v := 63) hx hb d_Reader_inputVariable_1 (by decide) ?_
  have hFc := y_free hD hS hA
  refine va_calli (va_runV (As := [.int 63]) (rest := []) ⟨hx, hb, hml, hown, hts⟩ (c_Rd_expect l dC dI ar N0 z ad I T A O pl ln cl lm aa (63) s.heap.size (y_hs s.heap) hmi (by decide)) (cwV 1 hts (x_goodV k_492 k_494 kp_7 k_2 k_495) rfl rfl rfl (by decide +kernel) ⟨Nat.le_of_ble_eq_true rfl, Nat.le_of_ble_eq_true rfl⟩) ⟨y_blind, va_recv hK hP (ci := 3) (q0 := 1) rfl (y_W_ob (by decide) (by decide)), fun U9 hU9 hW9 => y_pre hU9 hW9 hP hD hU hZ hS hAN hN0⟩ rfl rfl hl.1 rfl (lv_room (Nat.le_of_ble_eq_true rfl)) d_Reader_inputVariable_3 ⟨(by show 0 + (0) ≤ 0; omega), (by show 0 + (0) ≤ 0; omega)⟩) hS (fun q _ h => hFc q h) hFc (fun r_1 u t H1 locs ht hvm hw hB hz1 hk1 hS => ?_)
  obtain ⟨I2, T2, A2, O2, pl2, q2, s2, cq2, cs2⟩ := u
  dsimp only at hw hB
  rw [ht] at hB
  obtain ⟨hP, hD1, hac2⟩ := hB
  have hD : va_D Bq (y_W ad ar I2 T2 A2 O2 pl2) := hD1.weaken (fun _ q _ h => hFc q.1 h)
  generalize H1 = H at hP hS hac2 ⊢
  have hae2 := hac2
  try unfold y_ac at hae2
  try dsimp only at hae2
  refine W.widen (k := 0) (n := 0) (by omega) (by omega) ?_
  obtain ⟨hmi, e2, e4, e5, fr2, e6, e7, hge2, hcc2, hr9⟩ := hw
  rw [e2, e4, e5] at hP hD
  rw [e6, e7] at hmi
  have hP : va_P (dC, dI) y_cl (y_W ad ar I2 T A2 O pl) H := hP
  have hD : va_D Bq (y_W ad ar I2 T A2 O pl) := hD
  have hbn := hmi.2.1
  dsimp only at hbn
  rcases hr9 with rfl | ⟨rfl, hex3⟩
  · refine lv_if_ne (tgt := 11) hx hb d_Reader_inputVariable_6 (by decide) (fun c4 => absurd rfl c4) (fun _ => ?_)
    refine lv_iconst (v := (-1)) hx hb d_Reader_inputVariable_9 (by decide) ?_
    refine y_know (fun hy91 hy92 hy93 hy94 => ?_)
    have hac9 : True := trivial
    refine W.widen (k := 0) (n := 0) (by omega) (by omega) ?_
    exact W.iret (v := (-1)) hx hb hr (fun t ht hW => ⟨⟨(-1), (I2, T, A2, O, pl, (ln, s2, lm, cs2)), rfl, ⟨hmi, rfl, rfl, rfl, (m_fr.rf.tr fr2 (by decide)), rfl, rfl, by dsimp only; omega, by dsimp only; omega⟩, (by dsimp only; rw [ht]; exact ⟨hP, hD, hac9⟩)⟩, hS.F ht⟩) hS.2.2 d_Reader_inputVariable_10
  · refine lv_if_ne (tgt := 11) hx hb d_Reader_inputVariable_6 (by decide) (fun _ => ?_) (fun c5 => absurd c5 (by decide))
    refine lv_aload_n hx hb d_Reader_inputVariable_11 rfl (lv_at hl 0 rfl) ?_
    have hFc := y_free hD hS hA
    refine va_calli (va_runV (As := []) (rest := []) ⟨hx, hb, hml, hown, hts⟩ (c_Rd_look l dC dI ar N0 z ad I2 T A2 O pl ln s2 lm cs2 H.size (y_hs H) hmi) (cwV 0 hts (x_goodV k_338 k_340 kp_3 k_2 k_341) rfl rfl rfl (by decide +kernel) ⟨Nat.le_of_ble_eq_true rfl, Nat.le_of_ble_eq_true rfl⟩) ⟨y_blind, va_recv hK hP (ci := 3) (q0 := 1) rfl (y_W_ob (by decide) (by decide)), fun U9 hU9 hW9 => y_pre hU9 hW9 hP hD hU hZ hS hAN hN0⟩ rfl rfl hl.1 rfl (lv_room (Nat.le_of_ble_eq_true rfl)) d_Reader_inputVariable_12 ⟨(by show 0 + (0) ≤ 0; omega), (by show 0 + (0) ≤ 0; omega)⟩) hS (fun q _ h => hFc q h) hFc (fun r_6 u t H1 locs ht hvm hw hB hz1 hk1 hS => ?_)
    obtain ⟨I7, T7, A7, O7, pl7, q7, s7, cq7, cs7⟩ := u
    dsimp only at hw hB
    rw [ht] at hB
    obtain ⟨hP, hD1, hac7⟩ := hB
    have hD : va_D Bq (y_W ad ar I7 T7 A7 O7 pl7) := hD1.weaken (fun _ q _ h => hFc q.1 h)
    generalize H1 = H at hP hS hac7 ⊢
    have hae7 := hac7
    try unfold y_ac at hae7
    try dsimp only at hae7
    refine W.widen (k := 0) (n := 0) (by omega) (by omega) ?_
    obtain ⟨h9, hw⟩ := hw
    cases h9
    obtain rfl := hw
    refine lv_istore_n (lv' := [(1, .int (y_lk A2 lm cs2)), (0, .ref (ad 1))]) hx hb d_Reader_inputVariable_15 rfl hl (by decide) rfl (fun ls hl => ?_)
    refine lv_iload_n hx hb d_Reader_inputVariable_16 rfl (lv_at hl 0 rfl) ?_
    have hFc := y_free hD hS hA
    refine va_calli (va_runS (As := [.int (y_lk A2 lm cs2)]) (rest := []) ⟨hx, hb, hml, hown, hts⟩ (c_Rd_isVariable l dC dI ar N0 z ad I2 T A2 O pl ((y_lk A2 lm cs2)) H.size (y_hs H) ) (cwS 1 hts (x_goodS k_369 k_370 k_2 k_371) rfl rfl rfl (by decide +kernel) ⟨Nat.le_of_ble_eq_true rfl, Nat.le_of_ble_eq_true rfl⟩) ⟨y_blind, fun U9 hU9 hW9 => y_pre hU9 hW9 hP hD hU hZ hS hAN hN0⟩ rfl rfl hl.1 rfl (lv_room (Nat.le_of_ble_eq_true rfl)) d_Reader_inputVariable_17 ⟨(by show 0 + (0) ≤ 0; omega), (by show 0 + (0) ≤ 0; omega)⟩) hS (fun q _ h => hFc q h) hFc (fun r_8 u t H1 locs ht hvm hw hB hz1 hk1 hS => ?_)
    obtain ⟨I9, T9, A9, O9, pl9, q9, s9, cq9, cs9⟩ := u
    dsimp only at hw hB
    rw [ht] at hB
    obtain ⟨hP, hD1, hac9⟩ := hB
    have hD : va_D Bq (y_W ad ar I9 T9 A9 O9 pl9) := hD1.weaken (fun _ q _ h => hFc q.1 h)
    generalize H1 = H at hP hS hac9 ⊢
    have hae9 := hac9
    try unfold y_ac at hae9
    try dsimp only at hae9
    refine W.widen (k := 0) (n := 0) (by omega) (by omega) ?_
    obtain ⟨h9, hw⟩ := hw
    cases h9
    rcases hw with ⟨rfl, hr10⟩ | ⟨rfl, hr10⟩
    · refine lv_if_ne (tgt := 30) hx hb d_Reader_inputVariable_20 (by decide) (fun c11 => absurd rfl c11) (fun _ => ?_)
      refine lv_aload_n hx hb d_Reader_inputVariable_23 rfl (lv_at hl 1 rfl) ?_
      have hFc := y_free hD hS hA
      refine va_calli (va_runV (As := []) (rest := []) ⟨hx, hb, hml, hown, hts⟩ (c_Rd_refuse l dC dI ar N0 z ad I2 T A2 O pl ln s2 lm cs2 H.size (y_hs H) hmi) (cwV 0 hts (x_goodV k_477 k_479 kp_6 k_2 k_480) rfl rfl rfl (by decide +kernel) ⟨Nat.le_of_ble_eq_true rfl, Nat.le_of_ble_eq_true rfl⟩) ⟨y_blind, va_recv hK hP (ci := 3) (q0 := 1) rfl (y_W_ob (by decide) (by decide)), fun U9 hU9 hW9 => y_pre hU9 hW9 hP hD hU hZ hS hAN hN0⟩ rfl rfl hl.1 rfl (lv_room (Nat.le_of_ble_eq_true rfl)) d_Reader_inputVariable_24 ⟨(by show 0 + (0) ≤ 0; omega), (by show 0 + (0) ≤ 0; omega)⟩) hS (fun q _ h => hFc q h) hFc (fun r_12 u t H1 locs ht hvm hw hB hz1 hk1 hS => ?_)
      obtain ⟨I13, T13, A13, O13, pl13, q13, s13, cq13, cs13⟩ := u
      dsimp only at hw hB
      rw [ht] at hB
      obtain ⟨hP, hD1, hac13⟩ := hB
      have hD : va_D Bq (y_W ad ar I13 T13 A13 O13 pl13) := hD1.weaken (fun _ q _ h => hFc q.1 h)
      generalize H1 = H at hP hS hac13 ⊢
      have hae13 := hac13
      try unfold y_ac at hae13
      try dsimp only at hae13
      refine W.widen (k := 0) (n := 0) (by omega) (by omega) ?_
      obtain ⟨hmi, e2, e4, e5, fr13, e6, e7, hge13, hcc13, hr9⟩ := hw
      rw [e2, e4, e5] at hP hD
      rw [e6, e7] at hmi
      have hP : va_P (dC, dI) y_cl (y_W ad ar I13 T A13 O pl) H := hP
      have hD : va_D Bq (y_W ad ar I13 T A13 O pl) := hD
      have hbn := hmi.2.1
      dsimp only at hbn
      obtain rfl := hr9
      refine lv_pop hx hb d_Reader_inputVariable_27 rfl ?_
      refine lv_iconst (v := (-1)) hx hb d_Reader_inputVariable_28 (by decide) ?_
      refine y_know (fun hy91 hy92 hy93 hy94 => ?_)
      have hac9 : True := trivial
      refine W.widen (k := 0) (n := 0) (by omega) (by omega) ?_
      exact W.iret (v := (-1)) hx hb hr (fun t ht hW => ⟨⟨(-1), (I13, T, A13, O, pl, (ln, s13, lm, cs13)), rfl, ⟨hmi, rfl, rfl, rfl, ((m_fr.rf.tr fr2 (by decide)).tr fr13 (by decide)), rfl, rfl, by dsimp only; omega, by dsimp only; omega⟩, (by dsimp only; rw [ht]; exact ⟨hP, hD, hac9⟩)⟩, hS.F ht⟩) hS.2.2 d_Reader_inputVariable_29
    · refine lv_if_ne (tgt := 30) hx hb d_Reader_inputVariable_20 (by decide) (fun _ => ?_) (fun c14 => absurd c14 (by decide))
      have hlt : cs2 < lm := y_lk_lo hr10.1 (by decide)
      refine lv_aload_n hx hb d_Reader_inputVariable_30 rfl (lv_at hl 1 rfl) ?_
      refine lv_dup hx hb d_Reader_inputVariable_31 rfl ?_
      refine k_g (C := "ChannelMachine$Reader") (F := F_Reader) (N := 9) hx hb hts i_Reader hown hK hP 1 5 (by decide) (by decide) rfl (by decide) (d := (1, 4)) rfl (hts _ k_49) (fun _ h9 => h9) (v := .int (Int32.ofNat cs2)) (congrArg Value.int hmi.1.2.2.2) d_Reader_inputVariable_32 ?_
      refine lv_iconst (v := 1) hx hb d_Reader_inputVariable_35 (by decide) ?_
      refine lv_iadd hx hb d_Reader_inputVariable_36 ?_
      refine W.eq (g2 := F0 m 37 ls [.int (Int32.ofNat (cs2 + 1)), .ref (ad 1)]) (by rw [← x_addN (a := cs2) (b := 1)] <;> rfl) ?_
      refine k_pi (C := "ChannelMachine$Reader") (F := F_Reader) (N := 9) hx hb hts i_Reader hown t_Reader t_Reader_ok n_Reader hK hP hD hS 1 5 (by decide) (by decide) rfl (by decide) (j := 4) (x := (Int32.ofNat (cs2 + 1))) rfl (hts _ k_49) (fun _ h9 => h9) rfl (by decide +kernel) d_Reader_inputVariable_37 (fun H locs hP hD hS => ?_)
      have hmi : y_RD (upd I2 4 (Int32.ofNat (cs2 + 1))) A2 (ln, s2, lm, (cs2 + 1)) := hmi.at4 (by omega)
      have hbn := hmi.2.1
      dsimp only at hbn
      refine lv_iload_n hx hb d_Reader_inputVariable_40 rfl (lv_at hl 0 rfl) ?_
      refine lv_bipush (v := 97) hx hb d_Reader_inputVariable_41 (by decide) ?_
      refine lv_isub hx hb d_Reader_inputVariable_43 ?_
      refine y_know (fun hy91 hy92 hy93 hy94 => ?_)
      have hac9 : True := trivial
      refine W.widen (k := 0) (n := 0) (by omega) (by omega) ?_
      exact W.iret (v := ((y_lk A2 lm cs2) - 97)) hx hb hr (fun t ht hW => ⟨⟨((y_lk A2 lm cs2) - 97), ((upd I2 4 (Int32.ofNat (cs2 + 1))), T, A2, O, pl, (ln, s2, lm, (cs2 + 1))), rfl, ⟨hmi, rfl, rfl, rfl, ((m_fr.rf.tr fr2 (by decide)).up (by decide) _), rfl, rfl, by dsimp only; omega, by dsimp only; omega⟩, (by dsimp only; rw [ht]; exact ⟨hP, hD, hac9⟩)⟩, hS.F ht⟩) hS.2.2 d_Reader_inputVariable_44
theorem y_chan {cv : Int32} (h1 : ¬ cv < 65) (h2 : ¬ 68 < cv) : ∃ c9 : Nat, c9 < 6 ∧ cv - 65 = Int32.ofNat c9 := by
  obtain ⟨e, e1, e2, rfl⟩ := y_rg (lo := 65) (hi := 68) h1 h2 (by decide) (by decide)
  exact ⟨e - 65, by omega, x_subN (a := e) (b := 65) e1⟩
theorem y_ch_ok (v : Int32) : x_ch v = -1 ∨ (v ≠ 0 ∧ ∃ c9 : Nat, c9 < 6 ∧ x_ch v = Int32.ofNat c9) := by
  unfold x_ch
  by_cases h1 : v = 73
  · rw [if_pos h1, h1]; exact Or.inr ⟨by decide, 4, by decide, rfl⟩
  · rw [if_neg h1]
    by_cases h2 : v = 79
    · rw [if_pos h2, h2]; exact Or.inr ⟨by decide, 5, by decide, rfl⟩
    · rw [if_neg h2]
      by_cases h3 : ¬ v < 65 ∧ ¬ 68 < v
      · rw [if_pos h3]
        exact Or.inr ⟨fun h9 => h3.1 (by rw [h9]; decide), y_chan h3.1 h3.2⟩
      · rw [if_neg h3]; exact Or.inl rfl
set_option maxHeartbeats 4000000 in
set_option maxRecDepth 100000 in
theorem c_Rd_channelOf (l : Launch) (dC : Nat → ClassId) (dI : Nat → Nat → Nat) (ar : Nat → ClassId) (N0 : Nat) (z : Nat → Nat) (ad : Nat → Nat) (I : Nat → Int32) (T : Int64) (A : Nat → Nat → Int32) (O : Nat → Option Nat) (pl : va_W) (cv : Int32) (sz w0 : Nat) : Met l ({ cls := "ChannelMachine$Reader", name := "channelOf", desc := "(C)I" } : Jvm.MethodName) ((Jvm.Cond.code ({ cls := "ChannelMachine$Reader", name := "channelOf", desc := "(C)I" } : Jvm.MethodName) prog_8_method_12_code (1 : Nat) (Option.some Jvm.ClassFile.FieldType.int)) :: x_T) ({ frames := 0, cells := 0, slots := 0, locals := 0 }) (y_Pc (dC, dI) ar N0 z (y_W ad ar I T A O pl) sz w0 [.int cv]) (va_Qi (fun (r : Int32) (u : (Nat → Int32) × Int64 × (Nat → Nat → Int32) × (Nat → Option Nat) × va_W × (Nat × Nat × Nat × Nat)) => u = (I, T, A, O, pl, 0, 0, 0, 0) ∧ r = x_ch cv) (fun u t => va_P (dC, dI) y_cl (y_W ad ar u.1 u.2.1 u.2.2.1 u.2.2.2.1 u.2.2.2.2.1) t.heap ∧ va_D (va_A (y_W ad ar I T A O pl) sz) (y_W ad ar u.1 u.2.1 u.2.2.1 u.2.2.2.1 u.2.2.2.2.1) ∧ True) (va_A (y_W ad ar I T A O pl) sz)) (0) (0) (va_A (y_W ad ar I T A O pl) sz) := by
  refine Met.ofW (cc := prog_8_method_12_code) (maxL := 1) (ret := (some .int)) (by decide) rfl ?_
  intro p e s m args below meth c s₁ B hml hv
  obtain ⟨rfl, hsz, hN0, hP, hU, hZ, hD0, hw0⟩ := hv
  have hK := hU.2.1
  have hx := B.exec
  have hb := B.bytes
  have hr := B.returns
  have hts : ∀ w ∈ x_T, w.before ([.int cv] : List Value).toArray s = true := fun w h => atoms_spec (ws := (Jvm.Cond.code ({ cls := "ChannelMachine$Reader", name := "channelOf", desc := "(C)I" } : Jvm.MethodName) prog_8_method_12_code (1 : Nat) (Option.some Jvm.ClassFile.FieldType.int)) :: x_T) B.pre w (List.mem_cons_of_mem _ h)
  have hown : s.vm.findClass "ChannelMachine$Reader" = some m.cls := findClass_of_methodNamed B.named
  have hlocks := B.notSynchronized
  subst hsz
  subst hw0
  have hD := hD0.self (sz := s.heap.size)
  have hAN := x_AN hD0 hN0
  generalize hAe : va_A (y_W ad ar I T A O pl) s.heap.size = Bq at hD hAN ⊢
  have hA : ∀ q : Nat, s.heap.size ≤ q → Bq q := fun q h => by rw [← hAe]; exact Or.inr h
  have hS : va_S Bq s.heap s.heap [] := va_S.rf
  have hl := lv_entry ([.int cv]) (n := 1) (Nat.le_of_ble_eq_true rfl)
  rw [lg_entry_eq]
  generalize (lg_sl ([.int cv]) ++ List.replicate (1 - (lg_sl ([.int cv])).length) Slot.unset).toArray = ls at hl ⊢
  have hl : lv_has ls 1 [(0, .int cv)] := hl
  refine lv_iload_n hx hb d_Reader_channelOf_0 rfl (lv_at hl 0 rfl) ?_
  refine lv_bipush (v := 73) hx hb d_Reader_channelOf_1 (by decide) ?_
  refine lv_icmp_ne (tgt := 8) hx hb d_Reader_channelOf_3 (by decide) (fun c1 => ?_) (fun c1 => ?_)
  · refine lv_iload_n hx hb d_Reader_channelOf_8 rfl (lv_at hl 0 rfl) ?_
    refine lv_bipush (v := 79) hx hb d_Reader_channelOf_9 (by decide) ?_
    refine lv_icmp_ne (tgt := 16) hx hb d_Reader_channelOf_11 (by decide) (fun c2 => ?_) (fun c2 => ?_)
    · refine lv_iload_n hx hb d_Reader_channelOf_16 rfl (lv_at hl 0 rfl) ?_
      refine lv_bipush (v := 65) hx hb d_Reader_channelOf_17 (by decide) ?_
      refine lv_icmp_lt (tgt := 35) hx hb d_Reader_channelOf_19 (by decide) (fun c3 => ?_) (fun c3 => ?_)
      · refine lv_iconst (v := (-1)) hx hb d_Reader_channelOf_35 (by decide) ?_
        refine y_know (fun hy91 hy92 hy93 hy94 => ?_)
        have hac9 : True := trivial
        refine W.widen (k := 0) (n := 0) (by omega) (by omega) ?_
        exact W.iret (v := (-1)) hx hb hr (fun t ht hW => ⟨⟨(-1), (I, T, A, O, pl, (0, 0, 0, 0)), rfl, ⟨rfl, by unfold x_ch; rw [if_neg c1, if_neg c2, if_neg (fun h9 => h9.1 c3)]⟩, (by dsimp only; rw [ht]; exact ⟨hP, hD, hac9⟩)⟩, hS.F ht⟩) hS.2.2 d_Reader_channelOf_36
      · refine lv_iload_n hx hb d_Reader_channelOf_22 rfl (lv_at hl 0 rfl) ?_
        refine lv_bipush (v := 68) hx hb d_Reader_channelOf_23 (by decide) ?_
        refine lv_icmp_gt (tgt := 35) hx hb d_Reader_channelOf_25 (by decide) (fun c4 => ?_) (fun c4 => ?_)
        · refine lv_iconst (v := (-1)) hx hb d_Reader_channelOf_35 (by decide) ?_
          refine y_know (fun hy91 hy92 hy93 hy94 => ?_)
          have hac9 : True := trivial
          refine W.widen (k := 0) (n := 0) (by omega) (by omega) ?_
          exact W.iret (v := (-1)) hx hb hr (fun t ht hW => ⟨⟨(-1), (I, T, A, O, pl, (0, 0, 0, 0)), rfl, ⟨rfl, by unfold x_ch; rw [if_neg c1, if_neg c2, if_neg (fun h9 => h9.2 c4)]⟩, (by dsimp only; rw [ht]; exact ⟨hP, hD, hac9⟩)⟩, hS.F ht⟩) hS.2.2 d_Reader_channelOf_36
        · refine lv_iload_n hx hb d_Reader_channelOf_28 rfl (lv_at hl 0 rfl) ?_
          refine lv_bipush (v := 65) hx hb d_Reader_channelOf_29 (by decide) ?_
          refine lv_isub hx hb d_Reader_channelOf_31 ?_
          refine lv_goto (tgt := 36) hx hb d_Reader_channelOf_32 (by decide) ?_
          refine y_know (fun hy91 hy92 hy93 hy94 => ?_)
          have hac9 : True := trivial
          refine W.widen (k := 0) (n := 0) (by omega) (by omega) ?_
          exact W.iret (v := (cv - 65)) hx hb hr (fun t ht hW => ⟨⟨(cv - 65), (I, T, A, O, pl, (0, 0, 0, 0)), rfl, ⟨rfl, by unfold x_ch; rw [if_neg c1, if_neg c2, if_pos ⟨c3, c4⟩]⟩, (by dsimp only; rw [ht]; exact ⟨hP, hD, hac9⟩)⟩, hS.F ht⟩) hS.2.2 d_Reader_channelOf_36
    · refine lv_iconst (v := 5) hx hb d_Reader_channelOf_14 (by decide) ?_
      refine y_know (fun hy91 hy92 hy93 hy94 => ?_)
      have hac9 : True := trivial
      refine W.widen (k := 0) (n := 0) (by omega) (by omega) ?_
      exact W.iret (v := 5) hx hb hr (fun t ht hW => ⟨⟨5, (I, T, A, O, pl, (0, 0, 0, 0)), rfl, ⟨rfl, by unfold x_ch; rw [if_neg c1, if_pos c2]⟩, (by dsimp only; rw [ht]; exact ⟨hP, hD, hac9⟩)⟩, hS.F ht⟩) hS.2.2 d_Reader_channelOf_15
  · refine lv_iconst (v := 4) hx hb d_Reader_channelOf_6 (by decide) ?_
    refine y_know (fun hy91 hy92 hy93 hy94 => ?_)
    have hac9 : True := trivial
    refine W.widen (k := 0) (n := 0) (by omega) (by omega) ?_
    exact W.iret (v := 4) hx hb hr (fun t ht hW => ⟨⟨4, (I, T, A, O, pl, (0, 0, 0, 0)), rfl, ⟨rfl, by unfold x_ch; rw [if_pos c1]⟩, (by dsimp only; rw [ht]; exact ⟨hP, hD, hac9⟩)⟩, hS.F ht⟩) hS.2.2 d_Reader_channelOf_7
theorem y_3 {a : Nat} (h : a < 3) : a = 0 ∨ a = 1 ∨ a = 2 := by omega
set_option maxHeartbeats 4000000 in
set_option maxRecDepth 100000 in
theorem c_Rd_isJoining (l : Launch) (dC : Nat → ClassId) (dI : Nat → Nat → Nat) (ar : Nat → ClassId) (N0 : Nat) (z : Nat → Nat) (ad : Nat → Nat) (I : Nat → Int32) (T : Int64) (A : Nat → Nat → Int32) (O : Nat → Option Nat) (pl : va_W) (cv : Int32) (lv : Nat) (sz w0 : Nat) (hlv : lv < 3) : Met l ({ cls := "ChannelMachine$Reader", name := "isJoining", desc := "(CI)Z" } : Jvm.MethodName) ((Jvm.Cond.code ({ cls := "ChannelMachine$Reader", name := "isJoining", desc := "(CI)Z" } : Jvm.MethodName) prog_8_method_27_code (2 : Nat) (Option.some Jvm.ClassFile.FieldType.boolean)) :: x_T) ({ frames := 0, cells := 0, slots := 0, locals := 0 }) (y_Pc (dC, dI) ar N0 z (y_W ad ar I T A O pl) sz w0 [.int cv, .int (Int32.ofNat lv)]) (va_Qi (fun (r : Int32) (u : (Nat → Int32) × Int64 × (Nat → Nat → Int32) × (Nat → Option Nat) × va_W × (Nat × Nat × Nat × Nat)) => u = (I, T, A, O, pl, 0, 0, 0, 0) ∧ (r = 0 ∨ (r = 1 ∧ y_op (-cv) ∧ cv ≠ 0))) (fun u t => va_P (dC, dI) y_cl (y_W ad ar u.1 u.2.1 u.2.2.1 u.2.2.2.1 u.2.2.2.2.1) t.heap ∧ va_D (va_A (y_W ad ar I T A O pl) sz) (y_W ad ar u.1 u.2.1 u.2.2.1 u.2.2.2.1 u.2.2.2.2.1) ∧ True) (va_A (y_W ad ar I T A O pl) sz)) (0) (0) (va_A (y_W ad ar I T A O pl) sz) := by
  refine Met.ofW (cc := prog_8_method_27_code) (maxL := 2) (ret := (some .boolean)) (by decide) rfl ?_
  intro p e s m args below meth c s₁ B hml hv
  obtain ⟨rfl, hsz, hN0, hP, hU, hZ, hD0, hw0⟩ := hv
  have hK := hU.2.1
  have hx := B.exec
  have hb := B.bytes
  have hr := B.returns
  have hts : ∀ w ∈ x_T, w.before ([.int cv, .int (Int32.ofNat lv)] : List Value).toArray s = true := fun w h => atoms_spec (ws := (Jvm.Cond.code ({ cls := "ChannelMachine$Reader", name := "isJoining", desc := "(CI)Z" } : Jvm.MethodName) prog_8_method_27_code (2 : Nat) (Option.some Jvm.ClassFile.FieldType.boolean)) :: x_T) B.pre w (List.mem_cons_of_mem _ h)
  have hown : s.vm.findClass "ChannelMachine$Reader" = some m.cls := findClass_of_methodNamed B.named
  have hlocks := B.notSynchronized
  subst hsz
  subst hw0
  have hD := hD0.self (sz := s.heap.size)
  have hAN := x_AN hD0 hN0
  generalize hAe : va_A (y_W ad ar I T A O pl) s.heap.size = Bq at hD hAN ⊢
  have hA : ∀ q : Nat, s.heap.size ≤ q → Bq q := fun q h => by rw [← hAe]; exact Or.inr h
  have hS : va_S Bq s.heap s.heap [] := va_S.rf
  have hl := lv_entry ([.int cv, .int (Int32.ofNat lv)]) (n := 2) (Nat.le_of_ble_eq_true rfl)
  rw [lg_entry_eq]
  generalize (lg_sl ([.int cv, .int (Int32.ofNat lv)]) ++ List.replicate (2 - (lg_sl ([.int cv, .int (Int32.ofNat lv)])).length) Slot.unset).toArray = ls at hl ⊢
  have hl : lv_has ls 2 [(0, .int cv), (1, .int (Int32.ofNat lv))] := hl
  rcases y_3 hlv with rfl | rfl | rfl
  · have hl : lv_has ls 2 [(0, .int cv), (1, .int 0)] := hl
    refine lv_iload_n hx hb d_Reader_isJoining_0 rfl (lv_at hl 1 rfl) ?_
    refine lv_tableIn (tgt := 28) hx hb d_Reader_isJoining_1 (by decide) (by decide) (off := 27) rfl (by decide) ?_
    refine lv_iload_n hx hb d_Reader_isJoining_28 rfl (lv_at hl 0 rfl) ?_
    refine lv_bipush (v := 60) hx hb d_Reader_isJoining_29 (by decide) ?_
    refine lv_icmp_eq (tgt := 40) hx hb d_Reader_isJoining_31 (by decide) (fun c1 => ?_) (fun c1 => ?_)
    · refine lv_iconst (v := 1) hx hb d_Reader_isJoining_40 (by decide) ?_
      refine lv_goto (tgt := 45) hx hb d_Reader_isJoining_41 (by decide) ?_
      refine y_know (fun hy91 hy92 hy93 hy94 => ?_)
      have hac9 : True := trivial
      refine W.widen (k := 0) (n := 0) (by omega) (by omega) ?_
      exact W.zret (v := 1) hx hb hr (rfl) (fun t ht hW => ⟨⟨1, (I, T, A, O, pl, (0, 0, 0, 0)), rfl, ⟨rfl, Or.inr ⟨rfl, by rw [c1]; unfold y_op; decide, by rw [c1]; decide⟩⟩, (by dsimp only; rw [ht]; exact ⟨hP, hD, hac9⟩)⟩, hS.F ht⟩) hS.2.2 d_Reader_isJoining_45
    · refine lv_iload_n hx hb d_Reader_isJoining_34 rfl (lv_at hl 0 rfl) ?_
      refine lv_bipush (v := 61) hx hb d_Reader_isJoining_35 (by decide) ?_
      refine lv_icmp_ne (tgt := 44) hx hb d_Reader_isJoining_37 (by decide) (fun c2 => ?_) (fun c2 => ?_)
      · refine lv_iconst (v := 0) hx hb d_Reader_isJoining_44 (by decide) ?_
        refine y_know (fun hy91 hy92 hy93 hy94 => ?_)
        have hac9 : True := trivial
        refine W.widen (k := 0) (n := 0) (by omega) (by omega) ?_
        exact W.zret (v := 0) hx hb hr (rfl) (fun t ht hW => ⟨⟨0, (I, T, A, O, pl, (0, 0, 0, 0)), rfl, ⟨rfl, Or.inl rfl⟩, (by dsimp only; rw [ht]; exact ⟨hP, hD, hac9⟩)⟩, hS.F ht⟩) hS.2.2 d_Reader_isJoining_45
      · refine lv_iconst (v := 1) hx hb d_Reader_isJoining_40 (by decide) ?_
        refine lv_goto (tgt := 45) hx hb d_Reader_isJoining_41 (by decide) ?_
        refine y_know (fun hy91 hy92 hy93 hy94 => ?_)
        have hac9 : True := trivial
        refine W.widen (k := 0) (n := 0) (by omega) (by omega) ?_
        exact W.zret (v := 1) hx hb hr (rfl) (fun t ht hW => ⟨⟨1, (I, T, A, O, pl, (0, 0, 0, 0)), rfl, ⟨rfl, Or.inr ⟨rfl, by rw [c2]; unfold y_op; decide, by rw [c2]; decide⟩⟩, (by dsimp only; rw [ht]; exact ⟨hP, hD, hac9⟩)⟩, hS.F ht⟩) hS.2.2 d_Reader_isJoining_45
  · have hl : lv_has ls 2 [(0, .int cv), (1, .int 1)] := hl
    refine lv_iload_n hx hb d_Reader_isJoining_0 rfl (lv_at hl 1 rfl) ?_
    refine lv_tableIn (tgt := 46) hx hb d_Reader_isJoining_1 (by decide) (by decide) (off := 45) rfl (by decide) ?_
    refine lv_iload_n hx hb d_Reader_isJoining_46 rfl (lv_at hl 0 rfl) ?_
    refine lv_bipush (v := 43) hx hb d_Reader_isJoining_47 (by decide) ?_
    refine lv_icmp_eq (tgt := 58) hx hb d_Reader_isJoining_49 (by decide) (fun c3 => ?_) (fun c3 => ?_)
    · refine lv_iconst (v := 1) hx hb d_Reader_isJoining_58 (by decide) ?_
      refine lv_goto (tgt := 63) hx hb d_Reader_isJoining_59 (by decide) ?_
      refine y_know (fun hy91 hy92 hy93 hy94 => ?_)
      have hac9 : True := trivial
      refine W.widen (k := 0) (n := 0) (by omega) (by omega) ?_
      exact W.zret (v := 1) hx hb hr (rfl) (fun t ht hW => ⟨⟨1, (I, T, A, O, pl, (0, 0, 0, 0)), rfl, ⟨rfl, Or.inr ⟨rfl, by rw [c3]; unfold y_op; decide, by rw [c3]; decide⟩⟩, (by dsimp only; rw [ht]; exact ⟨hP, hD, hac9⟩)⟩, hS.F ht⟩) hS.2.2 d_Reader_isJoining_63
    · refine lv_iload_n hx hb d_Reader_isJoining_52 rfl (lv_at hl 0 rfl) ?_
      refine lv_bipush (v := 45) hx hb d_Reader_isJoining_53 (by decide) ?_
      refine lv_icmp_ne (tgt := 62) hx hb d_Reader_isJoining_55 (by decide) (fun c4 => ?_) (fun c4 => ?_)
      · refine lv_iconst (v := 0) hx hb d_Reader_isJoining_62 (by decide) ?_
        refine y_know (fun hy91 hy92 hy93 hy94 => ?_)
        have hac9 : True := trivial
        refine W.widen (k := 0) (n := 0) (by omega) (by omega) ?_
        exact W.zret (v := 0) hx hb hr (rfl) (fun t ht hW => ⟨⟨0, (I, T, A, O, pl, (0, 0, 0, 0)), rfl, ⟨rfl, Or.inl rfl⟩, (by dsimp only; rw [ht]; exact ⟨hP, hD, hac9⟩)⟩, hS.F ht⟩) hS.2.2 d_Reader_isJoining_63
      · refine lv_iconst (v := 1) hx hb d_Reader_isJoining_58 (by decide) ?_
        refine lv_goto (tgt := 63) hx hb d_Reader_isJoining_59 (by decide) ?_
        refine y_know (fun hy91 hy92 hy93 hy94 => ?_)
        have hac9 : True := trivial
        refine W.widen (k := 0) (n := 0) (by omega) (by omega) ?_
        exact W.zret (v := 1) hx hb hr (rfl) (fun t ht hW => ⟨⟨1, (I, T, A, O, pl, (0, 0, 0, 0)), rfl, ⟨rfl, Or.inr ⟨rfl, by rw [c4]; unfold y_op; decide, by rw [c4]; decide⟩⟩, (by dsimp only; rw [ht]; exact ⟨hP, hD, hac9⟩)⟩, hS.F ht⟩) hS.2.2 d_Reader_isJoining_63
  · have hl : lv_has ls 2 [(0, .int cv), (1, .int 2)] := hl
    refine lv_iload_n hx hb d_Reader_isJoining_0 rfl (lv_at hl 1 rfl) ?_
    refine lv_tableIn (tgt := 64) hx hb d_Reader_isJoining_1 (by decide) (by decide) (off := 63) rfl (by decide) ?_
    refine lv_iload_n hx hb d_Reader_isJoining_64 rfl (lv_at hl 0 rfl) ?_
    refine lv_bipush (v := 42) hx hb d_Reader_isJoining_65 (by decide) ?_
    refine lv_icmp_eq (tgt := 82) hx hb d_Reader_isJoining_67 (by decide) (fun c5 => ?_) (fun c5 => ?_)
    · refine lv_iconst (v := 1) hx hb d_Reader_isJoining_82 (by decide) ?_
      refine lv_goto (tgt := 87) hx hb d_Reader_isJoining_83 (by decide) ?_
      refine y_know (fun hy91 hy92 hy93 hy94 => ?_)
      have hac9 : True := trivial
      refine W.widen (k := 0) (n := 0) (by omega) (by omega) ?_
      exact W.zret (v := 1) hx hb hr (rfl) (fun t ht hW => ⟨⟨1, (I, T, A, O, pl, (0, 0, 0, 0)), rfl, ⟨rfl, Or.inr ⟨rfl, by rw [c5]; unfold y_op; decide, by rw [c5]; decide⟩⟩, (by dsimp only; rw [ht]; exact ⟨hP, hD, hac9⟩)⟩, hS.F ht⟩) hS.2.2 d_Reader_isJoining_87
    · refine lv_iload_n hx hb d_Reader_isJoining_70 rfl (lv_at hl 0 rfl) ?_
      refine lv_bipush (v := 47) hx hb d_Reader_isJoining_71 (by decide) ?_
      refine lv_icmp_eq (tgt := 82) hx hb d_Reader_isJoining_73 (by decide) (fun c6 => ?_) (fun c6 => ?_)
      · refine lv_iconst (v := 1) hx hb d_Reader_isJoining_82 (by decide) ?_
        refine lv_goto (tgt := 87) hx hb d_Reader_isJoining_83 (by decide) ?_
        refine y_know (fun hy91 hy92 hy93 hy94 => ?_)
        have hac9 : True := trivial
        refine W.widen (k := 0) (n := 0) (by omega) (by omega) ?_
        exact W.zret (v := 1) hx hb hr (rfl) (fun t ht hW => ⟨⟨1, (I, T, A, O, pl, (0, 0, 0, 0)), rfl, ⟨rfl, Or.inr ⟨rfl, by rw [c6]; unfold y_op; decide, by rw [c6]; decide⟩⟩, (by dsimp only; rw [ht]; exact ⟨hP, hD, hac9⟩)⟩, hS.F ht⟩) hS.2.2 d_Reader_isJoining_87
      · refine lv_iload_n hx hb d_Reader_isJoining_76 rfl (lv_at hl 0 rfl) ?_
        refine lv_bipush (v := 37) hx hb d_Reader_isJoining_77 (by decide) ?_
        refine lv_icmp_ne (tgt := 86) hx hb d_Reader_isJoining_79 (by decide) (fun c7 => ?_) (fun c7 => ?_)
        · refine lv_iconst (v := 0) hx hb d_Reader_isJoining_86 (by decide) ?_
          refine y_know (fun hy91 hy92 hy93 hy94 => ?_)
          have hac9 : True := trivial
          refine W.widen (k := 0) (n := 0) (by omega) (by omega) ?_
          exact W.zret (v := 0) hx hb hr (rfl) (fun t ht hW => ⟨⟨0, (I, T, A, O, pl, (0, 0, 0, 0)), rfl, ⟨rfl, Or.inl rfl⟩, (by dsimp only; rw [ht]; exact ⟨hP, hD, hac9⟩)⟩, hS.F ht⟩) hS.2.2 d_Reader_isJoining_87
        · refine lv_iconst (v := 1) hx hb d_Reader_isJoining_82 (by decide) ?_
          refine lv_goto (tgt := 87) hx hb d_Reader_isJoining_83 (by decide) ?_
          refine y_know (fun hy91 hy92 hy93 hy94 => ?_)
          have hac9 : True := trivial
          refine W.widen (k := 0) (n := 0) (by omega) (by omega) ?_
          exact W.zret (v := 1) hx hb hr (rfl) (fun t ht hW => ⟨⟨1, (I, T, A, O, pl, (0, 0, 0, 0)), rfl, ⟨rfl, Or.inr ⟨rfl, by rw [c7]; unfold y_op; decide, by rw [c7]; decide⟩⟩, (by dsimp only; rw [ht]; exact ⟨hP, hD, hac9⟩)⟩, hS.F ht⟩) hS.2.2 d_Reader_isJoining_87
set_option maxHeartbeats 4000000 in
set_option maxRecDepth 100000 in
theorem c_Rd_write (l : Launch) (dC : Nat → ClassId) (dI : Nat → Nat → Nat) (ar : Nat → ClassId) (N0 : Nat) (z : Nat → Nat) (ad : Nat → Nat) (I : Nat → Int32) (T : Int64) (A : Nat → Nat → Int32) (O : Nat → Option Nat) (pl : va_W) (ln cl lm aa : Nat) (xv : Int32) (sz w0 : Nat) (hmi : y_RD I A (ln, cl, lm, aa)) (hxv : y_op xv) (hcl : cl ≤ 72) : Met l ({ cls := "ChannelMachine$Reader", name := "write", desc := "(I)V" } : Jvm.MethodName) ((Jvm.Cond.code ({ cls := "ChannelMachine$Reader", name := "write", desc := "(I)V" } : Jvm.MethodName) prog_8_method_26_code (2 : Nat) (Option.none : Option Jvm.ClassFile.FieldType)) :: x_T) ({ frames := 0, cells := 0, slots := 0, locals := 0 }) (y_Pc (dC, dI) ar N0 z (y_W ad ar I T A O pl) sz w0 [.ref (ad 1), .int xv]) (va_Qv (fun (u : (Nat → Int32) × Int64 × (Nat → Nat → Int32) × (Nat → Option Nat) × va_W × (Nat × Nat × Nat × Nat)) => y_RD u.1 u.2.2.1 u.2.2.2.2.2 ∧ u.2.1 = T ∧ u.2.2.2.1 = O ∧ u.2.2.2.2.1 = pl ∧ m_fr [2] I u.1 ∧ u.2.2.2.2.2.1 = ln ∧ u.2.2.2.2.2.2.2.1 = lm ∧ aa ≤ u.2.2.2.2.2.2.2.2 ∧ (u.2.2.2.2.2.2.1 ≤ 72 ∨ 72 < cl) ∧ u.2.2.2.2.2.2.2.2 = aa) (fun u t => va_P (dC, dI) y_cl (y_W ad ar u.1 u.2.1 u.2.2.1 u.2.2.2.1 u.2.2.2.2.1) t.heap ∧ va_D (va_A (y_W ad ar I T A O pl) sz) (y_W ad ar u.1 u.2.1 u.2.2.1 u.2.2.2.1 u.2.2.2.2.1) ∧ True) (va_A (y_W ad ar I T A O pl) sz)) (0) (0) (va_A (y_W ad ar I T A O pl) sz) := by
  refine Met.ofW (cc := prog_8_method_26_code) (maxL := 2) (ret := none) (by decide) rfl ?_
  intro p e s m args below meth c s₁ B hml hv
  obtain ⟨rfl, hsz, hN0, hP, hU, hZ, hD0, hw0⟩ := hv
  have hK := hU.2.1
  have hx := B.exec
  have hb := B.bytes
  have hr := B.returns
  have hts : ∀ w ∈ x_T, w.before ([.ref (ad 1), .int xv] : List Value).toArray s = true := fun w h => atoms_spec (ws := (Jvm.Cond.code ({ cls := "ChannelMachine$Reader", name := "write", desc := "(I)V" } : Jvm.MethodName) prog_8_method_26_code (2 : Nat) (Option.none : Option Jvm.ClassFile.FieldType)) :: x_T) B.pre w (List.mem_cons_of_mem _ h)
  have hown : s.vm.findClass "ChannelMachine$Reader" = some m.cls := findClass_of_methodNamed B.named
  have hlocks := B.notSynchronized
  subst hsz
  subst hw0
  have hD := hD0.self (sz := s.heap.size)
  have hAN := x_AN hD0 hN0
  generalize hAe : va_A (y_W ad ar I T A O pl) s.heap.size = Bq at hD hAN ⊢
  have hA : ∀ q : Nat, s.heap.size ≤ q → Bq q := fun q h => by rw [← hAe]; exact Or.inr h
  have hS : va_S Bq s.heap s.heap [] := va_S.rf
  have hl := lv_entry ([.ref (ad 1), .int xv]) (n := 2) (Nat.le_of_ble_eq_true rfl)
  rw [lg_entry_eq]
  generalize (lg_sl ([.ref (ad 1), .int xv]) ++ List.replicate (2 - (lg_sl ([.ref (ad 1), .int xv])).length) Slot.unset).toArray = ls at hl ⊢
  have hl : lv_has ls 2 [(0, .ref (ad 1)), (1, .int xv)] := hl
  have hbn := hmi.2.1
  dsimp only at hbn
  refine lv_aload_n hx hb d_Reader_write_0 rfl (lv_at hl 0 rfl) ?_
  refine k_g (C := "ChannelMachine$Reader") (F := F_Reader) (N := 9) hx hb hts i_Reader hown hK hP 1 3 (by decide) (by decide) rfl (by decide) (d := (1, 2)) rfl (hts _ k_47) (fun _ h9 => h9) (v := .int (Int32.ofNat cl)) (congrArg Value.int (y_RD.c2 hmi (by omega))) d_Reader_write_1 ?_
  refine lv_bipush (v := 72) hx hb d_Reader_write_4 (by decide) ?_
  refine lv_icmp_ge (tgt := 29) hx hb d_Reader_write_6 (by decide) (fun c_1 => ?_) (fun c_1 => ?_)
  · have c_1 : 72 ≤ cl := (x_leN (a := 72) (b := cl) (by omega) (by omega)).mp c_1
    refine y_know (fun hy91 hy92 hy93 hy94 => ?_)
    have hac9 : True := trivial
    refine W.widen (k := 0) (n := 0) (by omega) (by omega) ?_
    exact W.vret hx hb hr (fun t ht hW => ⟨⟨(I, T, A, O, pl, (ln, cl, lm, aa)), rfl, ⟨hmi, rfl, rfl, rfl, m_fr.rf, rfl, rfl, by dsimp only; omega, by dsimp only; omega, rfl⟩, (by dsimp only; rw [ht]; exact ⟨hP, hD, hac9⟩)⟩, hS.F ht⟩) hS.2.2 d_Reader_write_29
  · have c_1 : ¬ 72 ≤ cl := fun h9 => c_1 ((x_leN (a := 72) (b := cl) (by omega) (by omega)).mpr h9)
    refine lv_aload_n hx hb d_Reader_write_9 rfl (lv_at hl 0 rfl) ?_
    refine k_g (C := "ChannelMachine$Reader") (F := F_Reader) (N := 9) hx hb hts i_Reader hown hK hP 1 1 (by decide) (by decide) rfl (by decide) (d := (0, 3)) rfl (hts _ k_44) (fun _ h9 => h9) (v := .ref (ad 3)) rfl d_Reader_write_10 ?_
    refine lv_aload_n hx hb d_Reader_write_13 rfl (lv_at hl 0 rfl) ?_
    refine k_g (C := "ChannelMachine$Reader") (F := F_Reader) (N := 9) hx hb hts i_Reader hown hK hP 1 3 (by decide) (by decide) rfl (by decide) (d := (1, 2)) rfl (hts _ k_47) (fun _ h9 => h9) (v := .int (Int32.ofNat cl)) (congrArg Value.int (y_RD.c2 hmi (by omega))) d_Reader_write_14 ?_
    refine lv_iload_n hx hb d_Reader_write_17 rfl (lv_at hl 1 rfl) ?_
    refine k_st hx hb hK hP hD hS 3 (by decide) (by decide) (by decide) (by decide) (j := Int32.ofNat cl) (x := xv) (x_inN (show cl < 72 from by omega) (by decide)) d_Reader_write_18 (fun H locs hP hD hS => ?_)
    rw [x_nat (a := cl) (by omega)] at hP hD
    refine lv_aload_n hx hb d_Reader_write_19 rfl (lv_at hl 0 rfl) ?_
    refine lv_dup hx hb d_Reader_write_20 rfl ?_
    refine k_g (C := "ChannelMachine$Reader") (F := F_Reader) (N := 9) hx hb hts i_Reader hown hK hP 1 3 (by decide) (by decide) rfl (by decide) (d := (1, 2)) rfl (hts _ k_47) (fun _ h9 => h9) (v := .int (Int32.ofNat cl)) (congrArg Value.int (y_RD.c2 hmi (by omega))) d_Reader_write_21 ?_
    refine lv_iconst (v := 1) hx hb d_Reader_write_24 (by decide) ?_
    refine lv_iadd hx hb d_Reader_write_25 ?_
    refine W.eq (g2 := F0 m 26 ls [.int (Int32.ofNat (cl + 1)), .ref (ad 1)]) (by rw [← x_addN (a := cl) (b := 1)] <;> rfl) ?_
    refine k_pi (C := "ChannelMachine$Reader") (F := F_Reader) (N := 9) hx hb hts i_Reader hown t_Reader t_Reader_ok n_Reader hK hP hD hS 1 3 (by decide) (by decide) rfl (by decide) (j := 2) (x := (Int32.ofNat (cl + 1))) rfl (hts _ k_47) (fun _ h9 => h9) rfl (by decide +kernel) d_Reader_write_26 (fun H locs hP hD hS => ?_)
    have hmi : y_RD (upd I 2 (Int32.ofNat (cl + 1))) (m_up A 3 (upd (A 3) cl xv)) (ln, cl + 1, lm, aa) := hmi.wr hxv (by omega)
    have hbn := hmi.2.1
    dsimp only at hbn
    refine y_know (fun hy91 hy92 hy93 hy94 => ?_)
    have hac9 : True := trivial
    refine W.widen (k := 0) (n := 0) (by omega) (by omega) ?_
    exact W.vret hx hb hr (fun t ht hW => ⟨⟨((upd I 2 (Int32.ofNat (cl + 1))), T, (m_up A 3 (upd (A 3) cl xv)), O, pl, (ln, cl + 1, lm, aa)), rfl, ⟨hmi, rfl, rfl, rfl, (m_fr.rf.up (by decide) _), rfl, rfl, by dsimp only; omega, by dsimp only; omega, rfl⟩, (by dsimp only; rw [ht]; exact ⟨hP, hD, hac9⟩)⟩, hS.F ht⟩) hS.2.2 d_Reader_write_29
