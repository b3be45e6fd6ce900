-- ===== 13.load: reading the empty text, by program =====
theorem k_19 : (Jvm.Cond.initialized "java/lang/Math") ∈ x_T := x_at 19 (by decide +kernel) (by decide +kernel)
theorem k_334 : (Jvm.Cond.methodLink "ChannelMachine$Reader" (63 : Nat) ({ cls := "ChannelMachine$Reader", name := "begin", desc := "(LChannelMachine$Process;I)LChannelMachine$Process;" } : Jvm.MethodName)) ∈ x_T := x_at 334 (by decide +kernel) (by decide +kernel)
theorem k_336 : (Jvm.Cond.instanceMethod ({ cls := "ChannelMachine$Reader", name := "begin", desc := "(LChannelMachine$Process;I)LChannelMachine$Process;" } : Jvm.MethodName)) ∈ x_T := x_at 336 (by decide +kernel) (by decide +kernel)
theorem k_337 : (Jvm.Cond.code ({ cls := "ChannelMachine$Reader", name := "begin", desc := "(LChannelMachine$Process;I)LChannelMachine$Process;" } : Jvm.MethodName) prog_8_method_14_code (7 : Nat) (Option.some (Jvm.ClassFile.FieldType.object "ChannelMachine$Process"))) ∈ x_T := x_at 337 (by decide +kernel) (by decide +kernel)
theorem k_338 : (Jvm.Cond.methodLink "ChannelMachine$Reader" (52 : Nat) ({ cls := "ChannelMachine$Reader", name := "look", desc := "()C" } : Jvm.MethodName)) ∈ x_T := x_at 338 (by decide +kernel) (by decide +kernel)
theorem k_340 : (Jvm.Cond.instanceMethod ({ cls := "ChannelMachine$Reader", name := "look", desc := "()C" } : Jvm.MethodName)) ∈ x_T := x_at 340 (by decide +kernel) (by decide +kernel)
theorem k_341 : (Jvm.Cond.code ({ cls := "ChannelMachine$Reader", name := "look", desc := "()C" } : Jvm.MethodName) prog_8_method_5_code (1 : Nat) (Option.some Jvm.ClassFile.FieldType.char)) ∈ x_T := x_at 341 (by decide +kernel) (by decide +kernel)
theorem k_342 : (Jvm.Cond.methodLink "ChannelMachine$Reader" (113 : Nat) ({ cls := "ChannelMachine$Reader", name := "lookBehindNext", desc := "()C" } : Jvm.MethodName)) ∈ x_T := x_at 342 (by decide +kernel) (by decide +kernel)
theorem k_344 : (Jvm.Cond.instanceMethod ({ cls := "ChannelMachine$Reader", name := "lookBehindNext", desc := "()C" } : Jvm.MethodName)) ∈ x_T := x_at 344 (by decide +kernel) (by decide +kernel)
theorem k_345 : (Jvm.Cond.code ({ cls := "ChannelMachine$Reader", name := "lookBehindNext", desc := "()C" } : Jvm.MethodName) prog_8_method_6_code (1 : Nat) (Option.some Jvm.ClassFile.FieldType.char)) ∈ x_T := x_at 345 (by decide +kernel) (by decide +kernel)
theorem k_346 : (Jvm.Cond.methodLink "ChannelMachine$Reader" (116 : Nat) ({ cls := "ChannelMachine$Reader", name := "kindOf", desc := "(CC)LChannelMachine$Kind;" } : Jvm.MethodName)) ∈ x_T := x_at 346 (by decide +kernel) (by decide +kernel)
theorem k_347 : (Jvm.Cond.static ({ cls := "ChannelMachine$Reader", name := "kindOf", desc := "(CC)LChannelMachine$Kind;" } : Jvm.MethodName)) ∈ x_T := x_at 347 (by decide +kernel) (by decide +kernel)
theorem k_348 : (Jvm.Cond.code ({ cls := "ChannelMachine$Reader", name := "kindOf", desc := "(CC)LChannelMachine$Kind;" } : Jvm.MethodName) prog_8_method_15_code (2 : Nat) (Option.some (Jvm.ClassFile.FieldType.object "ChannelMachine$Kind"))) ∈ x_T := x_at 348 (by decide +kernel) (by decide +kernel)
theorem k_359 : (Jvm.Cond.fieldLink "ChannelMachine$Reader" (120 : Nat) "ChannelMachine$Kind" "LOOP" "LChannelMachine$Kind;") ∈ x_T := x_at 359 (by decide +kernel) (by decide +kernel)
theorem k_361 : (Jvm.Cond.fieldLink "ChannelMachine$Reader" (123 : Nat) "ChannelMachine$Kind" "CONDITION" "LChannelMachine$Kind;") ∈ x_T := x_at 361 (by decide +kernel) (by decide +kernel)
theorem k_369 : (Jvm.Cond.methodLink "ChannelMachine$Reader" (60 : Nat) ({ cls := "ChannelMachine$Reader", name := "isVariable", desc := "(C)Z" } : Jvm.MethodName)) ∈ x_T := x_at 369 (by decide +kernel) (by decide +kernel)
theorem k_370 : (Jvm.Cond.static ({ cls := "ChannelMachine$Reader", name := "isVariable", desc := "(C)Z" } : Jvm.MethodName)) ∈ x_T := x_at 370 (by decide +kernel) (by decide +kernel)
theorem k_371 : (Jvm.Cond.code ({ cls := "ChannelMachine$Reader", name := "isVariable", desc := "(C)Z" } : Jvm.MethodName) prog_8_method_11_code (1 : Nat) (Option.some Jvm.ClassFile.FieldType.boolean)) ∈ x_T := x_at 371 (by decide +kernel) (by decide +kernel)
theorem k_374 : (Jvm.Cond.methodLink "ChannelMachine$Reader" (130 : Nat) ({ cls := "ChannelMachine$Reader", name := "channelOf", desc := "(C)I" } : Jvm.MethodName)) ∈ x_T := x_at 374 (by decide +kernel) (by decide +kernel)
theorem k_375 : (Jvm.Cond.static ({ cls := "ChannelMachine$Reader", name := "channelOf", desc := "(C)I" } : Jvm.MethodName)) ∈ x_T := x_at 375 (by decide +kernel) (by decide +kernel)
theorem k_376 : (Jvm.Cond.code ({ cls := "ChannelMachine$Reader", name := "channelOf", desc := "(C)I" } : Jvm.MethodName) prog_8_method_12_code (1 : Nat) (Option.some Jvm.ClassFile.FieldType.int)) ∈ x_T := x_at 376 (by decide +kernel) (by decide +kernel)
theorem k_477 : (Jvm.Cond.methodLink "ChannelMachine$Reader" (42 : Nat) ({ cls := "ChannelMachine$Reader", name := "refuse", desc := "()Z" } : Jvm.MethodName)) ∈ x_T := x_at 477 (by decide +kernel) (by decide +kernel)
theorem k_479 : (Jvm.Cond.instanceMethod ({ cls := "ChannelMachine$Reader", name := "refuse", desc := "()Z" } : Jvm.MethodName)) ∈ x_T := x_at 479 (by decide +kernel) (by decide +kernel)
theorem k_480 : (Jvm.Cond.code ({ cls := "ChannelMachine$Reader", name := "refuse", desc := "()Z" } : Jvm.MethodName) prog_8_method_7_code (1 : Nat) (Option.some Jvm.ClassFile.FieldType.boolean)) ∈ x_T := x_at 480 (by decide +kernel) (by decide +kernel)
theorem k_481 : (Jvm.Cond.methodLink "ChannelMachine$Reader" (46 : Nat) ({ cls := "java/lang/Math", name := "max", desc := "(II)I" } : Jvm.MethodName)) ∈ x_T := x_at 481 (by decide +kernel) (by decide +kernel)
theorem k_482 : (Jvm.Cond.static ({ cls := "java/lang/Math", name := "max", desc := "(II)I" } : Jvm.MethodName)) ∈ x_T := x_at 482 (by decide +kernel) (by decide +kernel)
theorem k_483 : (Jvm.Cond.code ({ cls := "java/lang/Math", name := "max", desc := "(II)I" } : Jvm.MethodName) prog_21_method_65_code (2 : Nat) (Option.some Jvm.ClassFile.FieldType.int)) ∈ x_T := x_at 483 (by decide +kernel) (by decide +kernel)
theorem kp_2 : (Jvm.Cond.selects "ChannelMachine$Reader" ({ cls := "ChannelMachine$Reader", name := "begin", desc := "(LChannelMachine$Process;I)LChannelMachine$Process;" } : Jvm.MethodName) ({ cls := "ChannelMachine$Reader", name := "begin", desc := "(LChannelMachine$Process;I)LChannelMachine$Process;" } : Jvm.MethodName)) ∈ x_T := x_sel (q := (({ cls := "ChannelMachine$Reader", name := "begin", desc := "(LChannelMachine$Process;I)LChannelMachine$Process;" } : Jvm.MethodName), 9)) 2 (by decide +kernel) (by decide +kernel)
theorem kp_3 : (Jvm.Cond.selects "ChannelMachine$Reader" ({ cls := "ChannelMachine$Reader", name := "look", desc := "()C" } : Jvm.MethodName) ({ cls := "ChannelMachine$Reader", name := "look", desc := "()C" } : Jvm.MethodName)) ∈ x_T := x_sel (q := (({ cls := "ChannelMachine$Reader", name := "look", desc := "()C" } : Jvm.MethodName), 9)) 3 (by decide +kernel) (by decide +kernel)
theorem kp_4 : (Jvm.Cond.selects "ChannelMachine$Reader" ({ cls := "ChannelMachine$Reader", name := "lookBehindNext", desc := "()C" } : Jvm.MethodName) ({ cls := "ChannelMachine$Reader", name := "lookBehindNext", desc := "()C" } : Jvm.MethodName)) ∈ x_T := x_sel (q := (({ cls := "ChannelMachine$Reader", name := "lookBehindNext", desc := "()C" } : Jvm.MethodName), 9)) 4 (by decide +kernel) (by decide +kernel)
theorem kp_6 : (Jvm.Cond.selects "ChannelMachine$Reader" ({ cls := "ChannelMachine$Reader", name := "refuse", desc := "()Z" } : Jvm.MethodName) ({ cls := "ChannelMachine$Reader", name := "refuse", desc := "()Z" } : Jvm.MethodName)) ∈ x_T := x_sel (q := (({ cls := "ChannelMachine$Reader", name := "refuse", desc := "()Z" } : Jvm.MethodName), 9)) 6 (by decide +kernel) (by decide +kernel)
theorem d_Reader_start_0 : decode prog_8_method_3_code 0 = .ok (.aload_n 0, 1) := by decide +kernel
theorem d_Reader_start_1 : decode prog_8_method_3_code 1 = .ok (.aload_n 0, 1) := by decide +kernel
theorem d_Reader_start_2 : decode prog_8_method_3_code 2 = .ok (.getfield 19, 3) := by decide +kernel
theorem d_Reader_start_5 : decode prog_8_method_3_code 5 = .ok (.putfield 26, 3) := by decide +kernel
theorem d_Reader_start_8 : decode prog_8_method_3_code 8 = .ok (.aload_n 0, 1) := by decide +kernel
theorem d_Reader_start_9 : decode prog_8_method_3_code 9 = .ok (.iconst 0, 1) := by decide +kernel
theorem d_Reader_start_10 : decode prog_8_method_3_code 10 = .ok (.putfield 29, 3) := by decide +kernel
theorem d_Reader_start_13 : decode prog_8_method_3_code 13 = .ok (.aload_n 0, 1) := by decide +kernel
theorem d_Reader_start_14 : decode prog_8_method_3_code 14 = .ok (.iconst 0, 1) := by decide +kernel
theorem d_Reader_start_15 : decode prog_8_method_3_code 15 = .ok (.putfield 32, 3) := by decide +kernel
theorem d_Reader_start_18 : decode prog_8_method_3_code 18 = .ok (.aload_n 0, 1) := by decide +kernel
theorem d_Reader_start_19 : decode prog_8_method_3_code 19 = .ok (.iconst 0, 1) := by decide +kernel
theorem d_Reader_start_20 : decode prog_8_method_3_code 20 = .ok (.putfield 35, 3) := by decide +kernel
theorem d_Reader_start_23 : decode prog_8_method_3_code 23 = .ok (.return_, 1) := by decide +kernel
theorem d_Reader_look_0 : decode prog_8_method_5_code 0 = .ok (.aload_n 0, 1) := by decide +kernel
theorem d_Reader_look_1 : decode prog_8_method_5_code 1 = .ok (.getfield 29, 3) := by decide +kernel
theorem d_Reader_look_4 : decode prog_8_method_5_code 4 = .ok (.aload_n 0, 1) := by decide +kernel
theorem d_Reader_look_5 : decode prog_8_method_5_code 5 = .ok (.getfield 26, 3) := by decide +kernel
theorem d_Reader_look_8 : decode prog_8_method_5_code 8 = .ok (.if_icmp .ge 24, 3) := by decide +kernel
theorem d_Reader_look_11 : decode prog_8_method_5_code 11 = .ok (.aload_n 0, 1) := by decide +kernel
theorem d_Reader_look_12 : decode prog_8_method_5_code 12 = .ok (.getfield 29, 3) := by decide +kernel
theorem d_Reader_look_15 : decode prog_8_method_5_code 15 = .ok (.bipush 72, 2) := by decide +kernel
theorem d_Reader_look_17 : decode prog_8_method_5_code 17 = .ok (.if_icmp .ge 15, 3) := by decide +kernel
theorem d_Reader_look_20 : decode prog_8_method_5_code 20 = .ok (.aload_n 0, 1) := by decide +kernel
theorem d_Reader_look_21 : decode prog_8_method_5_code 21 = .ok (.getfield 9, 3) := by decide +kernel
theorem d_Reader_look_24 : decode prog_8_method_5_code 24 = .ok (.aload_n 0, 1) := by decide +kernel
theorem d_Reader_look_25 : decode prog_8_method_5_code 25 = .ok (.getfield 29, 3) := by decide +kernel
theorem d_Reader_look_28 : decode prog_8_method_5_code 28 = .ok (.caload, 1) := by decide +kernel
theorem d_Reader_look_29 : decode prog_8_method_5_code 29 = .ok (.goto 4, 3) := by decide +kernel
theorem d_Reader_look_32 : decode prog_8_method_5_code 32 = .ok (.iconst 0, 1) := by decide +kernel
theorem d_Reader_look_33 : decode prog_8_method_5_code 33 = .ok (.ireturn, 1) := by decide +kernel
theorem d_Reader_lookBehindNext_0 : decode prog_8_method_6_code 0 = .ok (.aload_n 0, 1) := by decide +kernel
theorem d_Reader_lookBehindNext_1 : decode prog_8_method_6_code 1 = .ok (.getfield 29, 3) := by decide +kernel
theorem d_Reader_lookBehindNext_4 : decode prog_8_method_6_code 4 = .ok (.iconst 1, 1) := by decide +kernel
theorem d_Reader_lookBehindNext_5 : decode prog_8_method_6_code 5 = .ok (.iadd, 1) := by decide +kernel
theorem d_Reader_lookBehindNext_6 : decode prog_8_method_6_code 6 = .ok (.aload_n 0, 1) := by decide +kernel
theorem d_Reader_lookBehindNext_7 : decode prog_8_method_6_code 7 = .ok (.getfield 26, 3) := by decide +kernel
theorem d_Reader_lookBehindNext_10 : decode prog_8_method_6_code 10 = .ok (.if_icmp .ge 28, 3) := by decide +kernel
theorem d_Reader_lookBehindNext_13 : decode prog_8_method_6_code 13 = .ok (.aload_n 0, 1) := by decide +kernel
theorem d_Reader_lookBehindNext_14 : decode prog_8_method_6_code 14 = .ok (.getfield 29, 3) := by decide +kernel
theorem d_Reader_lookBehindNext_17 : decode prog_8_method_6_code 17 = .ok (.iconst 1, 1) := by decide +kernel
theorem d_Reader_lookBehindNext_18 : decode prog_8_method_6_code 18 = .ok (.iadd, 1) := by decide +kernel
theorem d_Reader_lookBehindNext_19 : decode prog_8_method_6_code 19 = .ok (.bipush 72, 2) := by decide +kernel
theorem d_Reader_lookBehindNext_21 : decode prog_8_method_6_code 21 = .ok (.if_icmp .ge 17, 3) := by decide +kernel
theorem d_Reader_lookBehindNext_24 : decode prog_8_method_6_code 24 = .ok (.aload_n 0, 1) := by decide +kernel
theorem d_Reader_lookBehindNext_25 : decode prog_8_method_6_code 25 = .ok (.getfield 9, 3) := by decide +kernel
theorem d_Reader_lookBehindNext_28 : decode prog_8_method_6_code 28 = .ok (.aload_n 0, 1) := by decide +kernel
theorem d_Reader_lookBehindNext_29 : decode prog_8_method_6_code 29 = .ok (.getfield 29, 3) := by decide +kernel
theorem d_Reader_lookBehindNext_32 : decode prog_8_method_6_code 32 = .ok (.iconst 1, 1) := by decide +kernel
theorem d_Reader_lookBehindNext_33 : decode prog_8_method_6_code 33 = .ok (.iadd, 1) := by decide +kernel
theorem d_Reader_lookBehindNext_34 : decode prog_8_method_6_code 34 = .ok (.caload, 1) := by decide +kernel
theorem d_Reader_lookBehindNext_35 : decode prog_8_method_6_code 35 = .ok (.goto 4, 3) := by decide +kernel
theorem d_Reader_lookBehindNext_38 : decode prog_8_method_6_code 38 = .ok (.iconst 0, 1) := by decide +kernel
theorem d_Reader_lookBehindNext_39 : decode prog_8_method_6_code 39 = .ok (.ireturn, 1) := by decide +kernel
theorem d_Reader_refuse_0 : decode prog_8_method_7_code 0 = .ok (.aload_n 0, 1) := by decide +kernel
theorem d_Reader_refuse_1 : decode prog_8_method_7_code 1 = .ok (.aload_n 0, 1) := by decide +kernel
theorem d_Reader_refuse_2 : decode prog_8_method_7_code 2 = .ok (.getfield 32, 3) := by decide +kernel
theorem d_Reader_refuse_5 : decode prog_8_method_7_code 5 = .ok (.aload_n 0, 1) := by decide +kernel
theorem d_Reader_refuse_6 : decode prog_8_method_7_code 6 = .ok (.getfield 29, 3) := by decide +kernel
theorem d_Reader_refuse_9 : decode prog_8_method_7_code 9 = .ok (.invokestatic 46, 3) := by decide +kernel
theorem d_Reader_refuse_12 : decode prog_8_method_7_code 12 = .ok (.putfield 32, 3) := by decide +kernel
theorem d_Reader_refuse_15 : decode prog_8_method_7_code 15 = .ok (.iconst 0, 1) := by decide +kernel
theorem d_Reader_refuse_16 : decode prog_8_method_7_code 16 = .ok (.ireturn, 1) := by decide +kernel
theorem d_Reader_isVariable_0 : decode prog_8_method_11_code 0 = .ok (.iload_n 0, 1) := by decide +kernel
theorem d_Reader_isVariable_1 : decode prog_8_method_11_code 1 = .ok (.bipush 97, 2) := by decide +kernel
theorem d_Reader_isVariable_3 : decode prog_8_method_11_code 3 = .ok (.if_icmp .lt 13, 3) := by decide +kernel
theorem d_Reader_isVariable_6 : decode prog_8_method_11_code 6 = .ok (.iload_n 0, 1) := by decide +kernel
theorem d_Reader_isVariable_7 : decode prog_8_method_11_code 7 = .ok (.bipush 102, 2) := by decide +kernel
theorem d_Reader_isVariable_9 : decode prog_8_method_11_code 9 = .ok (.if_icmp .gt 7, 3) := by decide +kernel
theorem d_Reader_isVariable_12 : decode prog_8_method_11_code 12 = .ok (.iconst 1, 1) := by decide +kernel
theorem d_Reader_isVariable_13 : decode prog_8_method_11_code 13 = .ok (.goto 4, 3) := by decide +kernel
theorem d_Reader_isVariable_16 : decode prog_8_method_11_code 16 = .ok (.iconst 0, 1) := by decide +kernel
theorem d_Reader_isVariable_17 : decode prog_8_method_11_code 17 = .ok (.ireturn, 1) := by decide +kernel
theorem d_Reader_channelOf_0 : decode prog_8_method_12_code 0 = .ok (.iload_n 0, 1) := by decide +kernel
theorem d_Reader_channelOf_1 : decode prog_8_method_12_code 1 = .ok (.bipush 73, 2) := by decide +kernel
theorem d_Reader_channelOf_3 : decode prog_8_method_12_code 3 = .ok (.if_icmp .ne 5, 3) := by decide +kernel
theorem d_Reader_channelOf_6 : decode prog_8_method_12_code 6 = .ok (.iconst 4, 1) := by decide +kernel
theorem d_Reader_channelOf_7 : decode prog_8_method_12_code 7 = .ok (.ireturn, 1) := by decide +kernel
theorem d_Reader_channelOf_8 : decode prog_8_method_12_code 8 = .ok (.iload_n 0, 1) := by decide +kernel
theorem d_Reader_channelOf_9 : decode prog_8_method_12_code 9 = .ok (.bipush 79, 2) := by decide +kernel
theorem d_Reader_channelOf_11 : decode prog_8_method_12_code 11 = .ok (.if_icmp .ne 5, 3) := by decide +kernel
theorem d_Reader_channelOf_14 : decode prog_8_method_12_code 14 = .ok (.iconst 5, 1) := by decide +kernel
theorem d_Reader_channelOf_15 : decode prog_8_method_12_code 15 = .ok (.ireturn, 1) := by decide +kernel
theorem d_Reader_channelOf_16 : decode prog_8_method_12_code 16 = .ok (.iload_n 0, 1) := by decide +kernel
theorem d_Reader_channelOf_17 : decode prog_8_method_12_code 17 = .ok (.bipush 65, 2) := by decide +kernel
theorem d_Reader_channelOf_19 : decode prog_8_method_12_code 19 = .ok (.if_icmp .lt 16, 3) := by decide +kernel
theorem d_Reader_channelOf_22 : decode prog_8_method_12_code 22 = .ok (.iload_n 0, 1) := by decide +kernel
theorem d_Reader_channelOf_23 : decode prog_8_method_12_code 23 = .ok (.bipush 68, 2) := by decide +kernel
theorem d_Reader_channelOf_25 : decode prog_8_method_12_code 25 = .ok (.if_icmp .gt 10, 3) := by decide +kernel
theorem d_Reader_channelOf_28 : decode prog_8_method_12_code 28 = .ok (.iload_n 0, 1) := by decide +kernel
theorem d_Reader_channelOf_29 : decode prog_8_method_12_code 29 = .ok (.bipush 65, 2) := by decide +kernel
theorem d_Reader_channelOf_31 : decode prog_8_method_12_code 31 = .ok (.isub, 1) := by decide +kernel
theorem d_Reader_channelOf_32 : decode prog_8_method_12_code 32 = .ok (.goto 4, 3) := by decide +kernel
theorem d_Reader_channelOf_35 : decode prog_8_method_12_code 35 = .ok (.iconst (-1), 1) := by decide +kernel
theorem d_Reader_channelOf_36 : decode prog_8_method_12_code 36 = .ok (.ireturn, 1) := by decide +kernel
theorem d_Reader_kindOf_0 : decode prog_8_method_15_code 0 = .ok (.iload_n 0, 1) := by decide +kernel
theorem d_Reader_kindOf_1 : decode prog_8_method_15_code 1 = .ok (.lookupswitch 131 #[(35, 95), (40, 99), (46, 91), (63, 115), (64, 119), (73, 127), (79, 123), (91, 107), (94, 111), (123, 103)], 91) := by decide +kernel
theorem d_Reader_kindOf_92 : decode prog_8_method_15_code 92 = .ok (.getstatic 140, 3) := by decide +kernel
theorem d_Reader_kindOf_95 : decode prog_8_method_15_code 95 = .ok (.areturn, 1) := by decide +kernel
theorem d_Reader_kindOf_96 : decode prog_8_method_15_code 96 = .ok (.getstatic 143, 3) := by decide +kernel
theorem d_Reader_kindOf_99 : decode prog_8_method_15_code 99 = .ok (.areturn, 1) := by decide +kernel
theorem d_Reader_kindOf_100 : decode prog_8_method_15_code 100 = .ok (.getstatic 146, 3) := by decide +kernel
theorem d_Reader_kindOf_103 : decode prog_8_method_15_code 103 = .ok (.areturn, 1) := by decide +kernel
theorem d_Reader_kindOf_104 : decode prog_8_method_15_code 104 = .ok (.getstatic 149, 3) := by decide +kernel
theorem d_Reader_kindOf_107 : decode prog_8_method_15_code 107 = .ok (.areturn, 1) := by decide +kernel
theorem d_Reader_kindOf_108 : decode prog_8_method_15_code 108 = .ok (.getstatic 152, 3) := by decide +kernel
theorem d_Reader_kindOf_111 : decode prog_8_method_15_code 111 = .ok (.areturn, 1) := by decide +kernel
theorem d_Reader_kindOf_112 : decode prog_8_method_15_code 112 = .ok (.getstatic 120, 3) := by decide +kernel
theorem d_Reader_kindOf_115 : decode prog_8_method_15_code 115 = .ok (.areturn, 1) := by decide +kernel
theorem d_Reader_kindOf_116 : decode prog_8_method_15_code 116 = .ok (.getstatic 123, 3) := by decide +kernel
theorem d_Reader_kindOf_119 : decode prog_8_method_15_code 119 = .ok (.areturn, 1) := by decide +kernel
theorem d_Reader_kindOf_120 : decode prog_8_method_15_code 120 = .ok (.getstatic 155, 3) := by decide +kernel
theorem d_Reader_kindOf_123 : decode prog_8_method_15_code 123 = .ok (.areturn, 1) := by decide +kernel
theorem d_Reader_kindOf_124 : decode prog_8_method_15_code 124 = .ok (.getstatic 158, 3) := by decide +kernel
theorem d_Reader_kindOf_127 : decode prog_8_method_15_code 127 = .ok (.areturn, 1) := by decide +kernel
theorem d_Reader_kindOf_128 : decode prog_8_method_15_code 128 = .ok (.getstatic 161, 3) := by decide +kernel
theorem d_Reader_kindOf_131 : decode prog_8_method_15_code 131 = .ok (.areturn, 1) := by decide +kernel
theorem d_Reader_kindOf_132 : decode prog_8_method_15_code 132 = .ok (.iload_n 0, 1) := by decide +kernel
theorem d_Reader_kindOf_133 : decode prog_8_method_15_code 133 = .ok (.invokestatic 60, 3) := by decide +kernel
theorem d_Reader_kindOf_136 : decode prog_8_method_15_code 136 = .ok (.ifCond .eq 7, 3) := by decide +kernel
theorem d_Reader_kindOf_139 : decode prog_8_method_15_code 139 = .ok (.getstatic 137, 3) := by decide +kernel
theorem d_Reader_kindOf_142 : decode prog_8_method_15_code 142 = .ok (.areturn, 1) := by decide +kernel
theorem d_Reader_kindOf_143 : decode prog_8_method_15_code 143 = .ok (.iload_n 0, 1) := by decide +kernel
theorem d_Reader_kindOf_144 : decode prog_8_method_15_code 144 = .ok (.invokestatic 130, 3) := by decide +kernel
theorem d_Reader_kindOf_147 : decode prog_8_method_15_code 147 = .ok (.iconst (-1), 1) := by decide +kernel
theorem d_Reader_kindOf_148 : decode prog_8_method_15_code 148 = .ok (.if_icmp .ne 5, 3) := by decide +kernel
theorem d_Reader_kindOf_151 : decode prog_8_method_15_code 151 = .ok (.aconst_null, 1) := by decide +kernel
theorem d_Reader_kindOf_152 : decode prog_8_method_15_code 152 = .ok (.areturn, 1) := by decide +kernel
theorem d_Reader_kindOf_153 : decode prog_8_method_15_code 153 = .ok (.iload_n 1, 1) := by decide +kernel
theorem d_Reader_kindOf_154 : decode prog_8_method_15_code 154 = .ok (.bipush 33, 2) := by decide +kernel
theorem d_Reader_kindOf_156 : decode prog_8_method_15_code 156 = .ok (.if_icmp .ne 9, 3) := by decide +kernel
theorem d_Reader_kindOf_159 : decode prog_8_method_15_code 159 = .ok (.getstatic 158, 3) := by decide +kernel
theorem d_Reader_kindOf_162 : decode prog_8_method_15_code 162 = .ok (.goto 6, 3) := by decide +kernel
theorem d_Reader_kindOf_165 : decode prog_8_method_15_code 165 = .ok (.getstatic 161, 3) := by decide +kernel
theorem d_Reader_kindOf_168 : decode prog_8_method_15_code 168 = .ok (.areturn, 1) := by decide +kernel
theorem d_Reader_begin_0 : decode prog_8_method_14_code 0 = .ok (.aload_n 0, 1) := by decide +kernel
theorem d_Reader_begin_1 : decode prog_8_method_14_code 1 = .ok (.invokevirtual 52, 3) := by decide +kernel
theorem d_Reader_begin_4 : decode prog_8_method_14_code 4 = .ok (.istore_n 3, 1) := by decide +kernel
theorem d_Reader_begin_5 : decode prog_8_method_14_code 5 = .ok (.iload_n 3, 1) := by decide +kernel
theorem d_Reader_begin_6 : decode prog_8_method_14_code 6 = .ok (.aload_n 0, 1) := by decide +kernel
theorem d_Reader_begin_7 : decode prog_8_method_14_code 7 = .ok (.invokevirtual 113, 3) := by decide +kernel
theorem d_Reader_begin_10 : decode prog_8_method_14_code 10 = .ok (.invokestatic 116, 3) := by decide +kernel
theorem d_Reader_begin_13 : decode prog_8_method_14_code 13 = .ok (.astore 4, 2) := by decide +kernel
theorem d_Reader_begin_15 : decode prog_8_method_14_code 15 = .ok (.aload 4, 2) := by decide +kernel
theorem d_Reader_begin_17 : decode prog_8_method_14_code 17 = .ok (.getstatic 120, 3) := by decide +kernel
theorem d_Reader_begin_20 : decode prog_8_method_14_code 20 = .ok (.if_acmp .eq 11, 3) := by decide +kernel
theorem d_Reader_begin_23 : decode prog_8_method_14_code 23 = .ok (.aload 4, 2) := by decide +kernel
theorem d_Reader_begin_25 : decode prog_8_method_14_code 25 = .ok (.getstatic 123, 3) := by decide +kernel
theorem d_Reader_begin_28 : decode prog_8_method_14_code 28 = .ok (.if_acmp .ne 7, 3) := by decide +kernel
theorem d_Reader_begin_31 : decode prog_8_method_14_code 31 = .ok (.iconst 1, 1) := by decide +kernel
theorem d_Reader_begin_32 : decode prog_8_method_14_code 32 = .ok (.goto 4, 3) := by decide +kernel
theorem d_Reader_begin_35 : decode prog_8_method_14_code 35 = .ok (.iconst 0, 1) := by decide +kernel
theorem d_Reader_begin_36 : decode prog_8_method_14_code 36 = .ok (.istore 5, 2) := by decide +kernel
theorem d_Reader_begin_38 : decode prog_8_method_14_code 38 = .ok (.aload 4, 2) := by decide +kernel
theorem d_Reader_begin_40 : decode prog_8_method_14_code 40 = .ok (.ifnull 14, 3) := by decide +kernel
theorem d_Reader_begin_43 : decode prog_8_method_14_code 43 = .ok (.iload 5, 2) := by decide +kernel
theorem d_Reader_begin_45 : decode prog_8_method_14_code 45 = .ok (.ifCond .eq 11, 3) := by decide +kernel
theorem d_Reader_begin_48 : decode prog_8_method_14_code 48 = .ok (.iload_n 2, 1) := by decide +kernel
theorem d_Reader_begin_49 : decode prog_8_method_14_code 49 = .ok (.bipush 7, 2) := by decide +kernel
theorem d_Reader_begin_51 : decode prog_8_method_14_code 51 = .ok (.if_icmp .ne 5, 3) := by decide +kernel
theorem d_Reader_begin_54 : decode prog_8_method_14_code 54 = .ok (.aconst_null, 1) := by decide +kernel
theorem d_Reader_begin_55 : decode prog_8_method_14_code 55 = .ok (.areturn, 1) := by decide +kernel
theorem d_Reader_begin_56 : decode prog_8_method_14_code 56 = .ok (.aload_n 0, 1) := by decide +kernel
theorem d_Reader_begin_57 : decode prog_8_method_14_code 57 = .ok (.aload 4, 2) := by decide +kernel
theorem d_Reader_begin_59 : decode prog_8_method_14_code 59 = .ok (.aload_n 1, 1) := by decide +kernel
theorem d_Reader_begin_60 : decode prog_8_method_14_code 60 = .ok (.invokevirtual 126, 3) := by decide +kernel
theorem d_Reader_begin_63 : decode prog_8_method_14_code 63 = .ok (.astore 6, 2) := by decide +kernel
theorem d_Reader_begin_65 : decode prog_8_method_14_code 65 = .ok (.aload 6, 2) := by decide +kernel
theorem d_Reader_begin_67 : decode prog_8_method_14_code 67 = .ok (.iload_n 3, 1) := by decide +kernel
theorem d_Reader_begin_68 : decode prog_8_method_14_code 68 = .ok (.invokestatic 130, 3) := by decide +kernel
theorem d_Reader_begin_71 : decode prog_8_method_14_code 71 = .ok (.putfield 134, 3) := by decide +kernel
theorem d_Reader_begin_74 : decode prog_8_method_14_code 74 = .ok (.aload 4, 2) := by decide +kernel
theorem d_Reader_begin_76 : decode prog_8_method_14_code 76 = .ok (.getstatic 137, 3) := by decide +kernel
theorem d_Reader_begin_79 : decode prog_8_method_14_code 79 = .ok (.if_acmp .ne 12, 3) := by decide +kernel
theorem d_Reader_begin_82 : decode prog_8_method_14_code 82 = .ok (.aload 6, 2) := by decide +kernel
theorem d_Reader_begin_84 : decode prog_8_method_14_code 84 = .ok (.iload_n 3, 1) := by decide +kernel
theorem d_Reader_begin_85 : decode prog_8_method_14_code 85 = .ok (.bipush 97, 2) := by decide +kernel
theorem d_Reader_begin_87 : decode prog_8_method_14_code 87 = .ok (.isub, 1) := by decide +kernel
theorem d_Reader_begin_88 : decode prog_8_method_14_code 88 = .ok (.putfield 95, 3) := by decide +kernel
theorem d_Reader_begin_91 : decode prog_8_method_14_code 91 = .ok (.aload_n 0, 1) := by decide +kernel
theorem d_Reader_begin_92 : decode prog_8_method_14_code 92 = .ok (.dup, 1) := by decide +kernel
theorem d_Reader_begin_93 : decode prog_8_method_14_code 93 = .ok (.getfield 29, 3) := by decide +kernel
theorem d_Reader_begin_96 : decode prog_8_method_14_code 96 = .ok (.iconst 1, 1) := by decide +kernel
theorem d_Reader_begin_97 : decode prog_8_method_14_code 97 = .ok (.iadd, 1) := by decide +kernel
theorem d_Reader_begin_98 : decode prog_8_method_14_code 98 = .ok (.putfield 29, 3) := by decide +kernel
theorem d_Reader_begin_101 : decode prog_8_method_14_code 101 = .ok (.aload 6, 2) := by decide +kernel
theorem d_Reader_begin_103 : decode prog_8_method_14_code 103 = .ok (.areturn, 1) := by decide +kernel
theorem d_Reader_process_0 : decode prog_8_method_13_code 0 = .ok (.iload_n 2, 1) := by decide +kernel
theorem d_Reader_process_1 : decode prog_8_method_13_code 1 = .ok (.bipush 7, 2) := by decide +kernel
theorem d_Reader_process_3 : decode prog_8_method_13_code 3 = .ok (.if_icmp .le 7, 3) := by decide +kernel
theorem d_Reader_process_6 : decode prog_8_method_13_code 6 = .ok (.aconst_null, 1) := by decide +kernel
theorem d_Reader_process_7 : decode prog_8_method_13_code 7 = .ok (.goto 9, 3) := by decide +kernel
theorem d_Reader_process_10 : decode prog_8_method_13_code 10 = .ok (.aload_n 0, 1) := by decide +kernel
theorem d_Reader_process_11 : decode prog_8_method_13_code 11 = .ok (.aload_n 1, 1) := by decide +kernel
theorem d_Reader_process_12 : decode prog_8_method_13_code 12 = .ok (.iload_n 2, 1) := by decide +kernel
theorem d_Reader_process_13 : decode prog_8_method_13_code 13 = .ok (.invokevirtual 63, 3) := by decide +kernel
theorem d_Reader_process_16 : decode prog_8_method_13_code 16 = .ok (.astore 4, 2) := by decide +kernel
theorem d_Reader_process_18 : decode prog_8_method_13_code 18 = .ok (.aload 4, 2) := by decide +kernel
theorem d_Reader_process_20 : decode prog_8_method_13_code 20 = .ok (.ifnonnull 8, 3) := by decide +kernel
theorem d_Reader_process_23 : decode prog_8_method_13_code 23 = .ok (.aload_n 0, 1) := by decide +kernel
theorem d_Reader_process_24 : decode prog_8_method_13_code 24 = .ok (.invokevirtual 42, 3) := by decide +kernel
theorem d_Reader_process_27 : decode prog_8_method_13_code 27 = .ok (.ireturn, 1) := by decide +kernel
theorem d_Reader_process_28 : decode prog_8_method_13_code 28 = .ok (.getstatic 67, 3) := by decide +kernel
theorem d_Reader_process_31 : decode prog_8_method_13_code 31 = .ok (.aload 4, 2) := by decide +kernel
theorem d_Reader_process_33 : decode prog_8_method_13_code 33 = .ok (.getfield 72, 3) := by decide +kernel
theorem d_Reader_process_36 : decode prog_8_method_13_code 36 = .ok (.invokevirtual 78, 3) := by decide +kernel
theorem d_Reader_process_39 : decode prog_8_method_13_code 39 = .ok (.iaload, 1) := by decide +kernel
theorem d_Reader_process_40 : decode prog_8_method_13_code 40 = .ok (.tableswitch 302 1 9 #[52, 81, 110, 122, 146, 173, 199, 224, 252], 52) := by decide +kernel
theorem d_Reader_process_92 : decode prog_8_method_13_code 92 = .ok (.aload_n 0, 1) := by decide +kernel
theorem d_Reader_process_93 : decode prog_8_method_13_code 93 = .ok (.bipush 58, 2) := by decide +kernel
theorem d_Reader_process_95 : decode prog_8_method_13_code 95 = .ok (.invokevirtual 56, 3) := by decide +kernel
theorem d_Reader_process_98 : decode prog_8_method_13_code 98 = .ok (.ifCond .eq 21, 3) := by decide +kernel
theorem d_Reader_process_101 : decode prog_8_method_13_code 101 = .ok (.aload_n 0, 1) := by decide +kernel
theorem d_Reader_process_102 : decode prog_8_method_13_code 102 = .ok (.aload 4, 2) := by decide +kernel
theorem d_Reader_process_104 : decode prog_8_method_13_code 104 = .ok (.aload_n 0, 1) := by decide +kernel
theorem d_Reader_process_105 : decode prog_8_method_13_code 105 = .ok (.iload_n 3, 1) := by decide +kernel
theorem d_Reader_process_106 : decode prog_8_method_13_code 106 = .ok (.invokevirtual 84, 3) := by decide +kernel
theorem d_Reader_process_109 : decode prog_8_method_13_code 109 = .ok (.invokevirtual 88, 3) := by decide +kernel
theorem d_Reader_process_112 : decode prog_8_method_13_code 112 = .ok (.ifCond .eq 7, 3) := by decide +kernel
theorem d_Reader_process_115 : decode prog_8_method_13_code 115 = .ok (.iconst 1, 1) := by decide +kernel
theorem d_Reader_process_116 : decode prog_8_method_13_code 116 = .ok (.goto 4, 3) := by decide +kernel
theorem d_Reader_process_119 : decode prog_8_method_13_code 119 = .ok (.iconst 0, 1) := by decide +kernel
theorem d_Reader_process_120 : decode prog_8_method_13_code 120 = .ok (.ireturn, 1) := by decide +kernel
theorem d_Reader_process_121 : decode prog_8_method_13_code 121 = .ok (.aload_n 0, 1) := by decide +kernel
theorem d_Reader_process_122 : decode prog_8_method_13_code 122 = .ok (.bipush 33, 2) := by decide +kernel
theorem d_Reader_process_124 : decode prog_8_method_13_code 124 = .ok (.invokevirtual 56, 3) := by decide +kernel
theorem d_Reader_process_127 : decode prog_8_method_13_code 127 = .ok (.ifCond .eq 21, 3) := by decide +kernel
theorem d_Reader_process_130 : decode prog_8_method_13_code 130 = .ok (.aload_n 0, 1) := by decide +kernel
theorem d_Reader_process_131 : decode prog_8_method_13_code 131 = .ok (.aload 4, 2) := by decide +kernel
theorem d_Reader_process_133 : decode prog_8_method_13_code 133 = .ok (.aload_n 0, 1) := by decide +kernel
theorem d_Reader_process_134 : decode prog_8_method_13_code 134 = .ok (.iload_n 3, 1) := by decide +kernel
theorem d_Reader_process_135 : decode prog_8_method_13_code 135 = .ok (.invokevirtual 84, 3) := by decide +kernel
theorem d_Reader_process_138 : decode prog_8_method_13_code 138 = .ok (.invokevirtual 88, 3) := by decide +kernel
theorem d_Reader_process_141 : decode prog_8_method_13_code 141 = .ok (.ifCond .eq 7, 3) := by decide +kernel
theorem d_Reader_process_144 : decode prog_8_method_13_code 144 = .ok (.iconst 1, 1) := by decide +kernel
theorem d_Reader_process_145 : decode prog_8_method_13_code 145 = .ok (.goto 4, 3) := by decide +kernel
theorem d_Reader_process_148 : decode prog_8_method_13_code 148 = .ok (.iconst 0, 1) := by decide +kernel
theorem d_Reader_process_149 : decode prog_8_method_13_code 149 = .ok (.ireturn, 1) := by decide +kernel
theorem d_Reader_process_150 : decode prog_8_method_13_code 150 = .ok (.aload_n 0, 1) := by decide +kernel
theorem d_Reader_process_151 : decode prog_8_method_13_code 151 = .ok (.aload 4, 2) := by decide +kernel
theorem d_Reader_process_153 : decode prog_8_method_13_code 153 = .ok (.aload_n 0, 1) := by decide +kernel
theorem d_Reader_process_154 : decode prog_8_method_13_code 154 = .ok (.iload_n 3, 1) := by decide +kernel
theorem d_Reader_process_155 : decode prog_8_method_13_code 155 = .ok (.invokevirtual 84, 3) := by decide +kernel
theorem d_Reader_process_158 : decode prog_8_method_13_code 158 = .ok (.invokevirtual 88, 3) := by decide +kernel
theorem d_Reader_process_161 : decode prog_8_method_13_code 161 = .ok (.ireturn, 1) := by decide +kernel
theorem d_Reader_process_162 : decode prog_8_method_13_code 162 = .ok (.aload 4, 2) := by decide +kernel
theorem d_Reader_process_164 : decode prog_8_method_13_code 164 = .ok (.aload_n 0, 1) := by decide +kernel
theorem d_Reader_process_165 : decode prog_8_method_13_code 165 = .ok (.invokevirtual 92, 3) := by decide +kernel
theorem d_Reader_process_168 : decode prog_8_method_13_code 168 = .ok (.putfield 95, 3) := by decide +kernel
theorem d_Reader_process_171 : decode prog_8_method_13_code 171 = .ok (.aload 4, 2) := by decide +kernel
theorem d_Reader_process_173 : decode prog_8_method_13_code 173 = .ok (.getfield 95, 3) := by decide +kernel
theorem d_Reader_process_176 : decode prog_8_method_13_code 176 = .ok (.iconst (-1), 1) := by decide +kernel
theorem d_Reader_process_177 : decode prog_8_method_13_code 177 = .ok (.if_icmp .eq 7, 3) := by decide +kernel
theorem d_Reader_process_180 : decode prog_8_method_13_code 180 = .ok (.iconst 1, 1) := by decide +kernel
theorem d_Reader_process_181 : decode prog_8_method_13_code 181 = .ok (.goto 4, 3) := by decide +kernel
theorem d_Reader_process_184 : decode prog_8_method_13_code 184 = .ok (.iconst 0, 1) := by decide +kernel
theorem d_Reader_process_185 : decode prog_8_method_13_code 185 = .ok (.ireturn, 1) := by decide +kernel
theorem d_Reader_process_186 : decode prog_8_method_13_code 186 = .ok (.aload_n 0, 1) := by decide +kernel
theorem d_Reader_process_187 : decode prog_8_method_13_code 187 = .ok (.aload 4, 2) := by decide +kernel
theorem d_Reader_process_189 : decode prog_8_method_13_code 189 = .ok (.iload_n 2, 1) := by decide +kernel
theorem d_Reader_process_190 : decode prog_8_method_13_code 190 = .ok (.bipush 72, 2) := by decide +kernel
theorem d_Reader_process_192 : decode prog_8_method_13_code 192 = .ok (.invokevirtual 98, 3) := by decide +kernel
theorem d_Reader_process_195 : decode prog_8_method_13_code 195 = .ok (.ifCond .eq 16, 3) := by decide +kernel
theorem d_Reader_process_198 : decode prog_8_method_13_code 198 = .ok (.aload_n 0, 1) := by decide +kernel
theorem d_Reader_process_199 : decode prog_8_method_13_code 199 = .ok (.bipush 41, 2) := by decide +kernel
theorem d_Reader_process_201 : decode prog_8_method_13_code 201 = .ok (.invokevirtual 56, 3) := by decide +kernel
theorem d_Reader_process_204 : decode prog_8_method_13_code 204 = .ok (.ifCond .eq 7, 3) := by decide +kernel
theorem d_Reader_process_207 : decode prog_8_method_13_code 207 = .ok (.iconst 1, 1) := by decide +kernel
theorem d_Reader_process_208 : decode prog_8_method_13_code 208 = .ok (.goto 4, 3) := by decide +kernel
theorem d_Reader_process_211 : decode prog_8_method_13_code 211 = .ok (.iconst 0, 1) := by decide +kernel
theorem d_Reader_process_212 : decode prog_8_method_13_code 212 = .ok (.ireturn, 1) := by decide +kernel
theorem d_Reader_process_213 : decode prog_8_method_13_code 213 = .ok (.aload_n 0, 1) := by decide +kernel
theorem d_Reader_process_214 : decode prog_8_method_13_code 214 = .ok (.aload 4, 2) := by decide +kernel
theorem d_Reader_process_216 : decode prog_8_method_13_code 216 = .ok (.iload_n 2, 1) := by decide +kernel
theorem d_Reader_process_217 : decode prog_8_method_13_code 217 = .ok (.iconst 4, 1) := by decide +kernel
theorem d_Reader_process_218 : decode prog_8_method_13_code 218 = .ok (.invokevirtual 98, 3) := by decide +kernel
theorem d_Reader_process_221 : decode prog_8_method_13_code 221 = .ok (.ifCond .eq 16, 3) := by decide +kernel
theorem d_Reader_process_224 : decode prog_8_method_13_code 224 = .ok (.aload_n 0, 1) := by decide +kernel
theorem d_Reader_process_225 : decode prog_8_method_13_code 225 = .ok (.bipush 125, 2) := by decide +kernel
theorem d_Reader_process_227 : decode prog_8_method_13_code 227 = .ok (.invokevirtual 56, 3) := by decide +kernel
theorem d_Reader_process_230 : decode prog_8_method_13_code 230 = .ok (.ifCond .eq 7, 3) := by decide +kernel
theorem d_Reader_process_233 : decode prog_8_method_13_code 233 = .ok (.iconst 1, 1) := by decide +kernel
theorem d_Reader_process_234 : decode prog_8_method_13_code 234 = .ok (.goto 4, 3) := by decide +kernel
theorem d_Reader_process_237 : decode prog_8_method_13_code 237 = .ok (.iconst 0, 1) := by decide +kernel
theorem d_Reader_process_238 : decode prog_8_method_13_code 238 = .ok (.ireturn, 1) := by decide +kernel
theorem d_Reader_process_239 : decode prog_8_method_13_code 239 = .ok (.aload_n 0, 1) := by decide +kernel
theorem d_Reader_process_240 : decode prog_8_method_13_code 240 = .ok (.aload 4, 2) := by decide +kernel
theorem d_Reader_process_242 : decode prog_8_method_13_code 242 = .ok (.iload_n 2, 1) := by decide +kernel
theorem d_Reader_process_243 : decode prog_8_method_13_code 243 = .ok (.invokevirtual 102, 3) := by decide +kernel
theorem d_Reader_process_246 : decode prog_8_method_13_code 246 = .ok (.ifCond .eq 16, 3) := by decide +kernel
theorem d_Reader_process_249 : decode prog_8_method_13_code 249 = .ok (.aload_n 0, 1) := by decide +kernel
theorem d_Reader_process_250 : decode prog_8_method_13_code 250 = .ok (.bipush 93, 2) := by decide +kernel
theorem d_Reader_process_252 : decode prog_8_method_13_code 252 = .ok (.invokevirtual 56, 3) := by decide +kernel
theorem d_Reader_process_255 : decode prog_8_method_13_code 255 = .ok (.ifCond .eq 7, 3) := by decide +kernel
theorem d_Reader_process_258 : decode prog_8_method_13_code 258 = .ok (.iconst 1, 1) := by decide +kernel
theorem d_Reader_process_259 : decode prog_8_method_13_code 259 = .ok (.goto 4, 3) := by decide +kernel
theorem d_Reader_process_262 : decode prog_8_method_13_code 262 = .ok (.iconst 0, 1) := by decide +kernel
theorem d_Reader_process_263 : decode prog_8_method_13_code 263 = .ok (.ireturn, 1) := by decide +kernel
theorem d_Reader_process_264 : decode prog_8_method_13_code 264 = .ok (.aload_n 0, 1) := by decide +kernel
theorem d_Reader_process_265 : decode prog_8_method_13_code 265 = .ok (.aload 4, 2) := by decide +kernel
theorem d_Reader_process_267 : decode prog_8_method_13_code 267 = .ok (.invokevirtual 105, 3) := by decide +kernel
theorem d_Reader_process_270 : decode prog_8_method_13_code 270 = .ok (.ifCond .eq 20, 3) := by decide +kernel
theorem d_Reader_process_273 : decode prog_8_method_13_code 273 = .ok (.aload_n 0, 1) := by decide +kernel
theorem d_Reader_process_274 : decode prog_8_method_13_code 274 = .ok (.aload 4, 2) := by decide +kernel
theorem d_Reader_process_276 : decode prog_8_method_13_code 276 = .ok (.iload_n 2, 1) := by decide +kernel
theorem d_Reader_process_277 : decode prog_8_method_13_code 277 = .ok (.iconst 1, 1) := by decide +kernel
theorem d_Reader_process_278 : decode prog_8_method_13_code 278 = .ok (.iadd, 1) := by decide +kernel
theorem d_Reader_process_279 : decode prog_8_method_13_code 279 = .ok (.iload_n 3, 1) := by decide +kernel
theorem d_Reader_process_280 : decode prog_8_method_13_code 280 = .ok (.invokevirtual 109, 3) := by decide +kernel
theorem d_Reader_process_283 : decode prog_8_method_13_code 283 = .ok (.ifCond .eq 7, 3) := by decide +kernel
theorem d_Reader_process_286 : decode prog_8_method_13_code 286 = .ok (.iconst 1, 1) := by decide +kernel
theorem d_Reader_process_287 : decode prog_8_method_13_code 287 = .ok (.goto 4, 3) := by decide +kernel
theorem d_Reader_process_290 : decode prog_8_method_13_code 290 = .ok (.iconst 0, 1) := by decide +kernel
theorem d_Reader_process_291 : decode prog_8_method_13_code 291 = .ok (.ireturn, 1) := by decide +kernel
theorem d_Reader_process_292 : decode prog_8_method_13_code 292 = .ok (.aload_n 0, 1) := by decide +kernel
theorem d_Reader_process_293 : decode prog_8_method_13_code 293 = .ok (.aload 4, 2) := by decide +kernel
theorem d_Reader_process_295 : decode prog_8_method_13_code 295 = .ok (.invokevirtual 105, 3) := by decide +kernel
theorem d_Reader_process_298 : decode prog_8_method_13_code 298 = .ok (.ifCond .eq 42, 3) := by decide +kernel
theorem d_Reader_process_301 : decode prog_8_method_13_code 301 = .ok (.aload_n 0, 1) := by decide +kernel
theorem d_Reader_process_302 : decode prog_8_method_13_code 302 = .ok (.aload 4, 2) := by decide +kernel
theorem d_Reader_process_304 : decode prog_8_method_13_code 304 = .ok (.iload_n 2, 1) := by decide +kernel
theorem d_Reader_process_305 : decode prog_8_method_13_code 305 = .ok (.iconst 1, 1) := by decide +kernel
theorem d_Reader_process_306 : decode prog_8_method_13_code 306 = .ok (.iadd, 1) := by decide +kernel
theorem d_Reader_process_307 : decode prog_8_method_13_code 307 = .ok (.iconst 0, 1) := by decide +kernel
theorem d_Reader_process_308 : decode prog_8_method_13_code 308 = .ok (.invokevirtual 109, 3) := by decide +kernel
theorem d_Reader_process_311 : decode prog_8_method_13_code 311 = .ok (.ifCond .eq 29, 3) := by decide +kernel
theorem d_Reader_process_314 : decode prog_8_method_13_code 314 = .ok (.aload_n 0, 1) := by decide +kernel
theorem d_Reader_process_315 : decode prog_8_method_13_code 315 = .ok (.bipush 44, 2) := by decide +kernel
theorem d_Reader_process_317 : decode prog_8_method_13_code 317 = .ok (.invokevirtual 56, 3) := by decide +kernel
theorem d_Reader_process_320 : decode prog_8_method_13_code 320 = .ok (.ifCond .eq 20, 3) := by decide +kernel
theorem d_Reader_process_323 : decode prog_8_method_13_code 323 = .ok (.aload_n 0, 1) := by decide +kernel
theorem d_Reader_process_324 : decode prog_8_method_13_code 324 = .ok (.aload 4, 2) := by decide +kernel
theorem d_Reader_process_326 : decode prog_8_method_13_code 326 = .ok (.iload_n 2, 1) := by decide +kernel
theorem d_Reader_process_327 : decode prog_8_method_13_code 327 = .ok (.iconst 1, 1) := by decide +kernel
theorem d_Reader_process_328 : decode prog_8_method_13_code 328 = .ok (.iadd, 1) := by decide +kernel
theorem d_Reader_process_329 : decode prog_8_method_13_code 329 = .ok (.iload_n 3, 1) := by decide +kernel
theorem d_Reader_process_330 : decode prog_8_method_13_code 330 = .ok (.invokevirtual 109, 3) := by decide +kernel
theorem d_Reader_process_333 : decode prog_8_method_13_code 333 = .ok (.ifCond .eq 7, 3) := by decide +kernel
theorem d_Reader_process_336 : decode prog_8_method_13_code 336 = .ok (.iconst 1, 1) := by decide +kernel
theorem d_Reader_process_337 : decode prog_8_method_13_code 337 = .ok (.goto 4, 3) := by decide +kernel
theorem d_Reader_process_340 : decode prog_8_method_13_code 340 = .ok (.iconst 0, 1) := by decide +kernel
theorem d_Reader_process_341 : decode prog_8_method_13_code 341 = .ok (.ireturn, 1) := by decide +kernel
theorem d_Reader_process_342 : decode prog_8_method_13_code 342 = .ok (.iconst 1, 1) := by decide +kernel
theorem d_Reader_process_343 : decode prog_8_method_13_code 343 = .ok (.ireturn, 1) := by decide +kernel
set_option maxHeartbeats 4000000 in
set_option maxRecDepth 100000 in
theorem c_Reader_start (l : Launch) (dC : Nat → ClassId) (dI : Nat → Nat → Nat) (ar : Nat → ClassId) (N0 : Nat) (z : Nat → Nat) (h0 tx co : Nat) (sz : Nat) : Met l ({ cls := "ChannelMachine$Reader", name := "start", desc := "()V" } : Jvm.MethodName) ((Jvm.Cond.code ({ cls := "ChannelMachine$Reader", name := "start", desc := "()V" } : Jvm.MethodName) prog_8_method_3_code (1 : Nat) (Option.none : Option Jvm.ClassFile.FieldType)) :: x_T) ({ frames := 0, cells := 0, slots := 0, locals := 0 }) (x_Pc (dC, dI) ar N0 z [(h0, .inr (3, [.ref tx, .ref co, .int 0, .int 0, .int 0, .int 0, .int 0, .int 0, .null]))] sz [.ref h0]) (va_Qv (fun (u : Unit) => True) (fun u t => va_P (dC, dI) x_cl [(h0, .inr (3, [.ref tx, .ref co, .int 0, .int 0, .int 0, .int 0, .int 0, .int 0, .null]))] t.heap ∧ va_D (va_A [(h0, .inr (3, [.ref tx, .ref co, .int 0, .int 0, .int 0, .int 0, .int 0, .int 0, .null]))] sz) [(h0, .inr (3, [.ref tx, .ref co, .int 0, .int 0, .int 0, .int 0, .int 0, .int 0, .null]))]) (va_A [(h0, .inr (3, [.ref tx, .ref co, .int 0, .int 0, .int 0, .int 0, .int 0, .int 0, .null]))] sz)) 0 0 (va_A [(h0, .inr (3, [.ref tx, .ref co, .int 0, .int 0, .int 0, .int 0, .int 0, .int 0, .null]))] sz) := by
  refine Met.ofW (cc := prog_8_method_3_code) (maxL := 1) (ret := none) (by decide) rfl ?_
  intro p e s m args below meth c s₁ B hml hv
  obtain ⟨rfl, hsz, hN0, hP, hU, hZ, hD0⟩ := hv
  have hK := hU.1
  have hx := B.exec
  have hb := B.bytes
  have hr := B.returns
  have hts : ∀ w ∈ x_T, w.before ([.ref h0] : List Value).toArray s = true := fun w h => atoms_spec (ws := (Jvm.Cond.code ({ cls := "ChannelMachine$Reader", name := "start", desc := "()V" } : Jvm.MethodName) prog_8_method_3_code (1 : Nat) (Option.none : Option Jvm.ClassFile.FieldType)) :: x_T) B.pre w (List.mem_cons_of_mem _ h)
  have hown : s.vm.findClass "ChannelMachine$Reader" = some m.cls := findClass_of_methodNamed B.named
  have hlocks := B.notSynchronized
  subst hsz
  have hD := hD0.self (sz := s.heap.size)
  have hAN := x_AN hD0 hN0
  generalize hAe : va_A [(h0, .inr (3, [.ref tx, .ref co, .int 0, .int 0, .int 0, .int 0, .int 0, .int 0, .null]))] s.heap.size = A at hD hAN ⊢
  have hA : ∀ q : Nat, s.heap.size ≤ q → A q := fun q h => by rw [← hAe]; exact Or.inr h
  have hS : va_S A s.heap s.heap [] := va_S.rf
  have hP : va_P (dC, dI) x_cl [(h0, .inr (3, [.ref tx, .ref co, .int 0, .int 0, .int 0, .int 0, .int 0, .int 0, .null]))] s.heap := hP
  have hl := lv_entry ([.ref h0]) (n := 1) (Nat.le_of_ble_eq_true rfl)
  rw [lg_entry_eq]
  generalize (lg_sl ([.ref h0]) ++ List.replicate (1 - (lg_sl ([.ref h0])).length) Slot.unset).toArray = ls at hl ⊢
  have hl : lv_has ls 1 [(0, .ref h0)] := hl
  have hH0 : s.heap.size ≤ s.heap.size := Nat.le_refl _
  refine lv_aload_n hx hb d_Reader_start_0 rfl (lv_at hl 0 rfl) ?_
  refine lv_aload_n hx hb d_Reader_start_1 rfl (lv_at hl 0 rfl) ?_
  refine va_get (D := (dC, dI)) (ci := 3) (v := .int 0) (C := "ChannelMachine$Reader") (T := F_Reader) (N := 9) hx hb hts i_Reader hown hK hP 0 rfl rfl 2 (by decide) (hts _ k_45) (fun _ h9 => h9) rfl d_Reader_start_2 ?_
  refine va_put (D := (dC, dI)) (ci := 3) (v := .int 0) (ty := .int) (C := "ChannelMachine$Reader") (T := F_Reader) (N := 9) hx hb hts i_Reader t_Reader t_Reader_ok n_Reader hown hK hP hD hS 0 rfl rfl 4 (by decide) (hts _ k_48) (fun _ h9 => h9) rfl (by decide +kernel) rfl rfl (Nat.le_of_ble_eq_true rfl) d_Reader_start_5 (fun H locs hP hD hS => ?_)
  have hP : va_P (dC, dI) x_cl [(h0, .inr (3, [.ref tx, .ref co, .int 0, .int 0, .int 0, .int 0, .int 0, .int 0, .null]))] H := hP
  have hD : va_D A [(h0, .inr (3, [.ref tx, .ref co, .int 0, .int 0, .int 0, .int 0, .int 0, .int 0, .null]))] := hD
  refine lv_aload_n hx hb d_Reader_start_8 rfl (lv_at hl 0 rfl) ?_
  refine lv_iconst (v := 0) hx hb d_Reader_start_9 (by decide) ?_
  refine va_put (D := (dC, dI)) (ci := 3) (v := .int 0) (ty := .int) (C := "ChannelMachine$Reader") (T := F_Reader) (N := 9) hx hb hts i_Reader t_Reader t_Reader_ok n_Reader hown hK hP hD hS 0 rfl rfl 5 (by decide) (hts _ k_49) (fun _ h9 => h9) rfl (by decide +kernel) rfl rfl (Nat.le_of_ble_eq_true rfl) d_Reader_start_10 (fun H locs hP hD hS => ?_)
  have hP : va_P (dC, dI) x_cl [(h0, .inr (3, [.ref tx, .ref co, .int 0, .int 0, .int 0, .int 0, .int 0, .int 0, .null]))] H := hP
  have hD : va_D A [(h0, .inr (3, [.ref tx, .ref co, .int 0, .int 0, .int 0, .int 0, .int 0, .int 0, .null]))] := hD
  refine lv_aload_n hx hb d_Reader_start_13 rfl (lv_at hl 0 rfl) ?_
  refine lv_iconst (v := 0) hx hb d_Reader_start_14 (by decide) ?_
  refine va_put (D := (dC, dI)) (ci := 3) (v := .int 0) (ty := .int) (C := "ChannelMachine$Reader") (T := F_Reader) (N := 9) hx hb hts i_Reader t_Reader t_Reader_ok n_Reader hown hK hP hD hS 0 rfl rfl 6 (by decide) (hts _ k_50) (fun _ h9 => h9) rfl (by decide +kernel) rfl rfl (Nat.le_of_ble_eq_true rfl) d_Reader_start_15 (fun H locs hP hD hS => ?_)
  have hP : va_P (dC, dI) x_cl [(h0, .inr (3, [.ref tx, .ref co, .int 0, .int 0, .int 0, .int 0, .int 0, .int 0, .null]))] H := hP
  have hD : va_D A [(h0, .inr (3, [.ref tx, .ref co, .int 0, .int 0, .int 0, .int 0, .int 0, .int 0, .null]))] := hD
  refine lv_aload_n hx hb d_Reader_start_18 rfl (lv_at hl 0 rfl) ?_
  refine lv_iconst (v := 0) hx hb d_Reader_start_19 (by decide) ?_
  refine va_put (D := (dC, dI)) (ci := 3) (v := .int 0) (ty := .int) (C := "ChannelMachine$Reader") (T := F_Reader) (N := 9) hx hb hts i_Reader t_Reader t_Reader_ok n_Reader hown hK hP hD hS 0 rfl rfl 7 (by decide) (hts _ k_52) (fun _ h9 => h9) rfl (by decide +kernel) rfl rfl (Nat.le_of_ble_eq_true rfl) d_Reader_start_20 (fun H locs hP hD hS => ?_)
  have hP : va_P (dC, dI) x_cl [(h0, .inr (3, [.ref tx, .ref co, .int 0, .int 0, .int 0, .int 0, .int 0, .int 0, .null]))] H := hP
  have hD : va_D A [(h0, .inr (3, [.ref tx, .ref co, .int 0, .int 0, .int 0, .int 0, .int 0, .int 0, .null]))] := hD
  refine W.widen (k := 0) (n := 0) (Nat.le_of_ble_eq_true rfl) (Nat.le_of_ble_eq_true rfl) ?_
  exact W.vret hx hb hr (fun t ht hW => ⟨⟨(), rfl, trivial, ⟨by rw [ht]; exact hP, hD⟩⟩, hS.F ht⟩) hS.2.2 d_Reader_start_23
set_option maxHeartbeats 4000000 in
set_option maxRecDepth 100000 in
theorem c_Reader_look (l : Launch) (dC : Nat → ClassId) (dI : Nat → Nat → Nat) (ar : Nat → ClassId) (N0 : Nat) (z : Nat → Nat) (h0 tx co : Nat) (sz : Nat) : Met l ({ cls := "ChannelMachine$Reader", name := "look", desc := "()C" } : Jvm.MethodName) ((Jvm.Cond.code ({ cls := "ChannelMachine$Reader", name := "look", desc := "()C" } : Jvm.MethodName) prog_8_method_5_code (1 : Nat) (Option.some Jvm.ClassFile.FieldType.char)) :: x_T) ({ frames := 0, cells := 0, slots := 0, locals := 0 }) (x_Pc (dC, dI) ar N0 z [(h0, .inr (3, [.ref tx, .ref co, .int 0, .int 0, .int 0, .int 0, .int 0, .int 0, .null]))] sz [.ref h0]) (va_Qi (fun (r : Int32) (u : Unit) => r = 0) (fun u t => va_P (dC, dI) x_cl [(h0, .inr (3, [.ref tx, .ref co, .int 0, .int 0, .int 0, .int 0, .int 0, .int 0, .null]))] t.heap ∧ va_D (va_A [(h0, .inr (3, [.ref tx, .ref co, .int 0, .int 0, .int 0, .int 0, .int 0, .int 0, .null]))] sz) [(h0, .inr (3, [.ref tx, .ref co, .int 0, .int 0, .int 0, .int 0, .int 0, .int 0, .null]))]) (va_A [(h0, .inr (3, [.ref tx, .ref co, .int 0, .int 0, .int 0, .int 0, .int 0, .int 0, .null]))] sz)) 0 0 (va_A [(h0, .inr (3, [.ref tx, .ref co, .int 0, .int 0, .int 0, .int 0, .int 0, .int 0, .null]))] sz) := by
  refine Met.ofW (cc := prog_8_method_5_code) (maxL := 1) (ret := (some .char)) (by decide) rfl ?_
  intro p e s m args below meth c s₁ B hml hv
  obtain ⟨rfl, hsz, hN0, hP, hU, hZ, hD0⟩ := hv
  have hK := hU.1
  have hx := B.exec
  have hb := B.bytes
  have hr := B.returns
  have hts : ∀ w ∈ x_T, w.before ([.ref h0] : List Value).toArray s = true := fun w h => atoms_spec (ws := (Jvm.Cond.code ({ cls := "ChannelMachine$Reader", name := "look", desc := "()C" } : Jvm.MethodName) prog_8_method_5_code (1 : Nat) (Option.some Jvm.ClassFile.FieldType.char)) :: x_T) B.pre w (List.mem_cons_of_mem _ h)
  have hown : s.vm.findClass "ChannelMachine$Reader" = some m.cls := findClass_of_methodNamed B.named
  have hlocks := B.notSynchronized
  subst hsz
  have hD := hD0.self (sz := s.heap.size)
  have hAN := x_AN hD0 hN0
  generalize hAe : va_A [(h0, .inr (3, [.ref tx, .ref co, .int 0, .int 0, .int 0, .int 0, .int 0, .int 0, .null]))] s.heap.size = A at hD hAN ⊢
  have hA : ∀ q : Nat, s.heap.size ≤ q → A q := fun q h => by rw [← hAe]; exact Or.inr h
  have hS : va_S A s.heap s.heap [] := va_S.rf
  have hP : va_P (dC, dI) x_cl [(h0, .inr (3, [.ref tx, .ref co, .int 0, .int 0, .int 0, .int 0, .int 0, .int 0, .null]))] s.heap := hP
  have hl := lv_entry ([.ref h0]) (n := 1) (Nat.le_of_ble_eq_true rfl)
  rw [lg_entry_eq]
  generalize (lg_sl ([.ref h0]) ++ List.replicate (1 - (lg_sl ([.ref h0])).length) Slot.unset).toArray = ls at hl ⊢
  have hl : lv_has ls 1 [(0, .ref h0)] := hl
  have hH0 : s.heap.size ≤ s.heap.size := Nat.le_refl _
  refine lv_aload_n hx hb d_Reader_look_0 rfl (lv_at hl 0 rfl) ?_
  refine va_get (D := (dC, dI)) (ci := 3) (v := .int 0) (C := "ChannelMachine$Reader") (T := F_Reader) (N := 9) hx hb hts i_Reader hown hK hP 0 rfl rfl 5 (by decide) (hts _ k_49) (fun _ h9 => h9) rfl d_Reader_look_1 ?_
  refine lv_aload_n hx hb d_Reader_look_4 rfl (lv_at hl 0 rfl) ?_
  refine va_get (D := (dC, dI)) (ci := 3) (v := .int 0) (C := "ChannelMachine$Reader") (T := F_Reader) (N := 9) hx hb hts i_Reader hown hK hP 0 rfl rfl 4 (by decide) (hts _ k_48) (fun _ h9 => h9) rfl d_Reader_look_5 ?_
  refine lv_icmp_ge (tgt := 32) hx hb d_Reader_look_8 (by decide) (fun _ => ?_) (fun c1 => absurd (by decide) c1)
  refine lv_iconst (v := 0) hx hb d_Reader_look_32 (by decide) ?_
  refine W.widen (k := 0) (n := 0) (Nat.le_of_ble_eq_true rfl) (Nat.le_of_ble_eq_true rfl) ?_
  exact W.zret (v := 0) hx hb hr (rfl) (fun t ht hW => ⟨⟨0, (), rfl, rfl, ⟨by rw [ht]; exact hP, hD⟩⟩, hS.F ht⟩) hS.2.2 d_Reader_look_33
set_option maxHeartbeats 4000000 in
set_option maxRecDepth 100000 in
theorem c_Reader_lookBehindNext (l : Launch) (dC : Nat → ClassId) (dI : Nat → Nat → Nat) (ar : Nat → ClassId) (N0 : Nat) (z : Nat → Nat) (h0 tx co : Nat) (sz : Nat) : Met l ({ cls := "ChannelMachine$Reader", name := "lookBehindNext", desc := "()C" } : Jvm.MethodName) ((Jvm.Cond.code ({ cls := "ChannelMachine$Reader", name := "lookBehindNext", desc := "()C" } : Jvm.MethodName) prog_8_method_6_code (1 : Nat) (Option.some Jvm.ClassFile.FieldType.char)) :: x_T) ({ frames := 0, cells := 0, slots := 0, locals := 0 }) (x_Pc (dC, dI) ar N0 z [(h0, .inr (3, [.ref tx, .ref co, .int 0, .int 0, .int 0, .int 0, .int 0, .int 0, .null]))] sz [.ref h0]) (va_Qi (fun (r : Int32) (u : Unit) => r = 0) (fun u t => va_P (dC, dI) x_cl [(h0, .inr (3, [.ref tx, .ref co, .int 0, .int 0, .int 0, .int 0, .int 0, .int 0, .null]))] t.heap ∧ va_D (va_A [(h0, .inr (3, [.ref tx, .ref co, .int 0, .int 0, .int 0, .int 0, .int 0, .int 0, .null]))] sz) [(h0, .inr (3, [.ref tx, .ref co, .int 0, .int 0, .int 0, .int 0, .int 0, .int 0, .null]))]) (va_A [(h0, .inr (3, [.ref tx, .ref co, .int 0, .int 0, .int 0, .int 0, .int 0, .int 0, .null]))] sz)) 0 0 (va_A [(h0, .inr (3, [.ref tx, .ref co, .int 0, .int 0, .int 0, .int 0, .int 0, .int 0, .null]))] sz) := by
  refine Met.ofW (cc := prog_8_method_6_code) (maxL := 1) (ret := (some .char)) (by decide) rfl ?_
  intro p e s m args below meth c s₁ B hml hv
  obtain ⟨rfl, hsz, hN0, hP, hU, hZ, hD0⟩ := hv
  have hK := hU.1
  have hx := B.exec
  have hb := B.bytes
  have hr := B.returns
  have hts : ∀ w ∈ x_T, w.before ([.ref h0] : List Value).toArray s = true := fun w h => atoms_spec (ws := (Jvm.Cond.code ({ cls := "ChannelMachine$Reader", name := "lookBehindNext", desc := "()C" } : Jvm.MethodName) prog_8_method_6_code (1 : Nat) (Option.some Jvm.ClassFile.FieldType.char)) :: x_T) B.pre w (List.mem_cons_of_mem _ h)
  have hown : s.vm.findClass "ChannelMachine$Reader" = some m.cls := findClass_of_methodNamed B.named
  have hlocks := B.notSynchronized
  subst hsz
  have hD := hD0.self (sz := s.heap.size)
  have hAN := x_AN hD0 hN0
  generalize hAe : va_A [(h0, .inr (3, [.ref tx, .ref co, .int 0, .int 0, .int 0, .int 0, .int 0, .int 0, .null]))] s.heap.size = A at hD hAN ⊢
  have hA : ∀ q : Nat, s.heap.size ≤ q → A q := fun q h => by rw [← hAe]; exact Or.inr h
  have hS : va_S A s.heap s.heap [] := va_S.rf
  have hP : va_P (dC, dI) x_cl [(h0, .inr (3, [.ref tx, .ref co, .int 0, .int 0, .int 0, .int 0, .int 0, .int 0, .null]))] s.heap := hP
  have hl := lv_entry ([.ref h0]) (n := 1) (Nat.le_of_ble_eq_true rfl)
  rw [lg_entry_eq]
  generalize (lg_sl ([.ref h0]) ++ List.replicate (1 - (lg_sl ([.ref h0])).length) Slot.unset).toArray = ls at hl ⊢
  have hl : lv_has ls 1 [(0, .ref h0)] := hl
  have hH0 : s.heap.size ≤ s.heap.size := Nat.le_refl _
  refine lv_aload_n hx hb d_Reader_lookBehindNext_0 rfl (lv_at hl 0 rfl) ?_
  refine va_get (D := (dC, dI)) (ci := 3) (v := .int 0) (C := "ChannelMachine$Reader") (T := F_Reader) (N := 9) hx hb hts i_Reader hown hK hP 0 rfl rfl 5 (by decide) (hts _ k_49) (fun _ h9 => h9) rfl d_Reader_lookBehindNext_1 ?_
  refine lv_iconst (v := 1) hx hb d_Reader_lookBehindNext_4 (by decide) ?_
  refine lv_iadd hx hb d_Reader_lookBehindNext_5 ?_
  refine W.eq (g2 := F0 m 6 ls [.int 1]) rfl ?_
  refine lv_aload_n hx hb d_Reader_lookBehindNext_6 rfl (lv_at hl 0 rfl) ?_
  refine va_get (D := (dC, dI)) (ci := 3) (v := .int 0) (C := "ChannelMachine$Reader") (T := F_Reader) (N := 9) hx hb hts i_Reader hown hK hP 0 rfl rfl 4 (by decide) (hts _ k_48) (fun _ h9 => h9) rfl d_Reader_lookBehindNext_7 ?_
  refine lv_icmp_ge (tgt := 38) hx hb d_Reader_lookBehindNext_10 (by decide) (fun _ => ?_) (fun c1 => absurd (by decide) c1)
  refine lv_iconst (v := 0) hx hb d_Reader_lookBehindNext_38 (by decide) ?_
  refine W.widen (k := 0) (n := 0) (Nat.le_of_ble_eq_true rfl) (Nat.le_of_ble_eq_true rfl) ?_
  exact W.zret (v := 0) hx hb hr (rfl) (fun t ht hW => ⟨⟨0, (), rfl, rfl, ⟨by rw [ht]; exact hP, hD⟩⟩, hS.F ht⟩) hS.2.2 d_Reader_lookBehindNext_39
set_option maxHeartbeats 4000000 in
set_option maxRecDepth 100000 in
theorem c_Reader_refuse (l : Launch) (dC : Nat → ClassId) (dI : Nat → Nat → Nat) (ar : Nat → ClassId) (N0 : Nat) (z : Nat → Nat) (h0 tx co : Nat) (sz : Nat) : Met l ({ cls := "ChannelMachine$Reader", name := "refuse", desc := "()Z" } : Jvm.MethodName) ((Jvm.Cond.code ({ cls := "ChannelMachine$Reader", name := "refuse", desc := "()Z" } : Jvm.MethodName) prog_8_method_7_code (1 : Nat) (Option.some Jvm.ClassFile.FieldType.boolean)) :: x_T) ({ frames := 1, cells := 0, slots := 0, locals := 17 }) (x_Pc (dC, dI) ar N0 z [(h0, .inr (3, [.ref tx, .ref co, .int 0, .int 0, .int 0, .int 0, .int 0, .int 0, .null]))] sz [.ref h0]) (va_Qi (fun (r : Int32) (u : Unit) => r = 0) (fun u t => va_P (dC, dI) x_cl [(h0, .inr (3, [.ref tx, .ref co, .int 0, .int 0, .int 0, .int 0, .int 0, .int 0, .null]))] t.heap ∧ va_D (va_A [(h0, .inr (3, [.ref tx, .ref co, .int 0, .int 0, .int 0, .int 0, .int 0, .int 0, .null]))] sz) [(h0, .inr (3, [.ref tx, .ref co, .int 0, .int 0, .int 0, .int 0, .int 0, .int 0, .null]))]) (va_A [(h0, .inr (3, [.ref tx, .ref co, .int 0, .int 0, .int 0, .int 0, .int 0, .int 0, .null]))] sz)) 0 0 (va_A [(h0, .inr (3, [.ref tx, .ref co, .int 0, .int 0, .int 0, .int 0, .int 0, .int 0, .null]))] sz) := by
  refine Met.ofW (cc := prog_8_method_7_code) (maxL := 1) (ret := (some .boolean)) (by decide) rfl ?_
  intro p e s m args below meth c s₁ B hml hv
  obtain ⟨rfl, hsz, hN0, hP, hU, hZ, hD0⟩ := hv
  have hK := hU.1
  have hx := B.exec
  have hb := B.bytes
  have hr := B.returns
  have hts : ∀ w ∈ x_T, w.before ([.ref h0] : List Value).toArray s = true := fun w h => atoms_spec (ws := (Jvm.Cond.code ({ cls := "ChannelMachine$Reader", name := "refuse", desc := "()Z" } : Jvm.MethodName) prog_8_method_7_code (1 : Nat) (Option.some Jvm.ClassFile.FieldType.boolean)) :: x_T) B.pre w (List.mem_cons_of_mem _ h)
  have hown : s.vm.findClass "ChannelMachine$Reader" = some m.cls := findClass_of_methodNamed B.named
  have hlocks := B.notSynchronized
  subst hsz
  have hD := hD0.self (sz := s.heap.size)
  have hAN := x_AN hD0 hN0
  generalize hAe : va_A [(h0, .inr (3, [.ref tx, .ref co, .int 0, .int 0, .int 0, .int 0, .int 0, .int 0, .null]))] s.heap.size = A at hD hAN ⊢
  have hA : ∀ q : Nat, s.heap.size ≤ q → A q := fun q h => by rw [← hAe]; exact Or.inr h
  have hS : va_S A s.heap s.heap [] := va_S.rf
  have hP : va_P (dC, dI) x_cl [(h0, .inr (3, [.ref tx, .ref co, .int 0, .int 0, .int 0, .int 0, .int 0, .int 0, .null]))] s.heap := hP
  have hl := lv_entry ([.ref h0]) (n := 1) (Nat.le_of_ble_eq_true rfl)
  rw [lg_entry_eq]
  generalize (lg_sl ([.ref h0]) ++ List.replicate (1 - (lg_sl ([.ref h0])).length) Slot.unset).toArray = ls at hl ⊢
  have hl : lv_has ls 1 [(0, .ref h0)] := hl
  have hH0 : s.heap.size ≤ s.heap.size := Nat.le_refl _
  refine lv_aload_n hx hb d_Reader_refuse_0 rfl (lv_at hl 0 rfl) ?_
  refine lv_aload_n hx hb d_Reader_refuse_1 rfl (lv_at hl 0 rfl) ?_
  refine va_get (D := (dC, dI)) (ci := 3) (v := .int 0) (C := "ChannelMachine$Reader") (T := F_Reader) (N := 9) hx hb hts i_Reader hown hK hP 0 rfl rfl 6 (by decide) (hts _ k_50) (fun _ h9 => h9) rfl d_Reader_refuse_2 ?_
  refine lv_aload_n hx hb d_Reader_refuse_5 rfl (lv_at hl 0 rfl) ?_
  refine va_get (D := (dC, dI)) (ci := 3) (v := .int 0) (C := "ChannelMachine$Reader") (T := F_Reader) (N := 9) hx hb hts i_Reader hown hK hP 0 rfl rfl 5 (by decide) (hts _ k_49) (fun _ h9 => h9) rfl d_Reader_refuse_6 ?_
  refine va_mmax hx hb (by rw [hml]; exact hl.1.symm) hown (hts _ k_481) (hts _ k_482) (hts _ k_19) (hts _ k_483) (Nat.le_of_ble_eq_true rfl) (Nat.le_of_ble_eq_true rfl) (Nat.le_of_ble_eq_true rfl) (Nat.le_of_ble_eq_true rfl) d_Reader_refuse_9 ?_
  refine W.eq (g2 := F0 m 12 ls [.int 0, .ref h0]) rfl ?_
  refine va_put (D := (dC, dI)) (ci := 3) (v := .int 0) (ty := .int) (C := "ChannelMachine$Reader") (T := F_Reader) (N := 9) hx hb hts i_Reader t_Reader t_Reader_ok n_Reader hown hK hP hD hS 0 rfl rfl 6 (by decide) (hts _ k_50) (fun _ h9 => h9) rfl (by decide +kernel) rfl rfl (Nat.le_of_ble_eq_true rfl) d_Reader_refuse_12 (fun H locs hP hD hS => ?_)
  have hP : va_P (dC, dI) x_cl [(h0, .inr (3, [.ref tx, .ref co, .int 0, .int 0, .int 0, .int 0, .int 0, .int 0, .null]))] H := hP
  have hD : va_D A [(h0, .inr (3, [.ref tx, .ref co, .int 0, .int 0, .int 0, .int 0, .int 0, .int 0, .null]))] := hD
  refine lv_iconst (v := 0) hx hb d_Reader_refuse_15 (by decide) ?_
  refine W.widen (k := 0) (n := 0) (Nat.le_of_ble_eq_true rfl) (Nat.le_of_ble_eq_true rfl) ?_
  exact W.zret (v := 0) hx hb hr (rfl) (fun t ht hW => ⟨⟨0, (), rfl, rfl, ⟨by rw [ht]; exact hP, hD⟩⟩, hS.F ht⟩) hS.2.2 d_Reader_refuse_16
set_option maxHeartbeats 4000000 in
set_option maxRecDepth 100000 in
theorem c_Reader_isVariable (l : Launch) (dC : Nat → ClassId) (dI : Nat → Nat → Nat) (ar : Nat → ClassId) (N0 : Nat) (z : Nat → Nat)  (sz : Nat) : Met l ({ cls := "ChannelMachine$Reader", name := "isVariable", desc := "(C)Z" } : Jvm.MethodName) ((Jvm.Cond.code ({ cls := "ChannelMachine$Reader", name := "isVariable", desc := "(C)Z" } : Jvm.MethodName) prog_8_method_11_code (1 : Nat) (Option.some Jvm.ClassFile.FieldType.boolean)) :: x_T) ({ frames := 0, cells := 0, slots := 0, locals := 0 }) (x_Pc (dC, dI) ar N0 z [] sz [.int 0]) (va_Qi (fun (r : Int32) (u : Unit) => r = 0) (fun u t => va_P (dC, dI) x_cl [] t.heap ∧ va_D (va_A [] sz) []) (va_A [] sz)) 0 0 (va_A [] sz) := by
  refine Met.ofW (cc := prog_8_method_11_code) (maxL := 1) (ret := (some .boolean)) (by decide) rfl ?_
  intro p e s m args below meth c s₁ B hml hv
  obtain ⟨rfl, hsz, hN0, hP, hU, hZ, hD0⟩ := hv
  have hK := hU.1
  have hx := B.exec
  have hb := B.bytes
  have hr := B.returns
  have hts : ∀ w ∈ x_T, w.before ([.int 0] : List Value).toArray s = true := fun w h => atoms_spec (ws := (Jvm.Cond.code ({ cls := "ChannelMachine$Reader", name := "isVariable", desc := "(C)Z" } : Jvm.MethodName) prog_8_method_11_code (1 : Nat) (Option.some Jvm.ClassFile.FieldType.boolean)) :: x_T) B.pre w (List.mem_cons_of_mem _ h)
  have hown : s.vm.findClass "ChannelMachine$Reader" = some m.cls := findClass_of_methodNamed B.named
  have hlocks := B.notSynchronized
  subst hsz
  have hD := hD0.self (sz := s.heap.size)
  have hAN := x_AN hD0 hN0
  generalize hAe : va_A [] s.heap.size = A at hD hAN ⊢
  have hA : ∀ q : Nat, s.heap.size ≤ q → A q := fun q h => by rw [← hAe]; exact Or.inr h
  have hS : va_S A s.heap s.heap [] := va_S.rf
  have hP : va_P (dC, dI) x_cl [] s.heap := hP
  have hl := lv_entry ([.int 0]) (n := 1) (Nat.le_of_ble_eq_true rfl)
  rw [lg_entry_eq]
  generalize (lg_sl ([.int 0]) ++ List.replicate (1 - (lg_sl ([.int 0])).length) Slot.unset).toArray = ls at hl ⊢
  have hl : lv_has ls 1 [(0, .int 0)] := hl
  have hH0 : s.heap.size ≤ s.heap.size := Nat.le_refl _
  refine lv_iload_n hx hb d_Reader_isVariable_0 rfl (lv_at hl 0 rfl) ?_
  refine lv_bipush (v := 97) hx hb d_Reader_isVariable_1 (by decide) ?_
  refine lv_icmp_lt (tgt := 16) hx hb d_Reader_isVariable_3 (by decide) (fun _ => ?_) (fun c1 => absurd (by decide) c1)
  refine lv_iconst (v := 0) hx hb d_Reader_isVariable_16 (by decide) ?_
  refine W.widen (k := 0) (n := 0) (Nat.le_of_ble_eq_true rfl) (Nat.le_of_ble_eq_true rfl) ?_
  exact W.zret (v := 0) hx hb hr (rfl) (fun t ht hW => ⟨⟨0, (), rfl, rfl, ⟨by rw [ht]; exact hP, hD⟩⟩, hS.F ht⟩) hS.2.2 d_Reader_isVariable_17
set_option maxHeartbeats 4000000 in
set_option maxRecDepth 100000 in
theorem c_Reader_channelOf (l : Launch) (dC : Nat → ClassId) (dI : Nat → Nat → Nat) (ar : Nat → ClassId) (N0 : Nat) (z : Nat → Nat)  (sz : Nat) : Met l ({ cls := "ChannelMachine$Reader", name := "channelOf", desc := "(C)I" } : Jvm.MethodName) ((Jvm.Cond.code ({ cls := "ChannelMachine$Reader", name := "channelOf", desc := "(C)I" } : Jvm.MethodName) prog_8_method_12_code (1 : Nat) (Option.some Jvm.ClassFile.FieldType.int)) :: x_T) ({ frames := 0, cells := 0, slots := 0, locals := 0 }) (x_Pc (dC, dI) ar N0 z [] sz [.int 0]) (va_Qi (fun (r : Int32) (u : Unit) => r = -1) (fun u t => va_P (dC, dI) x_cl [] t.heap ∧ va_D (va_A [] sz) []) (va_A [] sz)) 0 0 (va_A [] sz) := by
  refine Met.ofW (cc := prog_8_method_12_code) (maxL := 1) (ret := (some .int)) (by decide) rfl ?_
  intro p e s m args below meth c s₁ B hml hv
  obtain ⟨rfl, hsz, hN0, hP, hU, hZ, hD0⟩ := hv
  have hK := hU.1
  have hx := B.exec
  have hb := B.bytes
  have hr := B.returns
  have hts : ∀ w ∈ x_T, w.before ([.int 0] : List Value).toArray s = true := fun w h => atoms_spec (ws := (Jvm.Cond.code ({ cls := "ChannelMachine$Reader", name := "channelOf", desc := "(C)I" } : Jvm.MethodName) prog_8_method_12_code (1 : Nat) (Option.some Jvm.ClassFile.FieldType.int)) :: x_T) B.pre w (List.mem_cons_of_mem _ h)
  have hown : s.vm.findClass "ChannelMachine$Reader" = some m.cls := findClass_of_methodNamed B.named
  have hlocks := B.notSynchronized
  subst hsz
  have hD := hD0.self (sz := s.heap.size)
  have hAN := x_AN hD0 hN0
  generalize hAe : va_A [] s.heap.size = A at hD hAN ⊢
  have hA : ∀ q : Nat, s.heap.size ≤ q → A q := fun q h => by rw [← hAe]; exact Or.inr h
  have hS : va_S A s.heap s.heap [] := va_S.rf
  have hP : va_P (dC, dI) x_cl [] s.heap := hP
  have hl := lv_entry ([.int 0]) (n := 1) (Nat.le_of_ble_eq_true rfl)
  rw [lg_entry_eq]
  generalize (lg_sl ([.int 0]) ++ List.replicate (1 - (lg_sl ([.int 0])).length) Slot.unset).toArray = ls at hl ⊢
  have hl : lv_has ls 1 [(0, .int 0)] := hl
  have hH0 : s.heap.size ≤ s.heap.size := Nat.le_refl _
  refine lv_iload_n hx hb d_Reader_channelOf_0 rfl (lv_at hl 0 rfl) ?_
  refine lv_bipush (v := 73) hx hb d_Reader_channelOf_1 (by decide) ?_
  refine lv_icmp_ne (tgt := 8) hx hb d_Reader_channelOf_3 (by decide) (fun _ => ?_) (fun c1 => absurd c1 (by decide))
  refine lv_iload_n hx hb d_Reader_channelOf_8 rfl (lv_at hl 0 rfl) ?_
  refine lv_bipush (v := 79) hx hb d_Reader_channelOf_9 (by decide) ?_
  refine lv_icmp_ne (tgt := 16) hx hb d_Reader_channelOf_11 (by decide) (fun _ => ?_) (fun c2 => absurd c2 (by decide))
  refine lv_iload_n hx hb d_Reader_channelOf_16 rfl (lv_at hl 0 rfl) ?_
  refine lv_bipush (v := 65) hx hb d_Reader_channelOf_17 (by decide) ?_
  refine lv_icmp_lt (tgt := 35) hx hb d_Reader_channelOf_19 (by decide) (fun _ => ?_) (fun c3 => absurd (by decide) c3)
  refine lv_iconst (v := (-1)) hx hb d_Reader_channelOf_35 (by decide) ?_
  refine W.widen (k := 0) (n := 0) (Nat.le_of_ble_eq_true rfl) (Nat.le_of_ble_eq_true rfl) ?_
  exact W.iret (v := (-1)) hx hb hr (fun t ht hW => ⟨⟨(-1), (), rfl, rfl, ⟨by rw [ht]; exact hP, hD⟩⟩, hS.F ht⟩) hS.2.2 d_Reader_channelOf_36
set_option maxHeartbeats 4000000 in
set_option maxRecDepth 100000 in
theorem c_Reader_kindOf (l : Launch) (dC : Nat → ClassId) (dI : Nat → Nat → Nat) (ar : Nat → ClassId) (N0 : Nat) (z : Nat → Nat)  (sz : Nat) : Met l ({ cls := "ChannelMachine$Reader", name := "kindOf", desc := "(CC)LChannelMachine$Kind;" } : Jvm.MethodName) ((Jvm.Cond.code ({ cls := "ChannelMachine$Reader", name := "kindOf", desc := "(CC)LChannelMachine$Kind;" } : Jvm.MethodName) prog_8_method_15_code (2 : Nat) (Option.some (Jvm.ClassFile.FieldType.object "ChannelMachine$Kind"))) :: x_T) ({ frames := 1, cells := 0, slots := 0, locals := 20 }) (x_Pc (dC, dI) ar N0 z [] sz [.int 0, .int 0]) (va_Qq (fun (r : Option Nat) (u : Unit) => r = none) (fun u t => va_P (dC, dI) x_cl [] t.heap ∧ va_D (va_A [] sz) []) (va_A [] sz)) 0 0 (va_A [] sz) := by
  refine Met.ofW (cc := prog_8_method_15_code) (maxL := 2) (ret := (some (.object "ChannelMachine$Kind"))) (by decide) rfl ?_
  intro p e s m args below meth c s₁ B hml hv
  obtain ⟨rfl, hsz, hN0, hP, hU, hZ, hD0⟩ := hv
  have hK := hU.1
  have hx := B.exec
  have hb := B.bytes
  have hr := B.returns
  have hts : ∀ w ∈ x_T, w.before ([.int 0, .int 0] : List Value).toArray s = true := fun w h => atoms_spec (ws := (Jvm.Cond.code ({ cls := "ChannelMachine$Reader", name := "kindOf", desc := "(CC)LChannelMachine$Kind;" } : Jvm.MethodName) prog_8_method_15_code (2 : Nat) (Option.some (Jvm.ClassFile.FieldType.object "ChannelMachine$Kind"))) :: x_T) B.pre w (List.mem_cons_of_mem _ h)
  have hown : s.vm.findClass "ChannelMachine$Reader" = some m.cls := findClass_of_methodNamed B.named
  have hlocks := B.notSynchronized
  subst hsz
  have hD := hD0.self (sz := s.heap.size)
  have hAN := x_AN hD0 hN0
  generalize hAe : va_A [] s.heap.size = A at hD hAN ⊢
  have hA : ∀ q : Nat, s.heap.size ≤ q → A q := fun q h => by rw [← hAe]; exact Or.inr h
  have hS : va_S A s.heap s.heap [] := va_S.rf
  have hP : va_P (dC, dI) x_cl [] s.heap := hP
  have hl := lv_entry ([.int 0, .int 0]) (n := 2) (Nat.le_of_ble_eq_true rfl)
  rw [lg_entry_eq]
  generalize (lg_sl ([.int 0, .int 0]) ++ List.replicate (2 - (lg_sl ([.int 0, .int 0])).length) Slot.unset).toArray = ls at hl ⊢
  have hl : lv_has ls 2 [(0, .int 0), (1, .int 0)] := hl
  have hH0 : s.heap.size ≤ s.heap.size := Nat.le_refl _
  refine lv_iload_n hx hb d_Reader_kindOf_0 rfl (lv_at hl 0 rfl) ?_
  refine lv_lookup (tgt := 132) hx hb d_Reader_kindOf_1 (by decide) (off := 131) (by decide) (by decide) ?_
  refine lv_iload_n hx hb d_Reader_kindOf_132 rfl (lv_at hl 0 rfl) ?_
  have hPc := hP.sub (ws' := []) [] rfl
  have hDc := hD.sub (ws' := []) [] (by decide) rfl
  have hFc := va_free (wc := []) hD hS hA [] rfl
  refine va_calli (va_runS (As := [.int 0]) (rest := []) ⟨hx, hb, hml, hown, hts⟩ (c_Reader_isVariable l dC dI ar N0 z s.heap.size) (cwS 1 hts (x_goodS k_369 k_370 k_2 k_371) rfl rfl rfl (by decide +kernel) ⟨Nat.le_of_ble_eq_true rfl, Nat.le_of_ble_eq_true rfl⟩) ⟨x_blind, fun U hU9 hW => x_pre hU9 hW hPc hDc hU hZ hS hAN hN0⟩ rfl rfl hl.1 rfl (lv_room (Nat.le_of_ble_eq_true rfl)) d_Reader_kindOf_133 ⟨Nat.le_of_ble_eq_true rfl, Nat.le_of_ble_eq_true rfl⟩) hS (fun q _ h => hFc q h) hFc (fun r1 u2 t H1 locs ht hvm hw hB hz1 hk1 hS => ?_)
  obtain ⟨hP1, hD1⟩ := hB
  rw [ht] at hP1
  obtain ⟨hP, hD⟩ := va_join (wr := []) (w1 := []) hP hD [] [] rfl rfl (by decide) (by decide) hk1 hFc hP1 hD1
  generalize H1 = H at hP hS ⊢
  have hP : va_P (dC, dI) x_cl [] H := hP
  have hD : va_D A [] := hD
  refine W.widen (k := 0) (n := 0) (Nat.le_of_ble_eq_true rfl) (Nat.le_of_ble_eq_true rfl) ?_
  obtain rfl := hw
  refine lv_if_eq (tgt := 143) hx hb d_Reader_kindOf_136 (by decide) (fun _ => ?_) (fun c3 => absurd (by decide) c3)
  refine lv_iload_n hx hb d_Reader_kindOf_143 rfl (lv_at hl 0 rfl) ?_
  have hPc := hP.sub (ws' := []) [] rfl
  have hDc := hD.sub (ws' := []) [] (by decide) rfl
  have hFc := va_free (wc := []) hD hS hA [] rfl
  refine va_calli (va_runS (As := [.int 0]) (rest := []) ⟨hx, hb, hml, hown, hts⟩ (c_Reader_channelOf l dC dI ar N0 z H.size) (cwS 1 hts (x_goodS k_374 k_375 k_2 k_376) rfl rfl rfl (by decide +kernel) ⟨Nat.le_of_ble_eq_true rfl, Nat.le_of_ble_eq_true rfl⟩) ⟨x_blind, fun U hU9 hW => x_pre hU9 hW hPc hDc hU hZ hS hAN hN0⟩ rfl rfl hl.1 rfl (lv_room (Nat.le_of_ble_eq_true rfl)) d_Reader_kindOf_144 ⟨Nat.le_of_ble_eq_true rfl, Nat.le_of_ble_eq_true rfl⟩) hS (fun q _ h => hFc q h) hFc (fun r4 u5 t H1 locs ht hvm hw hB hz1 hk1 hS => ?_)
  obtain ⟨hP1, hD1⟩ := hB
  rw [ht] at hP1
  obtain ⟨hP, hD⟩ := va_join (wr := []) (w1 := []) hP hD [] [] rfl rfl (by decide) (by decide) hk1 hFc hP1 hD1
  generalize H1 = H at hP hS ⊢
  have hP : va_P (dC, dI) x_cl [] H := hP
  have hD : va_D A [] := hD
  refine W.widen (k := 0) (n := 0) (Nat.le_of_ble_eq_true rfl) (Nat.le_of_ble_eq_true rfl) ?_
  obtain rfl := hw
  refine lv_iconst (v := (-1)) hx hb d_Reader_kindOf_147 (by decide) ?_
  refine lv_icmp_ne (tgt := 153) hx hb d_Reader_kindOf_148 (by decide) (fun c6 => absurd rfl c6) (fun _ => ?_)
  refine lv_null hx hb d_Reader_kindOf_151 ?_
  refine W.widen (k := 0) (n := 0) (Nat.le_of_ble_eq_true rfl) (Nat.le_of_ble_eq_true rfl) ?_
  exact W.aret (v := .null) hx hb hr (Or.inl ⟨_, rfl⟩) (Or.inl rfl) (fun t ht hW => ⟨⟨none, (), rfl, rfl, ⟨by rw [ht]; exact hP, hD⟩⟩, hS.F ht⟩) hS.2.2 d_Reader_kindOf_152
set_option maxHeartbeats 4000000 in
set_option maxRecDepth 100000 in
theorem c_Reader_begin (l : Launch) (dC : Nat → ClassId) (dI : Nat → Nat → Nat) (ar : Nat → ClassId) (N0 : Nat) (z : Nat → Nat) (h0 tx co : Nat) (sz : Nat) : Met l ({ cls := "ChannelMachine$Reader", name := "begin", desc := "(LChannelMachine$Process;I)LChannelMachine$Process;" } : Jvm.MethodName) ((Jvm.Cond.code ({ cls := "ChannelMachine$Reader", name := "begin", desc := "(LChannelMachine$Process;I)LChannelMachine$Process;" } : Jvm.MethodName) prog_8_method_14_code (7 : Nat) (Option.some (Jvm.ClassFile.FieldType.object "ChannelMachine$Process"))) :: x_T) ({ frames := 2, cells := 0, slots := 0, locals := 41 }) (x_Pc (dC, dI) ar N0 z [(h0, .inr (3, [.ref tx, .ref co, .int 0, .int 0, .int 0, .int 0, .int 0, .int 0, .null]))] sz [.ref h0, .null, .int 1]) (va_Qq (fun (r : Option Nat) (u : Unit) => r = none) (fun u t => va_P (dC, dI) x_cl [(h0, .inr (3, [.ref tx, .ref co, .int 0, .int 0, .int 0, .int 0, .int 0, .int 0, .null]))] t.heap ∧ va_D (va_A [(h0, .inr (3, [.ref tx, .ref co, .int 0, .int 0, .int 0, .int 0, .int 0, .int 0, .null]))] sz) [(h0, .inr (3, [.ref tx, .ref co, .int 0, .int 0, .int 0, .int 0, .int 0, .int 0, .null]))]) (va_A [(h0, .inr (3, [.ref tx, .ref co, .int 0, .int 0, .int 0, .int 0, .int 0, .int 0, .null]))] sz)) 0 0 (va_A [(h0, .inr (3, [.ref tx, .ref co, .int 0, .int 0, .int 0, .int 0, .int 0, .int 0, .null]))] sz) := by
  refine Met.ofW (cc := prog_8_method_14_code) (maxL := 7) (ret := (some (.object "ChannelMachine$Process"))) (by decide) rfl ?_
  intro p e s m args below meth c s₁ B hml hv
  obtain ⟨rfl, hsz, hN0, hP, hU, hZ, hD0⟩ := hv
  have hK := hU.1
  have hx := B.exec
  have hb := B.bytes
  have hr := B.returns
  have hts : ∀ w ∈ x_T, w.before ([.ref h0, .null, .int 1] : List Value).toArray s = true := fun w h => atoms_spec (ws := (Jvm.Cond.code ({ cls := "ChannelMachine$Reader", name := "begin", desc := "(LChannelMachine$Process;I)LChannelMachine$Process;" } : Jvm.MethodName) prog_8_method_14_code (7 : Nat) (Option.some (Jvm.ClassFile.FieldType.object "ChannelMachine$Process"))) :: x_T) B.pre w (List.mem_cons_of_mem _ h)
  have hown : s.vm.findClass "ChannelMachine$Reader" = some m.cls := findClass_of_methodNamed B.named
  have hlocks := B.notSynchronized
  subst hsz
  have hD := hD0.self (sz := s.heap.size)
  have hAN := x_AN hD0 hN0
  generalize hAe : va_A [(h0, .inr (3, [.ref tx, .ref co, .int 0, .int 0, .int 0, .int 0, .int 0, .int 0, .null]))] s.heap.size = A at hD hAN ⊢
  have hA : ∀ q : Nat, s.heap.size ≤ q → A q := fun q h => by rw [← hAe]; exact Or.inr h
  have hS : va_S A s.heap s.heap [] := va_S.rf
  have hP : va_P (dC, dI) x_cl [(h0, .inr (3, [.ref tx, .ref co, .int 0, .int 0, .int 0, .int 0, .int 0, .int 0, .null]))] s.heap := hP
  have hl := lv_entry ([.ref h0, .null, .int 1]) (n := 7) (Nat.le_of_ble_eq_true rfl)
  rw [lg_entry_eq]
  generalize (lg_sl ([.ref h0, .null, .int 1]) ++ List.replicate (7 - (lg_sl ([.ref h0, .null, .int 1])).length) Slot.unset).toArray = ls at hl ⊢
  have hl : lv_has ls 7 [(0, .ref h0), (1, .null), (2, .int 1)] := hl
  have hH0 : s.heap.size ≤ s.heap.size := Nat.le_refl _
  refine lv_aload_n hx hb d_Reader_begin_0 rfl (lv_at hl 0 rfl) ?_
  have hPc := hP.sub (ws' := [(h0, .inr (3, [.ref tx, .ref co, .int 0, .int 0, .int 0, .int 0, .int 0, .int 0, .null]))]) [0] rfl
  have hDc := hD.sub (ws' := [(h0, .inr (3, [.ref tx, .ref co, .int 0, .int 0, .int 0, .int 0, .int 0, .int 0, .null]))]) [0] (by decide) rfl
  have hFc := va_free (wc := [(h0, .inr (3, [.ref tx, .ref co, .int 0, .int 0, .int 0, .int 0, .int 0, .int 0, .null]))]) hD hS hA [0] rfl
  refine va_calli (va_runV (As := []) (rest := []) ⟨hx, hb, hml, hown, hts⟩ (c_Reader_look l dC dI ar N0 z h0 tx co s.heap.size) (cwV 0 hts (x_goodV k_338 k_340 kp_3 k_2 k_341) rfl rfl rfl (by decide +kernel) ⟨Nat.le_of_ble_eq_true rfl, Nat.le_of_ble_eq_true rfl⟩) ⟨x_blind, va_recv hK hPc (ci := 3) (q0 := 0) rfl rfl, fun U hU9 hW => x_pre hU9 hW hPc hDc hU hZ hS hAN hN0⟩ rfl rfl hl.1 rfl (lv_room (Nat.le_of_ble_eq_true rfl)) d_Reader_begin_1 ⟨Nat.le_of_ble_eq_true rfl, Nat.le_of_ble_eq_true rfl⟩) hS (fun q _ h => hFc q h) hFc (fun r1 u2 t H1 locs ht hvm hw hB hz1 hk1 hS => ?_)
  obtain ⟨hP1, hD1⟩ := hB
  rw [ht] at hP1
  obtain ⟨hP, hD⟩ := va_join (wr := []) (w1 := [(h0, .inr (3, [.ref tx, .ref co, .int 0, .int 0, .int 0, .int 0, .int 0, .int 0, .null]))]) hP hD [0] [] rfl rfl (by decide) (by decide) hk1 hFc hP1 hD1
  generalize H1 = H at hP hS ⊢
  have hP : va_P (dC, dI) x_cl [(h0, .inr (3, [.ref tx, .ref co, .int 0, .int 0, .int 0, .int 0, .int 0, .int 0, .null]))] H := hP
  have hD : va_D A [(h0, .inr (3, [.ref tx, .ref co, .int 0, .int 0, .int 0, .int 0, .int 0, .int 0, .null]))] := hD
  refine W.widen (k := 0) (n := 0) (Nat.le_of_ble_eq_true rfl) (Nat.le_of_ble_eq_true rfl) ?_
  obtain rfl := hw
  refine lv_istore_n (lv' := [(3, .int 0), (0, .ref h0), (1, .null), (2, .int 1)]) hx hb d_Reader_begin_4 rfl hl (by decide) rfl (fun ls hl => ?_)
  refine lv_iload_n hx hb d_Reader_begin_5 rfl (lv_at hl 0 rfl) ?_
  refine lv_aload_n hx hb d_Reader_begin_6 rfl (lv_at hl 1 rfl) ?_
  have hPc := hP.sub (ws' := [(h0, .inr (3, [.ref tx, .ref co, .int 0, .int 0, .int 0, .int 0, .int 0, .int 0, .null]))]) [0] rfl
  have hDc := hD.sub (ws' := [(h0, .inr (3, [.ref tx, .ref co, .int 0, .int 0, .int 0, .int 0, .int 0, .int 0, .null]))]) [0] (by decide) rfl
  have hFc := va_free (wc := [(h0, .inr (3, [.ref tx, .ref co, .int 0, .int 0, .int 0, .int 0, .int 0, .int 0, .null]))]) hD hS hA [0] rfl
  refine va_calli (va_runV (As := []) (rest := [.int 0]) ⟨hx, hb, hml, hown, hts⟩ (c_Reader_lookBehindNext l dC dI ar N0 z h0 tx co H.size) (cwV 0 hts (x_goodV k_342 k_344 kp_4 k_2 k_345) rfl rfl rfl (by decide +kernel) ⟨Nat.le_of_ble_eq_true rfl, Nat.le_of_ble_eq_true rfl⟩) ⟨x_blind, va_recv hK hPc (ci := 3) (q0 := 0) rfl rfl, fun U hU9 hW => x_pre hU9 hW hPc hDc hU hZ hS hAN hN0⟩ rfl rfl hl.1 rfl (lv_room (Nat.le_of_ble_eq_true rfl)) d_Reader_begin_7 ⟨Nat.le_of_ble_eq_true rfl, Nat.le_of_ble_eq_true rfl⟩) hS (fun q _ h => hFc q h) hFc (fun r3 u4 t H1 locs ht hvm hw hB hz1 hk1 hS => ?_)
  obtain ⟨hP1, hD1⟩ := hB
  rw [ht] at hP1
  obtain ⟨hP, hD⟩ := va_join (wr := []) (w1 := [(h0, .inr (3, [.ref tx, .ref co, .int 0, .int 0, .int 0, .int 0, .int 0, .int 0, .null]))]) hP hD [0] [] rfl rfl (by decide) (by decide) hk1 hFc hP1 hD1
  generalize H1 = H at hP hS ⊢
  have hP : va_P (dC, dI) x_cl [(h0, .inr (3, [.ref tx, .ref co, .int 0, .int 0, .int 0, .int 0, .int 0, .int 0, .null]))] H := hP
  have hD : va_D A [(h0, .inr (3, [.ref tx, .ref co, .int 0, .int 0, .int 0, .int 0, .int 0, .int 0, .null]))] := hD
  refine W.widen (k := 0) (n := 0) (Nat.le_of_ble_eq_true rfl) (Nat.le_of_ble_eq_true rfl) ?_
  obtain rfl := hw
  have hPc := hP.sub (ws' := []) [] rfl
  have hDc := hD.sub (ws' := []) [] (by decide) rfl
  have hFc := va_free (wc := []) hD hS hA [] rfl
  refine va_callq (va_runS (As := [.int 0, .int 0]) (rest := []) ⟨hx, hb, hml, hown, hts⟩ (c_Reader_kindOf l dC dI ar N0 z H.size) (cwS 2 hts (x_goodS k_346 k_347 k_2 k_348) rfl rfl rfl (by decide +kernel) ⟨Nat.le_of_ble_eq_true rfl, Nat.le_of_ble_eq_true rfl⟩) ⟨x_blind, fun U hU9 hW => x_pre hU9 hW hPc hDc hU hZ hS hAN hN0⟩ rfl rfl hl.1 rfl (lv_room (Nat.le_of_ble_eq_true rfl)) d_Reader_begin_10 ⟨Nat.le_of_ble_eq_true rfl, Nat.le_of_ble_eq_true rfl⟩) hS (fun q _ h => hFc q h) hFc (fun r5 u6 t H1 locs ht hvm hw hB hz1 hk1 hS => ?_)
  obtain ⟨hP1, hD1⟩ := hB
  rw [ht] at hP1
  obtain ⟨hP, hD⟩ := va_join (wr := [(h0, .inr (3, [.ref tx, .ref co, .int 0, .int 0, .int 0, .int 0, .int 0, .int 0, .null]))]) (w1 := []) hP hD [] [0] rfl rfl (by decide) (by decide) hk1 hFc hP1 hD1
  generalize H1 = H at hP hS ⊢
  have hP : va_P (dC, dI) x_cl [(h0, .inr (3, [.ref tx, .ref co, .int 0, .int 0, .int 0, .int 0, .int 0, .int 0, .null]))] H := hP
  have hD : va_D A [(h0, .inr (3, [.ref tx, .ref co, .int 0, .int 0, .int 0, .int 0, .int 0, .int 0, .null]))] := hD
  refine W.widen (k := 0) (n := 0) (Nat.le_of_ble_eq_true rfl) (Nat.le_of_ble_eq_true rfl) ?_
  obtain rfl := hw
  refine W.eq (g2 := F0 m 13 ls [.null]) rfl ?_
  refine lv_astoreN (lv' := [(4, .null), (3, .int 0), (0, .ref h0), (1, .null), (2, .int 1)]) hx hb d_Reader_begin_13 hl (by decide) rfl (fun ls hl => ?_)
  refine lv_aloadN hx hb d_Reader_begin_15 (lv_at hl 0 rfl) ?_
  refine va_gets hx hb (hZ.2.2.2.1.narrow hAN) hS hown (hts _ k_359) (fun _ h9 => h9) d_Reader_begin_17 ?_
  refine lv_acmp_eq (rx := none) (ry := (some (z 1))) (tgt := 31) hx hb d_Reader_begin_20 (by decide) (fun c7 => by cases c7) (fun _ => ?_)
  refine lv_aloadN hx hb d_Reader_begin_23 (lv_at hl 0 rfl) ?_
  refine va_gets hx hb (hZ.2.2.2.2.narrow hAN) hS hown (hts _ k_361) (fun _ h9 => h9) d_Reader_begin_25 ?_
  refine lv_acmp_ne (rx := none) (ry := (some (z 2))) (tgt := 35) hx hb d_Reader_begin_28 (by decide) (fun _ => ?_) (fun c8 => by cases c8)
  refine lv_iconst (v := 0) hx hb d_Reader_begin_35 (by decide) ?_
  refine lv_istore (lv' := [(5, .int 0), (4, .null), (3, .int 0), (0, .ref h0), (1, .null), (2, .int 1)]) hx hb d_Reader_begin_36 hl (by decide) rfl (fun ls hl => ?_)
  refine lv_aloadN hx hb d_Reader_begin_38 (lv_at hl 1 rfl) ?_
  refine lv_ifnullN (tgt := 54) hx hb d_Reader_begin_40 (by decide) ?_
  refine lv_null hx hb d_Reader_begin_54 ?_
  refine W.widen (k := 0) (n := 0) (Nat.le_of_ble_eq_true rfl) (Nat.le_of_ble_eq_true rfl) ?_
  exact W.aret (v := .null) hx hb hr (Or.inl ⟨_, rfl⟩) (Or.inl rfl) (fun t ht hW => ⟨⟨none, (), rfl, rfl, ⟨by rw [ht]; exact hP, hD⟩⟩, hS.F ht⟩) hS.2.2 d_Reader_begin_55
set_option maxHeartbeats 4000000 in
set_option maxRecDepth 100000 in
theorem c_Reader_process (l : Launch) (dC : Nat → ClassId) (dI : Nat → Nat → Nat) (ar : Nat → ClassId) (N0 : Nat) (z : Nat → Nat) (h0 tx co : Nat) (sz : Nat) : Met l ({ cls := "ChannelMachine$Reader", name := "process", desc := "(LChannelMachine$Process;IZ)Z" } : Jvm.MethodName) ((Jvm.Cond.code ({ cls := "ChannelMachine$Reader", name := "process", desc := "(LChannelMachine$Process;IZ)Z" } : Jvm.MethodName) prog_8_method_13_code (5 : Nat) (Option.some Jvm.ClassFile.FieldType.boolean)) :: x_T) ({ frames := 3, cells := 0, slots := 0, locals := 67 }) (x_Pc (dC, dI) ar N0 z [(h0, .inr (3, [.ref tx, .ref co, .int 0, .int 0, .int 0, .int 0, .int 0, .int 0, .null]))] sz [.ref h0, .null, .int 1, .int 0]) (va_Qi (fun (r : Int32) (u : Unit) => r = 0) (fun u t => va_P (dC, dI) x_cl [(h0, .inr (3, [.ref tx, .ref co, .int 0, .int 0, .int 0, .int 0, .int 0, .int 0, .null]))] t.heap ∧ va_D (va_A [(h0, .inr (3, [.ref tx, .ref co, .int 0, .int 0, .int 0, .int 0, .int 0, .int 0, .null]))] sz) [(h0, .inr (3, [.ref tx, .ref co, .int 0, .int 0, .int 0, .int 0, .int 0, .int 0, .null]))]) (va_A [(h0, .inr (3, [.ref tx, .ref co, .int 0, .int 0, .int 0, .int 0, .int 0, .int 0, .null]))] sz)) 0 0 (va_A [(h0, .inr (3, [.ref tx, .ref co, .int 0, .int 0, .int 0, .int 0, .int 0, .int 0, .null]))] sz) := by
  refine Met.ofW (cc := prog_8_method_13_code) (maxL := 5) (ret := (some .boolean)) (by decide) rfl ?_
  intro p e s m args below meth c s₁ B hml hv
  obtain ⟨rfl, hsz, hN0, hP, hU, hZ, hD0⟩ := hv
  have hK := hU.1
  have hx := B.exec
  have hb := B.bytes
  have hr := B.returns
  have hts : ∀ w ∈ x_T, w.before ([.ref h0, .null, .int 1, .int 0] : List Value).toArray s = true := fun w h => atoms_spec (ws := (Jvm.Cond.code ({ cls := "ChannelMachine$Reader", name := "process", desc := "(LChannelMachine$Process;IZ)Z" } : Jvm.MethodName) prog_8_method_13_code (5 : Nat) (Option.some Jvm.ClassFile.FieldType.boolean)) :: x_T) B.pre w (List.mem_cons_of_mem _ h)
  have hown : s.vm.findClass "ChannelMachine$Reader" = some m.cls := findClass_of_methodNamed B.named
  have hlocks := B.notSynchronized
  subst hsz
  have hD := hD0.self (sz := s.heap.size)
  have hAN := x_AN hD0 hN0
  generalize hAe : va_A [(h0, .inr (3, [.ref tx, .ref co, .int 0, .int 0, .int 0, .int 0, .int 0, .int 0, .null]))] s.heap.size = A at hD hAN ⊢
  have hA : ∀ q : Nat, s.heap.size ≤ q → A q := fun q h => by rw [← hAe]; exact Or.inr h
  have hS : va_S A s.heap s.heap [] := va_S.rf
  have hP : va_P (dC, dI) x_cl [(h0, .inr (3, [.ref tx, .ref co, .int 0, .int 0, .int 0, .int 0, .int 0, .int 0, .null]))] s.heap := hP
  have hl := lv_entry ([.ref h0, .null, .int 1, .int 0]) (n := 5) (Nat.le_of_ble_eq_true rfl)
  rw [lg_entry_eq]
  generalize (lg_sl ([.ref h0, .null, .int 1, .int 0]) ++ List.replicate (5 - (lg_sl ([.ref h0, .null, .int 1, .int 0])).length) Slot.unset).toArray = ls at hl ⊢
  have hl : lv_has ls 5 [(0, .ref h0), (1, .null), (2, .int 1), (3, .int 0)] := hl
  have hH0 : s.heap.size ≤ s.heap.size := Nat.le_refl _
  refine lv_iload_n hx hb d_Reader_process_0 rfl (lv_at hl 2 rfl) ?_
  refine lv_bipush (v := 7) hx hb d_Reader_process_1 (by decide) ?_
  refine lv_icmp_le (tgt := 10) hx hb d_Reader_process_3 (by decide) (fun _ => ?_) (fun c1 => absurd (by decide) c1)
  refine lv_aload_n hx hb d_Reader_process_10 rfl (lv_at hl 0 rfl) ?_
  refine lv_aload_nN hx hb d_Reader_process_11 rfl (lv_at hl 1 rfl) ?_
  refine lv_iload_n hx hb d_Reader_process_12 rfl (lv_at hl 2 rfl) ?_
  have hPc := hP.sub (ws' := [(h0, .inr (3, [.ref tx, .ref co, .int 0, .int 0, .int 0, .int 0, .int 0, .int 0, .null]))]) [0] rfl
  have hDc := hD.sub (ws' := [(h0, .inr (3, [.ref tx, .ref co, .int 0, .int 0, .int 0, .int 0, .int 0, .int 0, .null]))]) [0] (by decide) rfl
  have hFc := va_free (wc := [(h0, .inr (3, [.ref tx, .ref co, .int 0, .int 0, .int 0, .int 0, .int 0, .int 0, .null]))]) hD hS hA [0] rfl
  refine va_callq (va_runV (As := [.null, .int 1]) (rest := []) ⟨hx, hb, hml, hown, hts⟩ (c_Reader_begin l dC dI ar N0 z h0 tx co s.heap.size) (cwV 2 hts (x_goodV k_334 k_336 kp_2 k_2 k_337) rfl rfl rfl (by decide +kernel) ⟨Nat.le_of_ble_eq_true rfl, Nat.le_of_ble_eq_true rfl⟩) ⟨x_blind, va_recv hK hPc (ci := 3) (q0 := 0) rfl rfl, fun U hU9 hW => x_pre hU9 hW hPc hDc hU hZ hS hAN hN0⟩ rfl rfl hl.1 rfl (lv_room (Nat.le_of_ble_eq_true rfl)) d_Reader_process_13 ⟨Nat.le_of_ble_eq_true rfl, Nat.le_of_ble_eq_true rfl⟩) hS (fun q _ h => hFc q h) hFc (fun r2 u3 t H1 locs ht hvm hw hB hz1 hk1 hS => ?_)
  obtain ⟨hP1, hD1⟩ := hB
  rw [ht] at hP1
  obtain ⟨hP, hD⟩ := va_join (wr := []) (w1 := [(h0, .inr (3, [.ref tx, .ref co, .int 0, .int 0, .int 0, .int 0, .int 0, .int 0, .null]))]) hP hD [0] [] rfl rfl (by decide) (by decide) hk1 hFc hP1 hD1
  generalize H1 = H at hP hS ⊢
  have hP : va_P (dC, dI) x_cl [(h0, .inr (3, [.ref tx, .ref co, .int 0, .int 0, .int 0, .int 0, .int 0, .int 0, .null]))] H := hP
  have hD : va_D A [(h0, .inr (3, [.ref tx, .ref co, .int 0, .int 0, .int 0, .int 0, .int 0, .int 0, .null]))] := hD
  refine W.widen (k := 0) (n := 0) (Nat.le_of_ble_eq_true rfl) (Nat.le_of_ble_eq_true rfl) ?_
  obtain rfl := hw
  refine W.eq (g2 := F0 m 16 ls [.null]) rfl ?_
  refine lv_astoreN (lv' := [(4, .null), (0, .ref h0), (1, .null), (2, .int 1), (3, .int 0)]) hx hb d_Reader_process_16 hl (by decide) rfl (fun ls hl => ?_)
  refine lv_aloadN hx hb d_Reader_process_18 (lv_at hl 0 rfl) ?_
  refine lv_ifnonnullN hx hb d_Reader_process_20 ?_
  refine lv_aload_n hx hb d_Reader_process_23 rfl (lv_at hl 1 rfl) ?_
  have hPc := hP.sub (ws' := [(h0, .inr (3, [.ref tx, .ref co, .int 0, .int 0, .int 0, .int 0, .int 0, .int 0, .null]))]) [0] rfl
  have hDc := hD.sub (ws' := [(h0, .inr (3, [.ref tx, .ref co, .int 0, .int 0, .int 0, .int 0, .int 0, .int 0, .null]))]) [0] (by decide) rfl
  have hFc := va_free (wc := [(h0, .inr (3, [.ref tx, .ref co, .int 0, .int 0, .int 0, .int 0, .int 0, .int 0, .null]))]) hD hS hA [0] rfl
  refine va_calli (va_runV (As := []) (rest := []) ⟨hx, hb, hml, hown, hts⟩ (c_Reader_refuse l dC dI ar N0 z h0 tx co H.size) (cwV 0 hts (x_goodV k_477 k_479 kp_6 k_2 k_480) rfl rfl rfl (by decide +kernel) ⟨Nat.le_of_ble_eq_true rfl, Nat.le_of_ble_eq_true rfl⟩) ⟨x_blind, va_recv hK hPc (ci := 3) (q0 := 0) rfl rfl, fun U hU9 hW => x_pre hU9 hW hPc hDc hU hZ hS hAN hN0⟩ rfl rfl hl.1 rfl (lv_room (Nat.le_of_ble_eq_true rfl)) d_Reader_process_24 ⟨Nat.le_of_ble_eq_true rfl, Nat.le_of_ble_eq_true rfl⟩) hS (fun q _ h => hFc q h) hFc (fun r4 u5 t H1 locs ht hvm hw hB hz1 hk1 hS => ?_)
  obtain ⟨hP1, hD1⟩ := hB
  rw [ht] at hP1
  obtain ⟨hP, hD⟩ := va_join (wr := []) (w1 := [(h0, .inr (3, [.ref tx, .ref co, .int 0, .int 0, .int 0, .int 0, .int 0, .int 0, .null]))]) hP hD [0] [] rfl rfl (by decide) (by decide) hk1 hFc hP1 hD1
  generalize H1 = H at hP hS ⊢
  have hP : va_P (dC, dI) x_cl [(h0, .inr (3, [.ref tx, .ref co, .int 0, .int 0, .int 0, .int 0, .int 0, .int 0, .null]))] H := hP
  have hD : va_D A [(h0, .inr (3, [.ref tx, .ref co, .int 0, .int 0, .int 0, .int 0, .int 0, .int 0, .null]))] := hD
  refine W.widen (k := 0) (n := 0) (Nat.le_of_ble_eq_true rfl) (Nat.le_of_ble_eq_true rfl) ?_
  obtain rfl := hw
  refine W.widen (k := 0) (n := 0) (Nat.le_of_ble_eq_true rfl) (Nat.le_of_ble_eq_true rfl) ?_
  exact W.zret (v := 0) hx hb hr (rfl) (fun t ht hW => ⟨⟨0, (), rfl, rfl, ⟨by rw [ht]; exact hP, hD⟩⟩, hS.F ht⟩) hS.2.2 d_Reader_process_27
