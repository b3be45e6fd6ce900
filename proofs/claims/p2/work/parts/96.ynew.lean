-- ===== 96.ynew: new cells, constructors, kindOf, added, by program =====
theorem k_17 : (Jvm.Cond.initialized "ChannelMachine$Process") ∈ x_T := x_at 17 (by decide +kernel) (by decide +kernel)
theorem k_349 : (Jvm.Cond.fieldLink "ChannelMachine$Reader" (140 : Nat) "ChannelMachine$Kind" "NOTHING" "LChannelMachine$Kind;") ∈ x_T := x_at 349 (by decide +kernel) (by decide +kernel)
theorem k_351 : (Jvm.Cond.fieldLink "ChannelMachine$Reader" (143 : Nat) "ChannelMachine$Kind" "STOP" "LChannelMachine$Kind;") ∈ x_T := x_at 351 (by decide +kernel) (by decide +kernel)
theorem k_353 : (Jvm.Cond.fieldLink "ChannelMachine$Reader" (146 : Nat) "ChannelMachine$Kind" "SEQUENCE" "LChannelMachine$Kind;") ∈ x_T := x_at 353 (by decide +kernel) (by decide +kernel)
theorem k_355 : (Jvm.Cond.fieldLink "ChannelMachine$Reader" (149 : Nat) "ChannelMachine$Kind" "PARALLEL" "LChannelMachine$Kind;") ∈ x_T := x_at 355 (by decide +kernel) (by decide +kernel)
theorem k_357 : (Jvm.Cond.fieldLink "ChannelMachine$Reader" (152 : Nat) "ChannelMachine$Kind" "ALTERNATIVE" "LChannelMachine$Kind;") ∈ x_T := x_at 357 (by decide +kernel) (by decide +kernel)
theorem k_359 : (Jvm.Cond.fieldLink "ChannelMachine$Reader" (120 : Nat) "ChannelMachine$Kind" "LOOP" "LChannelMachine$Kind;") ∈ x_T := x_at 359 (by decide +kernel) (by decide +kernel)
theorem k_361 : (Jvm.Cond.fieldLink "ChannelMachine$Reader" (123 : Nat) "ChannelMachine$Kind" "CONDITION" "LChannelMachine$Kind;") ∈ x_T := x_at 361 (by decide +kernel) (by decide +kernel)
theorem k_363 : (Jvm.Cond.fieldLink "ChannelMachine$Reader" (155 : Nat) "ChannelMachine$Kind" "DELAY" "LChannelMachine$Kind;") ∈ x_T := x_at 363 (by decide +kernel) (by decide +kernel)
theorem k_365 : (Jvm.Cond.fieldLink "ChannelMachine$Reader" (158 : Nat) "ChannelMachine$Kind" "OUTPUT" "LChannelMachine$Kind;") ∈ x_T := x_at 365 (by decide +kernel) (by decide +kernel)
theorem k_367 : (Jvm.Cond.fieldLink "ChannelMachine$Reader" (161 : Nat) "ChannelMachine$Kind" "INPUT" "LChannelMachine$Kind;") ∈ x_T := x_at 367 (by decide +kernel) (by decide +kernel)
theorem k_372 : (Jvm.Cond.fieldLink "ChannelMachine$Reader" (137 : Nat) "ChannelMachine$Kind" "ASSIGNMENT" "LChannelMachine$Kind;") ∈ x_T := x_at 372 (by decide +kernel) (by decide +kernel)
theorem k_374 : (Jvm.Cond.methodLink "ChannelMachine$Reader" (130 : Nat) ({ cls := "ChannelMachine$Reader", name := "channelOf", desc := "(C)I" } : Jvm.MethodName)) ∈ x_T := x_at 374 (by decide +kernel) (by decide +kernel)
theorem k_375 : (Jvm.Cond.static ({ cls := "ChannelMachine$Reader", name := "channelOf", desc := "(C)I" } : Jvm.MethodName)) ∈ x_T := x_at 375 (by decide +kernel) (by decide +kernel)
theorem k_376 : (Jvm.Cond.code ({ cls := "ChannelMachine$Reader", name := "channelOf", desc := "(C)I" } : Jvm.MethodName) prog_8_method_12_code (1 : Nat) (Option.some Jvm.ClassFile.FieldType.int)) ∈ x_T := x_at 376 (by decide +kernel) (by decide +kernel)
theorem k_381 : (Jvm.Cond.classLink "ChannelMachine$Reader" (73 : Nat) "ChannelMachine$Process") ∈ x_T := x_at 381 (by decide +kernel) (by decide +kernel)
theorem k_382 : (Jvm.Cond.instantiable "ChannelMachine$Process" (10 : Nat)) ∈ x_T := x_at 382 (by decide +kernel) (by decide +kernel)
theorem k_383 : (Jvm.Cond.methodLink "ChannelMachine$Reader" (164 : Nat) ({ cls := "ChannelMachine$Process", name := "<init>", desc := "(LChannelMachine$Kind;LChannelMachine$Process;)V" } : Jvm.MethodName)) ∈ x_T := x_at 383 (by decide +kernel) (by decide +kernel)
theorem k_384 : (Jvm.Cond.instanceMethod ({ cls := "ChannelMachine$Process", name := "<init>", desc := "(LChannelMachine$Kind;LChannelMachine$Process;)V" } : Jvm.MethodName)) ∈ x_T := x_at 384 (by decide +kernel) (by decide +kernel)
theorem k_385 : (Jvm.Cond.code ({ cls := "ChannelMachine$Process", name := "<init>", desc := "(LChannelMachine$Kind;LChannelMachine$Process;)V" } : Jvm.MethodName) prog_7_method_1_code (3 : Nat) (Option.none : Option Jvm.ClassFile.FieldType)) ∈ x_T := x_at 385 (by decide +kernel) (by decide +kernel)
theorem k_386 : (Jvm.Cond.methodLink "ChannelMachine$Process" (3 : Nat) ({ cls := "java/lang/Object", name := "<init>", desc := "()V" } : Jvm.MethodName)) ∈ x_T := x_at 386 (by decide +kernel) (by decide +kernel)
theorem k_389 : (Jvm.Cond.fieldLink "ChannelMachine$Process" (43 : Nat) "ChannelMachine$Process" "kind" "LChannelMachine$Kind;") ∈ x_T := x_at 389 (by decide +kernel) (by decide +kernel)
theorem k_393 : (Jvm.Cond.fieldLink "ChannelMachine$Process" (47 : Nat) "ChannelMachine$Process" "parent" "LChannelMachine$Process;") ∈ x_T := x_at 393 (by decide +kernel) (by decide +kernel)
theorem k_395 : (Jvm.Cond.fieldLink "ChannelMachine$Process" (9 : Nat) "ChannelMachine$Process" "first" "LChannelMachine$Process;") ∈ x_T := x_at 395 (by decide +kernel) (by decide +kernel)
theorem k_399 : (Jvm.Cond.fieldLink "ChannelMachine$Process" (15 : Nat) "ChannelMachine$Process" "last" "LChannelMachine$Process;") ∈ x_T := x_at 399 (by decide +kernel) (by decide +kernel)
theorem k_402 : (Jvm.Cond.fieldLink "ChannelMachine$Process" (18 : Nat) "ChannelMachine$Process" "next" "LChannelMachine$Process;") ∈ x_T := x_at 402 (by decide +kernel) (by decide +kernel)
theorem k_406 : (Jvm.Cond.fieldLink "ChannelMachine$Process" (21 : Nat) "ChannelMachine$Process" "task" "LChannelMachine$Task;") ∈ x_T := x_at 406 (by decide +kernel) (by decide +kernel)
theorem k_410 : (Jvm.Cond.fieldLink "ChannelMachine$Process" (25 : Nat) "ChannelMachine$Process" "guards" "LChannelMachine$Guard;") ∈ x_T := x_at 410 (by decide +kernel) (by decide +kernel)
theorem k_413 : (Jvm.Cond.fieldLink "ChannelMachine$Process" (33 : Nat) "ChannelMachine$Process" "code" "[I") ∈ x_T := x_at 413 (by decide +kernel) (by decide +kernel)
theorem k_416 : (Jvm.Cond.fieldLink "ChannelMachine$Process" (36 : Nat) "ChannelMachine$Process" "channel" "I") ∈ x_T := x_at 416 (by decide +kernel) (by decide +kernel)
theorem k_419 : (Jvm.Cond.fieldLink "ChannelMachine$Process" (40 : Nat) "ChannelMachine$Process" "variable" "I") ∈ x_T := x_at 419 (by decide +kernel) (by decide +kernel)
theorem k_443 : (Jvm.Cond.classLink "ChannelMachine$Reader" (167 : Nat) "ChannelMachine$Task") ∈ x_T := x_at 443 (by decide +kernel) (by decide +kernel)
theorem k_444 : (Jvm.Cond.instantiable "ChannelMachine$Task" (7 : Nat)) ∈ x_T := x_at 444 (by decide +kernel) (by decide +kernel)
theorem k_445 : (Jvm.Cond.methodLink "ChannelMachine$Reader" (169 : Nat) ({ cls := "ChannelMachine$Task", name := "<init>", desc := "(LChannelMachine$Process;LChannelMachine$Task;)V" } : Jvm.MethodName)) ∈ x_T := x_at 445 (by decide +kernel) (by decide +kernel)
theorem k_446 : (Jvm.Cond.instanceMethod ({ cls := "ChannelMachine$Task", name := "<init>", desc := "(LChannelMachine$Process;LChannelMachine$Task;)V" } : Jvm.MethodName)) ∈ x_T := x_at 446 (by decide +kernel) (by decide +kernel)
theorem k_447 : (Jvm.Cond.code ({ cls := "ChannelMachine$Task", name := "<init>", desc := "(LChannelMachine$Process;LChannelMachine$Task;)V" } : Jvm.MethodName) prog_10_method_1_code (3 : Nat) (Option.none : Option Jvm.ClassFile.FieldType)) ∈ x_T := x_at 447 (by decide +kernel) (by decide +kernel)
theorem k_448 : (Jvm.Cond.methodLink "ChannelMachine$Task" (3 : Nat) ({ cls := "java/lang/Object", name := "<init>", desc := "()V" } : Jvm.MethodName)) ∈ x_T := x_at 448 (by decide +kernel) (by decide +kernel)
theorem k_451 : (Jvm.Cond.fieldLink "ChannelMachine$Task" (30 : Nat) "ChannelMachine$Task" "maker" "LChannelMachine$Task;") ∈ x_T := x_at 451 (by decide +kernel) (by decide +kernel)
theorem k_456 : (Jvm.Cond.fieldLink "ChannelMachine$Task" (15 : Nat) "ChannelMachine$Task" "running" "I") ∈ x_T := x_at 456 (by decide +kernel) (by decide +kernel)
theorem k_458 : (Jvm.Cond.fieldLink "ChannelMachine$Task" (19 : Nat) "ChannelMachine$Task" "value" "I") ∈ x_T := x_at 458 (by decide +kernel) (by decide +kernel)
theorem k_460 : (Jvm.Cond.fieldLink "ChannelMachine$Task" (22 : Nat) "ChannelMachine$Task" "until" "J") ∈ x_T := x_at 460 (by decide +kernel) (by decide +kernel)
theorem k_567 : (Jvm.Cond.methodLink "ChannelMachine$Guard" (3 : Nat) ({ cls := "java/lang/Object", name := "<init>", desc := "()V" } : Jvm.MethodName)) ∈ x_T := x_at 567 (by decide +kernel) (by decide +kernel)
theorem k_569 : (Jvm.Cond.fieldLink "ChannelMachine$Guard" (13 : Nat) "ChannelMachine$Guard" "code" "[I") ∈ x_T := x_at 569 (by decide +kernel) (by decide +kernel)
theorem k_572 : (Jvm.Cond.fieldLink "ChannelMachine$Guard" (18 : Nat) "ChannelMachine$Guard" "channel" "I") ∈ x_T := x_at 572 (by decide +kernel) (by decide +kernel)
theorem k_575 : (Jvm.Cond.fieldLink "ChannelMachine$Guard" (22 : Nat) "ChannelMachine$Guard" "variable" "I") ∈ x_T := x_at 575 (by decide +kernel) (by decide +kernel)
theorem k_578 : (Jvm.Cond.fieldLink "ChannelMachine$Guard" (25 : Nat) "ChannelMachine$Guard" "follow" "LChannelMachine$Process;") ∈ x_T := x_at 578 (by decide +kernel) (by decide +kernel)
theorem k_581 : (Jvm.Cond.fieldLink "ChannelMachine$Guard" (29 : Nat) "ChannelMachine$Guard" "next" "LChannelMachine$Guard;") ∈ x_T := x_at 581 (by decide +kernel) (by decide +kernel)
theorem k_584 : (Jvm.Cond.fieldLink "ChannelMachine$Guard" (33 : Nat) "ChannelMachine$Guard" "isOpen" "Z") ∈ x_T := x_at 584 (by decide +kernel) (by decide +kernel)
theorem kn_387 : (Jvm.Cond.fieldLinkNest "ChannelMachine$Process" (29 : Nat) "ChannelMachine" "NO_CODE" "[I" "ChannelMachine") ∈ x_nest := x_nest_at 387 (by decide +kernel) (by decide +kernel)
theorem kn_392 : (Jvm.Cond.fieldLinkNest "ChannelMachine$Reader" (72 : Nat) "ChannelMachine$Process" "kind" "LChannelMachine$Kind;" "ChannelMachine") ∈ x_nest := x_nest_at 392 (by decide +kernel) (by decide +kernel)
theorem kn_398 : (Jvm.Cond.fieldLinkNest "ChannelMachine$Reader" (179 : Nat) "ChannelMachine$Process" "first" "LChannelMachine$Process;" "ChannelMachine") ∈ x_nest := x_nest_at 398 (by decide +kernel) (by decide +kernel)
theorem kn_401 : (Jvm.Cond.fieldLinkNest "ChannelMachine$Reader" (176 : Nat) "ChannelMachine$Process" "last" "LChannelMachine$Process;" "ChannelMachine") ∈ x_nest := x_nest_at 401 (by decide +kernel) (by decide +kernel)
theorem kn_405 : (Jvm.Cond.fieldLinkNest "ChannelMachine$Reader" (182 : Nat) "ChannelMachine$Process" "next" "LChannelMachine$Process;" "ChannelMachine") ∈ x_nest := x_nest_at 405 (by decide +kernel) (by decide +kernel)
theorem kn_409 : (Jvm.Cond.fieldLinkNest "ChannelMachine$Reader" (172 : Nat) "ChannelMachine$Process" "task" "LChannelMachine$Task;" "ChannelMachine") ∈ x_nest := x_nest_at 409 (by decide +kernel) (by decide +kernel)
theorem kn_568 : (Jvm.Cond.fieldLinkNest "ChannelMachine$Guard" (9 : Nat) "ChannelMachine" "NO_CODE" "[I" "ChannelMachine") ∈ x_nest := x_nest_at 568 (by decide +kernel) (by decide +kernel)
theorem d_Process_init_0 : decode prog_7_method_1_code 0 = .ok (.aload_n 0, 1) := by decide +kernel
theorem d_Process_init_1 : decode prog_7_method_1_code 1 = .ok (.invokespecial 3, 3) := by decide +kernel
theorem d_Process_init_4 : decode prog_7_method_1_code 4 = .ok (.aload_n 0, 1) := by decide +kernel
theorem d_Process_init_5 : decode prog_7_method_1_code 5 = .ok (.aconst_null, 1) := by decide +kernel
theorem d_Process_init_6 : decode prog_7_method_1_code 6 = .ok (.putfield 9, 3) := by decide +kernel
theorem d_Process_init_9 : decode prog_7_method_1_code 9 = .ok (.aload_n 0, 1) := by decide +kernel
theorem d_Process_init_10 : decode prog_7_method_1_code 10 = .ok (.aconst_null, 1) := by decide +kernel
theorem d_Process_init_11 : decode prog_7_method_1_code 11 = .ok (.putfield 15, 3) := by decide +kernel
theorem d_Process_init_14 : decode prog_7_method_1_code 14 = .ok (.aload_n 0, 1) := by decide +kernel
theorem d_Process_init_15 : decode prog_7_method_1_code 15 = .ok (.aconst_null, 1) := by decide +kernel
theorem d_Process_init_16 : decode prog_7_method_1_code 16 = .ok (.putfield 18, 3) := by decide +kernel
theorem d_Process_init_19 : decode prog_7_method_1_code 19 = .ok (.aload_n 0, 1) := by decide +kernel
theorem d_Process_init_20 : decode prog_7_method_1_code 20 = .ok (.aconst_null, 1) := by decide +kernel
theorem d_Process_init_21 : decode prog_7_method_1_code 21 = .ok (.putfield 21, 3) := by decide +kernel
theorem d_Process_init_24 : decode prog_7_method_1_code 24 = .ok (.aload_n 0, 1) := by decide +kernel
theorem d_Process_init_25 : decode prog_7_method_1_code 25 = .ok (.aconst_null, 1) := by decide +kernel
theorem d_Process_init_26 : decode prog_7_method_1_code 26 = .ok (.putfield 25, 3) := by decide +kernel
theorem d_Process_init_29 : decode prog_7_method_1_code 29 = .ok (.aload_n 0, 1) := by decide +kernel
theorem d_Process_init_30 : decode prog_7_method_1_code 30 = .ok (.getstatic 29, 3) := by decide +kernel
theorem d_Process_init_33 : decode prog_7_method_1_code 33 = .ok (.putfield 33, 3) := by decide +kernel
theorem d_Process_init_36 : decode prog_7_method_1_code 36 = .ok (.aload_n 0, 1) := by decide +kernel
theorem d_Process_init_37 : decode prog_7_method_1_code 37 = .ok (.iconst (-1), 1) := by decide +kernel
theorem d_Process_init_38 : decode prog_7_method_1_code 38 = .ok (.putfield 36, 3) := by decide +kernel
theorem d_Process_init_41 : decode prog_7_method_1_code 41 = .ok (.aload_n 0, 1) := by decide +kernel
theorem d_Process_init_42 : decode prog_7_method_1_code 42 = .ok (.iconst (-1), 1) := by decide +kernel
theorem d_Process_init_43 : decode prog_7_method_1_code 43 = .ok (.putfield 40, 3) := by decide +kernel
theorem d_Process_init_46 : decode prog_7_method_1_code 46 = .ok (.aload_n 0, 1) := by decide +kernel
theorem d_Process_init_47 : decode prog_7_method_1_code 47 = .ok (.aload_n 1, 1) := by decide +kernel
theorem d_Process_init_48 : decode prog_7_method_1_code 48 = .ok (.putfield 43, 3) := by decide +kernel
theorem d_Process_init_51 : decode prog_7_method_1_code 51 = .ok (.aload_n 0, 1) := by decide +kernel
theorem d_Process_init_52 : decode prog_7_method_1_code 52 = .ok (.aload_n 2, 1) := by decide +kernel
theorem d_Process_init_53 : decode prog_7_method_1_code 53 = .ok (.putfield 47, 3) := by decide +kernel
theorem d_Process_init_56 : decode prog_7_method_1_code 56 = .ok (.return_, 1) := by decide +kernel
theorem d_Task_init_0 : decode prog_10_method_1_code 0 = .ok (.aload_n 0, 1) := by decide +kernel
theorem d_Task_init_1 : decode prog_10_method_1_code 1 = .ok (.invokespecial 3, 3) := by decide +kernel
theorem d_Task_init_4 : decode prog_10_method_1_code 4 = .ok (.aload_n 0, 1) := by decide +kernel
theorem d_Task_init_5 : decode prog_10_method_1_code 5 = .ok (.iconst 0, 1) := by decide +kernel
theorem d_Task_init_6 : decode prog_10_method_1_code 6 = .ok (.putfield 9, 3) := by decide +kernel
theorem d_Task_init_9 : decode prog_10_method_1_code 9 = .ok (.aload_n 0, 1) := by decide +kernel
theorem d_Task_init_10 : decode prog_10_method_1_code 10 = .ok (.iconst 0, 1) := by decide +kernel
theorem d_Task_init_11 : decode prog_10_method_1_code 11 = .ok (.putfield 15, 3) := by decide +kernel
theorem d_Task_init_14 : decode prog_10_method_1_code 14 = .ok (.aload_n 0, 1) := by decide +kernel
theorem d_Task_init_15 : decode prog_10_method_1_code 15 = .ok (.iconst 0, 1) := by decide +kernel
theorem d_Task_init_16 : decode prog_10_method_1_code 16 = .ok (.putfield 19, 3) := by decide +kernel
theorem d_Task_init_19 : decode prog_10_method_1_code 19 = .ok (.aload_n 0, 1) := by decide +kernel
theorem d_Task_init_20 : decode prog_10_method_1_code 20 = .ok (.lconst 0, 1) := by decide +kernel
theorem d_Task_init_21 : decode prog_10_method_1_code 21 = .ok (.putfield 22, 3) := by decide +kernel
theorem d_Task_init_24 : decode prog_10_method_1_code 24 = .ok (.aload_n 0, 1) := by decide +kernel
theorem d_Task_init_25 : decode prog_10_method_1_code 25 = .ok (.aload_n 1, 1) := by decide +kernel
theorem d_Task_init_26 : decode prog_10_method_1_code 26 = .ok (.putfield 26, 3) := by decide +kernel
theorem d_Task_init_29 : decode prog_10_method_1_code 29 = .ok (.aload_n 0, 1) := by decide +kernel
theorem d_Task_init_30 : decode prog_10_method_1_code 30 = .ok (.aload_n 2, 1) := by decide +kernel
theorem d_Task_init_31 : decode prog_10_method_1_code 31 = .ok (.putfield 30, 3) := by decide +kernel
theorem d_Task_init_34 : decode prog_10_method_1_code 34 = .ok (.aload_n 0, 1) := by decide +kernel
theorem d_Task_init_35 : decode prog_10_method_1_code 35 = .ok (.aload_n 1, 1) := by decide +kernel
theorem d_Task_init_36 : decode prog_10_method_1_code 36 = .ok (.putfield 34, 3) := by decide +kernel
theorem d_Task_init_39 : decode prog_10_method_1_code 39 = .ok (.return_, 1) := by decide +kernel
theorem d_Guard_init_0 : decode prog_4_method_1_code 0 = .ok (.aload_n 0, 1) := by decide +kernel
theorem d_Guard_init_1 : decode prog_4_method_1_code 1 = .ok (.invokespecial 3, 3) := by decide +kernel
theorem d_Guard_init_4 : decode prog_4_method_1_code 4 = .ok (.aload_n 0, 1) := by decide +kernel
theorem d_Guard_init_5 : decode prog_4_method_1_code 5 = .ok (.getstatic 9, 3) := by decide +kernel
theorem d_Guard_init_8 : decode prog_4_method_1_code 8 = .ok (.putfield 13, 3) := by decide +kernel
theorem d_Guard_init_11 : decode prog_4_method_1_code 11 = .ok (.aload_n 0, 1) := by decide +kernel
theorem d_Guard_init_12 : decode prog_4_method_1_code 12 = .ok (.iconst (-1), 1) := by decide +kernel
theorem d_Guard_init_13 : decode prog_4_method_1_code 13 = .ok (.putfield 18, 3) := by decide +kernel
theorem d_Guard_init_16 : decode prog_4_method_1_code 16 = .ok (.aload_n 0, 1) := by decide +kernel
theorem d_Guard_init_17 : decode prog_4_method_1_code 17 = .ok (.iconst (-1), 1) := by decide +kernel
theorem d_Guard_init_18 : decode prog_4_method_1_code 18 = .ok (.putfield 22, 3) := by decide +kernel
theorem d_Guard_init_21 : decode prog_4_method_1_code 21 = .ok (.aload_n 0, 1) := by decide +kernel
theorem d_Guard_init_22 : decode prog_4_method_1_code 22 = .ok (.aconst_null, 1) := by decide +kernel
theorem d_Guard_init_23 : decode prog_4_method_1_code 23 = .ok (.putfield 25, 3) := by decide +kernel
theorem d_Guard_init_26 : decode prog_4_method_1_code 26 = .ok (.aload_n 0, 1) := by decide +kernel
theorem d_Guard_init_27 : decode prog_4_method_1_code 27 = .ok (.aconst_null, 1) := by decide +kernel
theorem d_Guard_init_28 : decode prog_4_method_1_code 28 = .ok (.putfield 29, 3) := by decide +kernel
theorem d_Guard_init_31 : decode prog_4_method_1_code 31 = .ok (.aload_n 0, 1) := by decide +kernel
theorem d_Guard_init_32 : decode prog_4_method_1_code 32 = .ok (.iconst 0, 1) := by decide +kernel
theorem d_Guard_init_33 : decode prog_4_method_1_code 33 = .ok (.putfield 33, 3) := by decide +kernel
theorem d_Guard_init_36 : decode prog_4_method_1_code 36 = .ok (.return_, 1) := by decide +kernel
theorem d_Reader_kindOf_0 : decode prog_8_method_15_code 0 = .ok (.iload_n 0, 1) := by decide +kernel
theorem d_Reader_kindOf_1 : decode prog_8_method_15_code 1 = .ok (.lookupswitch 131 #[(35, 95), (40, 99), (46, 91), (63, 115), (64, 119), (73, 127), (79, 123), (91, 107), (94, 111), (123, 103)], 91) := by decide +kernel
theorem d_Reader_kindOf_92 : decode prog_8_method_15_code 92 = .ok (.getstatic 140, 3) := by decide +kernel
theorem d_Reader_kindOf_95 : decode prog_8_method_15_code 95 = .ok (.areturn, 1) := by decide +kernel
theorem d_Reader_kindOf_96 : decode prog_8_method_15_code 96 = .ok (.getstatic 143, 3) := by decide +kernel
theorem d_Reader_kindOf_99 : decode prog_8_method_15_code 99 = .ok (.areturn, 1) := by decide +kernel
theorem d_Reader_kindOf_100 : decode prog_8_method_15_code 100 = .ok (.getstatic 146, 3) := by decide +kernel
theorem d_Reader_kindOf_103 : decode prog_8_method_15_code 103 = .ok (.areturn, 1) := by decide +kernel
theorem d_Reader_kindOf_104 : decode prog_8_method_15_code 104 = .ok (.getstatic 149, 3) := by decide +kernel
theorem d_Reader_kindOf_107 : decode prog_8_method_15_code 107 = .ok (.areturn, 1) := by decide +kernel
theorem d_Reader_kindOf_108 : decode prog_8_method_15_code 108 = .ok (.getstatic 152, 3) := by decide +kernel
theorem d_Reader_kindOf_111 : decode prog_8_method_15_code 111 = .ok (.areturn, 1) := by decide +kernel
theorem d_Reader_kindOf_112 : decode prog_8_method_15_code 112 = .ok (.getstatic 120, 3) := by decide +kernel
theorem d_Reader_kindOf_115 : decode prog_8_method_15_code 115 = .ok (.areturn, 1) := by decide +kernel
theorem d_Reader_kindOf_116 : decode prog_8_method_15_code 116 = .ok (.getstatic 123, 3) := by decide +kernel
theorem d_Reader_kindOf_119 : decode prog_8_method_15_code 119 = .ok (.areturn, 1) := by decide +kernel
theorem d_Reader_kindOf_120 : decode prog_8_method_15_code 120 = .ok (.getstatic 155, 3) := by decide +kernel
theorem d_Reader_kindOf_123 : decode prog_8_method_15_code 123 = .ok (.areturn, 1) := by decide +kernel
theorem d_Reader_kindOf_124 : decode prog_8_method_15_code 124 = .ok (.getstatic 158, 3) := by decide +kernel
theorem d_Reader_kindOf_127 : decode prog_8_method_15_code 127 = .ok (.areturn, 1) := by decide +kernel
theorem d_Reader_kindOf_128 : decode prog_8_method_15_code 128 = .ok (.getstatic 161, 3) := by decide +kernel
theorem d_Reader_kindOf_131 : decode prog_8_method_15_code 131 = .ok (.areturn, 1) := by decide +kernel
theorem d_Reader_kindOf_132 : decode prog_8_method_15_code 132 = .ok (.iload_n 0, 1) := by decide +kernel
theorem d_Reader_kindOf_133 : decode prog_8_method_15_code 133 = .ok (.invokestatic 60, 3) := by decide +kernel
theorem d_Reader_kindOf_136 : decode prog_8_method_15_code 136 = .ok (.ifCond .eq 7, 3) := by decide +kernel
theorem d_Reader_kindOf_139 : decode prog_8_method_15_code 139 = .ok (.getstatic 137, 3) := by decide +kernel
theorem d_Reader_kindOf_142 : decode prog_8_method_15_code 142 = .ok (.areturn, 1) := by decide +kernel
theorem d_Reader_kindOf_143 : decode prog_8_method_15_code 143 = .ok (.iload_n 0, 1) := by decide +kernel
theorem d_Reader_kindOf_144 : decode prog_8_method_15_code 144 = .ok (.invokestatic 130, 3) := by decide +kernel
theorem d_Reader_kindOf_147 : decode prog_8_method_15_code 147 = .ok (.iconst (-1), 1) := by decide +kernel
theorem d_Reader_kindOf_148 : decode prog_8_method_15_code 148 = .ok (.if_icmp .ne 5, 3) := by decide +kernel
theorem d_Reader_kindOf_151 : decode prog_8_method_15_code 151 = .ok (.aconst_null, 1) := by decide +kernel
theorem d_Reader_kindOf_152 : decode prog_8_method_15_code 152 = .ok (.areturn, 1) := by decide +kernel
theorem d_Reader_kindOf_153 : decode prog_8_method_15_code 153 = .ok (.iload_n 1, 1) := by decide +kernel
theorem d_Reader_kindOf_154 : decode prog_8_method_15_code 154 = .ok (.bipush 33, 2) := by decide +kernel
theorem d_Reader_kindOf_156 : decode prog_8_method_15_code 156 = .ok (.if_icmp .ne 9, 3) := by decide +kernel
theorem d_Reader_kindOf_159 : decode prog_8_method_15_code 159 = .ok (.getstatic 158, 3) := by decide +kernel
theorem d_Reader_kindOf_162 : decode prog_8_method_15_code 162 = .ok (.goto 6, 3) := by decide +kernel
theorem d_Reader_kindOf_165 : decode prog_8_method_15_code 165 = .ok (.getstatic 161, 3) := by decide +kernel
theorem d_Reader_kindOf_168 : decode prog_8_method_15_code 168 = .ok (.areturn, 1) := by decide +kernel
theorem d_Reader_added_0 : decode prog_8_method_16_code 0 = .ok (.new 73, 3) := by decide +kernel
theorem d_Reader_added_3 : decode prog_8_method_16_code 3 = .ok (.dup, 1) := by decide +kernel
theorem d_Reader_added_4 : decode prog_8_method_16_code 4 = .ok (.aload_n 1, 1) := by decide +kernel
theorem d_Reader_added_5 : decode prog_8_method_16_code 5 = .ok (.aload_n 2, 1) := by decide +kernel
theorem d_Reader_added_6 : decode prog_8_method_16_code 6 = .ok (.invokespecial 164, 3) := by decide +kernel
theorem d_Reader_added_9 : decode prog_8_method_16_code 9 = .ok (.astore_n 3, 1) := by decide +kernel
theorem d_Reader_added_10 : decode prog_8_method_16_code 10 = .ok (.aload_n 0, 1) := by decide +kernel
theorem d_Reader_added_11 : decode prog_8_method_16_code 11 = .ok (.dup, 1) := by decide +kernel
theorem d_Reader_added_12 : decode prog_8_method_16_code 12 = .ok (.getfield 35, 3) := by decide +kernel
theorem d_Reader_added_15 : decode prog_8_method_16_code 15 = .ok (.iconst 1, 1) := by decide +kernel
theorem d_Reader_added_16 : decode prog_8_method_16_code 16 = .ok (.iadd, 1) := by decide +kernel
theorem d_Reader_added_17 : decode prog_8_method_16_code 17 = .ok (.putfield 35, 3) := by decide +kernel
theorem d_Reader_added_20 : decode prog_8_method_16_code 20 = .ok (.aload_n 2, 1) := by decide +kernel
theorem d_Reader_added_21 : decode prog_8_method_16_code 21 = .ok (.ifnonnull 23, 3) := by decide +kernel
theorem d_Reader_added_24 : decode prog_8_method_16_code 24 = .ok (.aload_n 0, 1) := by decide +kernel
theorem d_Reader_added_25 : decode prog_8_method_16_code 25 = .ok (.aload_n 3, 1) := by decide +kernel
theorem d_Reader_added_26 : decode prog_8_method_16_code 26 = .ok (.putfield 38, 3) := by decide +kernel
theorem d_Reader_added_29 : decode prog_8_method_16_code 29 = .ok (.aload_n 3, 1) := by decide +kernel
theorem d_Reader_added_30 : decode prog_8_method_16_code 30 = .ok (.new 167, 3) := by decide +kernel
theorem d_Reader_added_33 : decode prog_8_method_16_code 33 = .ok (.dup, 1) := by decide +kernel
theorem d_Reader_added_34 : decode prog_8_method_16_code 34 = .ok (.aload_n 3, 1) := by decide +kernel
theorem d_Reader_added_35 : decode prog_8_method_16_code 35 = .ok (.aconst_null, 1) := by decide +kernel
theorem d_Reader_added_36 : decode prog_8_method_16_code 36 = .ok (.invokespecial 169, 3) := by decide +kernel
theorem d_Reader_added_39 : decode prog_8_method_16_code 39 = .ok (.putfield 172, 3) := by decide +kernel
theorem d_Reader_added_42 : decode prog_8_method_16_code 42 = .ok (.aload_n 3, 1) := by decide +kernel
theorem d_Reader_added_43 : decode prog_8_method_16_code 43 = .ok (.areturn, 1) := by decide +kernel
theorem d_Reader_added_44 : decode prog_8_method_16_code 44 = .ok (.aload_n 2, 1) := by decide +kernel
theorem d_Reader_added_45 : decode prog_8_method_16_code 45 = .ok (.getfield 72, 3) := by decide +kernel
theorem d_Reader_added_48 : decode prog_8_method_16_code 48 = .ok (.getstatic 149, 3) := by decide +kernel
theorem d_Reader_added_51 : decode prog_8_method_16_code 51 = .ok (.if_acmp .ne 7, 3) := by decide +kernel
theorem d_Reader_added_54 : decode prog_8_method_16_code 54 = .ok (.iconst 1, 1) := by decide +kernel
theorem d_Reader_added_55 : decode prog_8_method_16_code 55 = .ok (.goto 4, 3) := by decide +kernel
theorem d_Reader_added_58 : decode prog_8_method_16_code 58 = .ok (.iconst 0, 1) := by decide +kernel
theorem d_Reader_added_59 : decode prog_8_method_16_code 59 = .ok (.istore 4, 2) := by decide +kernel
theorem d_Reader_added_61 : decode prog_8_method_16_code 61 = .ok (.aload_n 3, 1) := by decide +kernel
theorem d_Reader_added_62 : decode prog_8_method_16_code 62 = .ok (.iload 4, 2) := by decide +kernel
theorem d_Reader_added_64 : decode prog_8_method_16_code 64 = .ok (.ifCond .eq 18, 3) := by decide +kernel
theorem d_Reader_added_67 : decode prog_8_method_16_code 67 = .ok (.new 167, 3) := by decide +kernel
theorem d_Reader_added_70 : decode prog_8_method_16_code 70 = .ok (.dup, 1) := by decide +kernel
theorem d_Reader_added_71 : decode prog_8_method_16_code 71 = .ok (.aload_n 3, 1) := by decide +kernel
theorem d_Reader_added_72 : decode prog_8_method_16_code 72 = .ok (.aload_n 2, 1) := by decide +kernel
theorem d_Reader_added_73 : decode prog_8_method_16_code 73 = .ok (.getfield 172, 3) := by decide +kernel
theorem d_Reader_added_76 : decode prog_8_method_16_code 76 = .ok (.invokespecial 169, 3) := by decide +kernel
theorem d_Reader_added_79 : decode prog_8_method_16_code 79 = .ok (.goto 7, 3) := by decide +kernel
theorem d_Reader_added_82 : decode prog_8_method_16_code 82 = .ok (.aload_n 2, 1) := by decide +kernel
theorem d_Reader_added_83 : decode prog_8_method_16_code 83 = .ok (.getfield 172, 3) := by decide +kernel
theorem d_Reader_added_86 : decode prog_8_method_16_code 86 = .ok (.putfield 172, 3) := by decide +kernel
theorem d_Reader_added_89 : decode prog_8_method_16_code 89 = .ok (.aload_n 2, 1) := by decide +kernel
theorem d_Reader_added_90 : decode prog_8_method_16_code 90 = .ok (.getfield 176, 3) := by decide +kernel
theorem d_Reader_added_93 : decode prog_8_method_16_code 93 = .ok (.ifnonnull 11, 3) := by decide +kernel
theorem d_Reader_added_96 : decode prog_8_method_16_code 96 = .ok (.aload_n 2, 1) := by decide +kernel
theorem d_Reader_added_97 : decode prog_8_method_16_code 97 = .ok (.aload_n 3, 1) := by decide +kernel
theorem d_Reader_added_98 : decode prog_8_method_16_code 98 = .ok (.putfield 179, 3) := by decide +kernel
theorem d_Reader_added_101 : decode prog_8_method_16_code 101 = .ok (.goto 11, 3) := by decide +kernel
theorem d_Reader_added_104 : decode prog_8_method_16_code 104 = .ok (.aload_n 2, 1) := by decide +kernel
theorem d_Reader_added_105 : decode prog_8_method_16_code 105 = .ok (.getfield 176, 3) := by decide +kernel
theorem d_Reader_added_108 : decode prog_8_method_16_code 108 = .ok (.aload_n 3, 1) := by decide +kernel
theorem d_Reader_added_109 : decode prog_8_method_16_code 109 = .ok (.putfield 182, 3) := by decide +kernel
theorem d_Reader_added_112 : decode prog_8_method_16_code 112 = .ok (.aload_n 2, 1) := by decide +kernel
theorem d_Reader_added_113 : decode prog_8_method_16_code 113 = .ok (.aload_n 3, 1) := by decide +kernel
theorem d_Reader_added_114 : decode prog_8_method_16_code 114 = .ok (.putfield 176, 3) := by decide +kernel
theorem d_Reader_added_117 : decode prog_8_method_16_code 117 = .ok (.aload_n 3, 1) := by decide +kernel
theorem d_Reader_added_118 : decode prog_8_method_16_code 118 = .ok (.areturn, 1) := by decide +kernel
section YNO
variable {p : Program} {l : Launch} {e : Env} {R : Room} {s : State} {m : MethodId} {args : Array Value} {below : List Frame} {meth : Method} {c : Code} {H H0 : Heap} {locs : List Loc} {cells slots : Nat} {Q : State → Prop}
variable {cc : ByteArray} {pc : Nat} {ls : Array Slot} {rest : List Value} {dC : Nat → ClassId} {dI : Nat → Nat → Nat} {B : Nat → Prop}
variable {ad : Nat → Nat} {ar : Nat → ClassId} {I : Nat → Int32} {T : Int64} {A : Nat → Nat → Int32} {O : Nat → Option Nat} {pl : va_W}
theorem d_pF (hx : p.tables.exec = Jvm.exec) (hb : c.code = cc) (hts : ∀ w ∈ x_T, w.before args s = true) {own ref C : String} {F : u_T} {N index : Nat} (hin : ∀ w ∈ u_ws C F N, w ∈ x_T) (hown : s.vm.findClass own = some m.cls) (ty0 : Nat → FieldType) (hty : ∀ k, k < N → parseFieldDescriptor (F k).2.2.1 = some (ty0 k)) (hnm : ∀ a, a < N → ∀ b, b < N → a ≠ b → (F a).2.1 ≠ (F b).2.1) (hK : va_K (dC, dI) y_cl (y_tys ar) s) (hP : va_P (dC, dI) y_cl (y_W ad ar I T A O pl) H) (hD : va_D B (y_W ad ar I T A O pl)) (hS : va_S B H0 H locs) {a ci : Nat} {fs : List Value} (hf : y_L pl a = some (.inr (ci, fs))) (k : Nat) (hcl : y_cl[ci]? = some (C, F, N)) (hk : k < N) (hlink : (Cond.fieldLink own index ref (F k).2.1 (F k).2.2.1).before args s = true) (hsame : ∀ x, s.fieldFound? (F k).1 (F k).2.1 (F k).2.2.1 = some x → s.fieldFound? ref (F k).2.1 (F k).2.2.1 = some x) (hfin : (F k).2.2.2 = true) (hin2 : meth.name = "<init>") (hdecl : (F k).1 = own) {ty : FieldType} {v : Value} (hpd : parseFieldDescriptor (F k).2.2.1 = some ty) (hn : narrow ty v = v) (hfit : fits ty v = true) (hl : k < fs.length) (hdg : decode cc pc = .ok (.putfield index, 3))
    (kk : ∀ (pl1 : va_W) (H1 : Heap) (locs1 : List Loc), y_L pl1 = y_Lu (y_L pl) a (.inr (ci, fs.set k v)) → va_P (dC, dI) y_cl (y_W ad ar I T A O pl1) H1 → va_D B (y_W ad ar I T A O pl1) → va_S B H0 H1 locs1 → W p l e R s m args below meth c H1 locs1 cells slots Q (F0 m (pc + 3) ls rest)) : W p l e R s m args below meth c H locs cells slots Q (F0 m pc ls (v :: .ref a :: rest)) := by
  obtain ⟨q, hq⟩ := y_L_at hf
  exact va_putF (D := (dC, dI)) hx hb hts hin ty0 hty hnm hown hK hP hD hS (20 + q) (by rw [y_W_pl]; exact hq) hcl k hk hlink hsame hfin hin2 hdecl hpd hn hfit hl hdg (fun H1 locs1 hP1 hD1 hS1 => kk (pl.set q (a, .inr (ci, fs.set k v))) H1 locs1 (y_L_set (y_D_ap hD) hq) (by rw [y_W_setp] at hP1; exact hP1) (by rw [y_W_setp] at hD1; exact hD1) hS1)
theorem d_new (hx : p.tables.exec = Jvm.exec) (hb : c.code = cc) (hts : ∀ w ∈ x_T, w.before args s = true) {own C : String} {F : u_T} {N ci index : Nat} (hin : ∀ w ∈ u_ws C F N, w ∈ x_T) (ty0 : Nat → FieldType) (hty : ∀ k, k < N → parseFieldDescriptor (F k).2.2.1 = some (ty0 k)) (hown : s.vm.findClass own = some m.cls) (hclink : (Cond.classLink own index C).before args s = true) (hinst : (Cond.instantiable C N).before args s = true) (hini : (Cond.initialized C).before args s = true) (hK : va_K (dC, dI) y_cl (y_tys ar) s) (hP : va_P (dC, dI) y_cl (y_W ad ar I T A O pl) H) (hD : va_D B (y_W ad ar I T A O pl)) (hS : va_S B H0 H locs) (hA : ∀ q, H0.size ≤ q → B q) (hc : y_cl[ci]? = some (C, F, N)) {fs : List Value} (hfs : ∀ j, j < N → defaultValue (ty0 j) = vp_V fs j) (hcells : cells + 1 ≤ R.cells) (hslots : slots + N ≤ R.slots) (hdg : decode cc pc = .ok (.new index, 3))
    (kk : ∀ (a : Nat) (pl1 : va_W) (H1 : Heap), y_L pl a = none → y_L pl1 = y_Lu (y_L pl) a (.inr (ci, fs)) → va_P (dC, dI) y_cl (y_W ad ar I T A O pl1) H1 → va_D B (y_W ad ar I T A O pl1) → va_S B H0 H1 locs → W p l e R s m args below meth c H1 locs (cells + 1) (slots + N) Q (F0 m (pc + 3) ls (.ref a :: rest))) : W p l e R s m args below meth c H locs cells slots Q (F0 m pc ls rest) := by
  refine va_new hx hb hts hin ty0 hty hown hclink hinst hini hK hP hD hS hA hc hfs hcells hslots hdg (fun q H1 hP1 hD1 hS1 => ?_)
  rw [y_W_app] at hP1 hD1
  exact kk q _ H1 (y_L_fresh (y_D_ap hD1)) (y_L_app (y_D_ap hD1)) hP1 hD1 hS1
end YNO
theorem y_headA {l : List Nat} {p c : Nat} (h : l.getLast? = some c) : (l ++ [p]).head? = l.head? := by
  cases l with
  | nil => cases h
  | cons a l => rfl
set_option maxHeartbeats 4000000 in
set_option maxRecDepth 100000 in
theorem c_P_init (l : Launch) (dC : Nat → ClassId) (dI : Nat → Nat → Nat) (ar : Nat → ClassId) (N0 : Nat) (z : Nat → Nat) (ad : Nat → Nat) (I : Nat → Int32) (T : Int64) (A : Nat → Nat → Int32) (O : Nat → Option Nat) (pl : va_W) (pp jj : Nat) (par : Option Nat) (sz w0 : Nat) (hf : y_L pl pp = some (.inr (7, [.null, .null, .null, .null, .null, .null, .null, .null, .int 0, .int 0]))) : Met l ({ cls := "ChannelMachine$Process", name := "<init>", desc := "(LChannelMachine$Kind;LChannelMachine$Process;)V" } : Jvm.MethodName) ((Jvm.Cond.code ({ cls := "ChannelMachine$Process", name := "<init>", desc := "(LChannelMachine$Kind;LChannelMachine$Process;)V" } : Jvm.MethodName) prog_7_method_1_code (3 : Nat) (Option.none : Option Jvm.ClassFile.FieldType)) :: x_T) ({ frames := 1, cells := 0, slots := 0, locals := 14 }) (y_Pc (dC, dI) ar N0 z (y_W ad ar I T A O pl) sz w0 [.ref pp, .ref (z (3 + jj)), va_rf par]) (va_Qv (fun (u : (Nat → Int32) × Int64 × (Nat → Nat → Int32) × (Nat → Option Nat) × va_W × (Nat × Nat × Nat × Nat)) => u.1 = I ∧ u.2.1 = T ∧ u.2.2.1 = A ∧ u.2.2.2.1 = O ∧ y_L u.2.2.2.2.1 = y_Lu (y_L pl) pp (.inr (7, [.ref (z (3 + jj)), va_rf par, .null, .null, .null, .null, .null, .ref (z 21), .int (-1), .int (-1)]))) (fun u t => va_P (dC, dI) y_cl (y_W ad ar u.1 u.2.1 u.2.2.1 u.2.2.2.1 u.2.2.2.2.1) t.heap ∧ va_D (va_A (y_W ad ar I T A O pl) sz) (y_W ad ar u.1 u.2.1 u.2.2.1 u.2.2.2.1 u.2.2.2.2.1) ∧ True) (va_A (y_W ad ar I T A O pl) sz)) (0) (0) (va_A (y_W ad ar I T A O pl) sz) := by
  rcases par with _ | par
  · refine Met.ofW (cc := prog_7_method_1_code) (maxL := 3) (ret := none) (by decide) rfl ?_
    intro p e s m args below meth c s₁ B hml hv
    obtain ⟨rfl, hsz, hN0, hP, hU, hZ, hD0, hw0⟩ := hv
    have hK := hU.2.1
    have hx := B.exec
    have hb := B.bytes
    have hr := B.returns
    have hts : ∀ w ∈ x_T, w.before ([.ref pp, .ref (z (3 + jj)), va_rf none] : List Value).toArray s = true := fun w h => atoms_spec (ws := (Jvm.Cond.code ({ cls := "ChannelMachine$Process", name := "<init>", desc := "(LChannelMachine$Kind;LChannelMachine$Process;)V" } : Jvm.MethodName) prog_7_method_1_code (3 : Nat) (Option.none : Option Jvm.ClassFile.FieldType)) :: x_T) B.pre w (List.mem_cons_of_mem _ h)
    have hown : s.vm.findClass "ChannelMachine$Process" = some m.cls := findClass_of_methodNamed B.named
    have hlocks := B.notSynchronized
    subst hsz
    subst hw0
    have hD := hD0.self (sz := s.heap.size)
    have hAN := x_AN hD0 hN0
    generalize hAe : va_A (y_W ad ar I T A O pl) s.heap.size = Bq at hD hAN ⊢
    have hA : ∀ q : Nat, s.heap.size ≤ q → Bq q := fun q h => by rw [← hAe]; exact Or.inr h
    have hS : va_S Bq s.heap s.heap [] := va_S.rf
    have hl := lv_entry ([.ref pp, .ref (z (3 + jj)), va_rf none]) (n := 3) (Nat.le_of_ble_eq_true rfl)
    rw [lg_entry_eq]
    generalize (lg_sl ([.ref pp, .ref (z (3 + jj)), va_rf none]) ++ List.replicate (3 - (lg_sl ([.ref pp, .ref (z (3 + jj)), va_rf none])).length) Slot.unset).toArray = ls at hl ⊢
    have hl : lv_has ls 3 [(0, .ref pp), (1, .ref (z (3 + jj))), (2, .null)] := hl
    have hin : meth.name = "<init>" := (name_of_methodNamed B.named B.method).1
    refine lv_aload_n hx hb d_Process_init_0 rfl (lv_at hl 0 rfl) ?_
    refine W.objInit hx hb hown (hts _ k_386) (hts _ k_35) (hts _ k_36) rfl (by rw [hml]; exact hl.1) rfl d_Process_init_1 (Nat.le_of_ble_eq_true rfl) (Nat.le_of_ble_eq_true rfl) ?_
    refine W.eq (g2 := F0 m 4 ls []) rfl ?_
    refine lv_aload_n hx hb d_Process_init_4 rfl (lv_at hl 0 rfl) ?_
    refine lv_null hx hb d_Process_init_5 ?_
    refine d_p (C := "ChannelMachine$Process") (F := F_Process) (N := 10) hx hb hts i_Process hown t_Process t_Process_ok n_Process hK hP hD hS hf 2 rfl (by decide) (hts _ k_395) (fun _ h9 => h9) rfl (ty := (.object "ChannelMachine$Process")) (v := .null) (by decide +kernel) rfl rfl (Nat.le_of_ble_eq_true rfl) d_Process_init_6 (fun pl1 H locs hL hP hD hS => ?_)
    have hf : y_L pl1 pp = some (.inr (7, [.null, .null, .null, .null, .null, .null, .null, .null, .int 0, .int 0])) := by rw [hL]; exact y_Lu_s
    have hoth : ∀ b, b ≠ pp → y_L pl1 b = y_L pl b := fun b n0 => by rw [hL, y_Lu_n n0]
    clear hL
    refine lv_aload_n hx hb d_Process_init_9 rfl (lv_at hl 0 rfl) ?_
    refine lv_null hx hb d_Process_init_10 ?_
    refine d_p (C := "ChannelMachine$Process") (F := F_Process) (N := 10) hx hb hts i_Process hown t_Process t_Process_ok n_Process hK hP hD hS hf 3 rfl (by decide) (hts _ k_399) (fun _ h9 => h9) rfl (ty := (.object "ChannelMachine$Process")) (v := .null) (by decide +kernel) rfl rfl (Nat.le_of_ble_eq_true rfl) d_Process_init_11 (fun pl2 H locs hL hP hD hS => ?_)
    have hf : y_L pl2 pp = some (.inr (7, [.null, .null, .null, .null, .null, .null, .null, .null, .int 0, .int 0])) := by rw [hL]; exact y_Lu_s
    have hoth : ∀ b, b ≠ pp → y_L pl2 b = y_L pl b := fun b n0 => by rw [hL, y_Lu_n n0]; exact hoth b n0
    clear hL
    refine lv_aload_n hx hb d_Process_init_14 rfl (lv_at hl 0 rfl) ?_
    refine lv_null hx hb d_Process_init_15 ?_
    refine d_p (C := "ChannelMachine$Process") (F := F_Process) (N := 10) hx hb hts i_Process hown t_Process t_Process_ok n_Process hK hP hD hS hf 4 rfl (by decide) (hts _ k_402) (fun _ h9 => h9) rfl (ty := (.object "ChannelMachine$Process")) (v := .null) (by decide +kernel) rfl rfl (Nat.le_of_ble_eq_true rfl) d_Process_init_16 (fun pl3 H locs hL hP hD hS => ?_)
    have hf : y_L pl3 pp = some (.inr (7, [.null, .null, .null, .null, .null, .null, .null, .null, .int 0, .int 0])) := by rw [hL]; exact y_Lu_s
    have hoth : ∀ b, b ≠ pp → y_L pl3 b = y_L pl b := fun b n0 => by rw [hL, y_Lu_n n0]; exact hoth b n0
    clear hL
    refine lv_aload_n hx hb d_Process_init_19 rfl (lv_at hl 0 rfl) ?_
    refine lv_null hx hb d_Process_init_20 ?_
    refine d_p (C := "ChannelMachine$Process") (F := F_Process) (N := 10) hx hb hts i_Process hown t_Process t_Process_ok n_Process hK hP hD hS hf 5 rfl (by decide) (hts _ k_406) (fun _ h9 => h9) rfl (ty := (.object "ChannelMachine$Task")) (v := .null) (by decide +kernel) rfl rfl (Nat.le_of_ble_eq_true rfl) d_Process_init_21 (fun pl4 H locs hL hP hD hS => ?_)
    have hf : y_L pl4 pp = some (.inr (7, [.null, .null, .null, .null, .null, .null, .null, .null, .int 0, .int 0])) := by rw [hL]; exact y_Lu_s
    have hoth : ∀ b, b ≠ pp → y_L pl4 b = y_L pl b := fun b n0 => by rw [hL, y_Lu_n n0]; exact hoth b n0
    clear hL
    refine lv_aload_n hx hb d_Process_init_24 rfl (lv_at hl 0 rfl) ?_
    refine lv_null hx hb d_Process_init_25 ?_
    refine d_p (C := "ChannelMachine$Process") (F := F_Process) (N := 10) hx hb hts i_Process hown t_Process t_Process_ok n_Process hK hP hD hS hf 6 rfl (by decide) (hts _ k_410) (fun _ h9 => h9) rfl (ty := (.object "ChannelMachine$Guard")) (v := .null) (by decide +kernel) rfl rfl (Nat.le_of_ble_eq_true rfl) d_Process_init_26 (fun pl5 H locs hL hP hD hS => ?_)
    have hf : y_L pl5 pp = some (.inr (7, [.null, .null, .null, .null, .null, .null, .null, .null, .int 0, .int 0])) := by rw [hL]; exact y_Lu_s
    have hoth : ∀ b, b ≠ pp → y_L pl5 b = y_L pl b := fun b n0 => by rw [hL, y_Lu_n n0]; exact hoth b n0
    clear hL
    refine lv_aload_n hx hb d_Process_init_29 rfl (lv_at hl 0 rfl) ?_
    refine va_getsN hx hb (hZ.2.2.2.2.1.narrow hAN) hS hown (hU.1.2.1 _ kn_387) (fun _ h9 => h9) d_Process_init_30 ?_
    refine d_p (C := "ChannelMachine$Process") (F := F_Process) (N := 10) hx hb hts i_Process hown t_Process t_Process_ok n_Process hK hP hD hS hf 7 rfl (by decide) (hts _ k_413) (fun _ h9 => h9) rfl (ty := (.array .int)) (v := .ref (z 21)) (by decide +kernel) rfl rfl (Nat.le_of_ble_eq_true rfl) d_Process_init_33 (fun pl6 H locs hL hP hD hS => ?_)
    have hf : y_L pl6 pp = some (.inr (7, [.null, .null, .null, .null, .null, .null, .null, .ref (z 21), .int 0, .int 0])) := by rw [hL]; exact y_Lu_s
    have hoth : ∀ b, b ≠ pp → y_L pl6 b = y_L pl b := fun b n0 => by rw [hL, y_Lu_n n0]; exact hoth b n0
    clear hL
    refine lv_aload_n hx hb d_Process_init_36 rfl (lv_at hl 0 rfl) ?_
    refine lv_iconst (v := (-1)) hx hb d_Process_init_37 (by decide) ?_
    refine d_p (C := "ChannelMachine$Process") (F := F_Process) (N := 10) hx hb hts i_Process hown t_Process t_Process_ok n_Process hK hP hD hS hf 8 rfl (by decide) (hts _ k_416) (fun _ h9 => h9) rfl (ty := .int) (v := .int (-1)) (by decide +kernel) rfl rfl (Nat.le_of_ble_eq_true rfl) d_Process_init_38 (fun pl7 H locs hL hP hD hS => ?_)
    have hf : y_L pl7 pp = some (.inr (7, [.null, .null, .null, .null, .null, .null, .null, .ref (z 21), .int (-1), .int 0])) := by rw [hL]; exact y_Lu_s
    have hoth : ∀ b, b ≠ pp → y_L pl7 b = y_L pl b := fun b n0 => by rw [hL, y_Lu_n n0]; exact hoth b n0
    clear hL
    refine lv_aload_n hx hb d_Process_init_41 rfl (lv_at hl 0 rfl) ?_
    refine lv_iconst (v := (-1)) hx hb d_Process_init_42 (by decide) ?_
    refine d_p (C := "ChannelMachine$Process") (F := F_Process) (N := 10) hx hb hts i_Process hown t_Process t_Process_ok n_Process hK hP hD hS hf 9 rfl (by decide) (hts _ k_419) (fun _ h9 => h9) rfl (ty := .int) (v := .int (-1)) (by decide +kernel) rfl rfl (Nat.le_of_ble_eq_true rfl) d_Process_init_43 (fun pl8 H locs hL hP hD hS => ?_)
    have hf : y_L pl8 pp = some (.inr (7, [.null, .null, .null, .null, .null, .null, .null, .ref (z 21), .int (-1), .int (-1)])) := by rw [hL]; exact y_Lu_s
    have hoth : ∀ b, b ≠ pp → y_L pl8 b = y_L pl b := fun b n0 => by rw [hL, y_Lu_n n0]; exact hoth b n0
    clear hL
    refine lv_aload_n hx hb d_Process_init_46 rfl (lv_at hl 0 rfl) ?_
    refine lv_aload_n hx hb d_Process_init_47 rfl (lv_at hl 1 rfl) ?_
    refine d_pF (C := "ChannelMachine$Process") (F := F_Process) (N := 10) hx hb hts i_Process hown t_Process t_Process_ok n_Process hK hP hD hS hf 0 rfl (by decide) (hts _ k_389) (fun _ h9 => h9) rfl hin rfl (ty := (.object "ChannelMachine$Kind")) (v := .ref (z (3 + jj))) (by decide +kernel) rfl rfl (Nat.le_of_ble_eq_true rfl) d_Process_init_48 (fun pl9 H locs hL hP hD hS => ?_)
    have hf : y_L pl9 pp = some (.inr (7, [.ref (z (3 + jj)), .null, .null, .null, .null, .null, .null, .ref (z 21), .int (-1), .int (-1)])) := by rw [hL]; exact y_Lu_s
    have hoth : ∀ b, b ≠ pp → y_L pl9 b = y_L pl b := fun b n0 => by rw [hL, y_Lu_n n0]; exact hoth b n0
    clear hL
    refine lv_aload_n hx hb d_Process_init_51 rfl (lv_at hl 0 rfl) ?_
    refine lv_aload_nN hx hb d_Process_init_52 rfl (lv_at hl 2 rfl) ?_
    refine d_pF (C := "ChannelMachine$Process") (F := F_Process) (N := 10) hx hb hts i_Process hown t_Process t_Process_ok n_Process hK hP hD hS hf 1 rfl (by decide) (hts _ k_393) (fun _ h9 => h9) rfl hin rfl (ty := (.object "ChannelMachine$Process")) (v := .null) (by decide +kernel) rfl rfl (Nat.le_of_ble_eq_true rfl) d_Process_init_53 (fun pl10 H locs hL hP hD hS => ?_)
    have hf : y_L pl10 pp = some (.inr (7, [.ref (z (3 + jj)), .null, .null, .null, .null, .null, .null, .ref (z 21), .int (-1), .int (-1)])) := by rw [hL]; exact y_Lu_s
    have hoth : ∀ b, b ≠ pp → y_L pl10 b = y_L pl b := fun b n0 => by rw [hL, y_Lu_n n0]; exact hoth b n0
    clear hL
    refine y_know (fun hy91 hy92 hy93 hy94 => ?_)
    have hac9 : True := trivial
    refine W.widen (k := 0) (n := 0) (by omega) (by omega) ?_
    exact W.vret hx hb hr (fun t ht hW => ⟨⟨(I, T, A, O, pl10, (0, 0, 0, 0)), rfl, ⟨rfl, rfl, rfl, rfl, y_Lu_eq hf (fun b hb => hoth b hb)⟩, (by dsimp only; rw [ht]; exact ⟨hP, hD, hac9⟩)⟩, hS.F ht⟩) hS.2.2 d_Process_init_56
  · refine Met.ofW (cc := prog_7_method_1_code) (maxL := 3) (ret := none) (by decide) rfl ?_
    intro p e s m args below meth c s₁ B hml hv
    obtain ⟨rfl, hsz, hN0, hP, hU, hZ, hD0, hw0⟩ := hv
    have hK := hU.2.1
    have hx := B.exec
    have hb := B.bytes
    have hr := B.returns
    have hts : ∀ w ∈ x_T, w.before ([.ref pp, .ref (z (3 + jj)), va_rf (some par)] : List Value).toArray s = true := fun w h => atoms_spec (ws := (Jvm.Cond.code ({ cls := "ChannelMachine$Process", name := "<init>", desc := "(LChannelMachine$Kind;LChannelMachine$Process;)V" } : Jvm.MethodName) prog_7_method_1_code (3 : Nat) (Option.none : Option Jvm.ClassFile.FieldType)) :: x_T) B.pre w (List.mem_cons_of_mem _ h)
    have hown : s.vm.findClass "ChannelMachine$Process" = some m.cls := findClass_of_methodNamed B.named
    have hlocks := B.notSynchronized
    subst hsz
    subst hw0
    have hD := hD0.self (sz := s.heap.size)
    have hAN := x_AN hD0 hN0
    generalize hAe : va_A (y_W ad ar I T A O pl) s.heap.size = Bq at hD hAN ⊢
    have hA : ∀ q : Nat, s.heap.size ≤ q → Bq q := fun q h => by rw [← hAe]; exact Or.inr h
    have hS : va_S Bq s.heap s.heap [] := va_S.rf
    have hl := lv_entry ([.ref pp, .ref (z (3 + jj)), va_rf (some par)]) (n := 3) (Nat.le_of_ble_eq_true rfl)
    rw [lg_entry_eq]
    generalize (lg_sl ([.ref pp, .ref (z (3 + jj)), va_rf (some par)]) ++ List.replicate (3 - (lg_sl ([.ref pp, .ref (z (3 + jj)), va_rf (some par)])).length) Slot.unset).toArray = ls at hl ⊢
    have hl : lv_has ls 3 [(0, .ref pp), (1, .ref (z (3 + jj))), (2, .ref par)] := hl
    have hin : meth.name = "<init>" := (name_of_methodNamed B.named B.method).1
    refine lv_aload_n hx hb d_Process_init_0 rfl (lv_at hl 0 rfl) ?_
    refine W.objInit hx hb hown (hts _ k_386) (hts _ k_35) (hts _ k_36) rfl (by rw [hml]; exact hl.1) rfl d_Process_init_1 (Nat.le_of_ble_eq_true rfl) (Nat.le_of_ble_eq_true rfl) ?_
    refine W.eq (g2 := F0 m 4 ls []) rfl ?_
    refine lv_aload_n hx hb d_Process_init_4 rfl (lv_at hl 0 rfl) ?_
    refine lv_null hx hb d_Process_init_5 ?_
    refine d_p (C := "ChannelMachine$Process") (F := F_Process) (N := 10) hx hb hts i_Process hown t_Process t_Process_ok n_Process hK hP hD hS hf 2 rfl (by decide) (hts _ k_395) (fun _ h9 => h9) rfl (ty := (.object "ChannelMachine$Process")) (v := .null) (by decide +kernel) rfl rfl (Nat.le_of_ble_eq_true rfl) d_Process_init_6 (fun pl11 H locs hL hP hD hS => ?_)
    have hf : y_L pl11 pp = some (.inr (7, [.null, .null, .null, .null, .null, .null, .null, .null, .int 0, .int 0])) := by rw [hL]; exact y_Lu_s
    have hoth : ∀ b, b ≠ pp → y_L pl11 b = y_L pl b := fun b n0 => by rw [hL, y_Lu_n n0]
    clear hL
    refine lv_aload_n hx hb d_Process_init_9 rfl (lv_at hl 0 rfl) ?_
    refine lv_null hx hb d_Process_init_10 ?_
    refine d_p (C := "ChannelMachine$Process") (F := F_Process) (N := 10) hx hb hts i_Process hown t_Process t_Process_ok n_Process hK hP hD hS hf 3 rfl (by decide) (hts _ k_399) (fun _ h9 => h9) rfl (ty := (.object "ChannelMachine$Process")) (v := .null) (by decide +kernel) rfl rfl (Nat.le_of_ble_eq_true rfl) d_Process_init_11 (fun pl12 H locs hL hP hD hS => ?_)
    have hf : y_L pl12 pp = some (.inr (7, [.null, .null, .null, .null, .null, .null, .null, .null, .int 0, .int 0])) := by rw [hL]; exact y_Lu_s
    have hoth : ∀ b, b ≠ pp → y_L pl12 b = y_L pl b := fun b n0 => by rw [hL, y_Lu_n n0]; exact hoth b n0
    clear hL
    refine lv_aload_n hx hb d_Process_init_14 rfl (lv_at hl 0 rfl) ?_
    refine lv_null hx hb d_Process_init_15 ?_
    refine d_p (C := "ChannelMachine$Process") (F := F_Process) (N := 10) hx hb hts i_Process hown t_Process t_Process_ok n_Process hK hP hD hS hf 4 rfl (by decide) (hts _ k_402) (fun _ h9 => h9) rfl (ty := (.object "ChannelMachine$Process")) (v := .null) (by decide +kernel) rfl rfl (Nat.le_of_ble_eq_true rfl) d_Process_init_16 (fun pl13 H locs hL hP hD hS => ?_)
    have hf : y_L pl13 pp = some (.inr (7, [.null, .null, .null, .null, .null, .null, .null, .null, .int 0, .int 0])) := by rw [hL]; exact y_Lu_s
    have hoth : ∀ b, b ≠ pp → y_L pl13 b = y_L pl b := fun b n0 => by rw [hL, y_Lu_n n0]; exact hoth b n0
    clear hL
    refine lv_aload_n hx hb d_Process_init_19 rfl (lv_at hl 0 rfl) ?_
    refine lv_null hx hb d_Process_init_20 ?_
    refine d_p (C := "ChannelMachine$Process") (F := F_Process) (N := 10) hx hb hts i_Process hown t_Process t_Process_ok n_Process hK hP hD hS hf 5 rfl (by decide) (hts _ k_406) (fun _ h9 => h9) rfl (ty := (.object "ChannelMachine$Task")) (v := .null) (by decide +kernel) rfl rfl (Nat.le_of_ble_eq_true rfl) d_Process_init_21 (fun pl14 H locs hL hP hD hS => ?_)
    have hf : y_L pl14 pp = some (.inr (7, [.null, .null, .null, .null, .null, .null, .null, .null, .int 0, .int 0])) := by rw [hL]; exact y_Lu_s
    have hoth : ∀ b, b ≠ pp → y_L pl14 b = y_L pl b := fun b n0 => by rw [hL, y_Lu_n n0]; exact hoth b n0
    clear hL
    refine lv_aload_n hx hb d_Process_init_24 rfl (lv_at hl 0 rfl) ?_
    refine lv_null hx hb d_Process_init_25 ?_
    refine d_p (C := "ChannelMachine$Process") (F := F_Process) (N := 10) hx hb hts i_Process hown t_Process t_Process_ok n_Process hK hP hD hS hf 6 rfl (by decide) (hts _ k_410) (fun _ h9 => h9) rfl (ty := (.object "ChannelMachine$Guard")) (v := .null) (by decide +kernel) rfl rfl (Nat.le_of_ble_eq_true rfl) d_Process_init_26 (fun pl15 H locs hL hP hD hS => ?_)
    have hf : y_L pl15 pp = some (.inr (7, [.null, .null, .null, .null, .null, .null, .null, .null, .int 0, .int 0])) := by rw [hL]; exact y_Lu_s
    have hoth : ∀ b, b ≠ pp → y_L pl15 b = y_L pl b := fun b n0 => by rw [hL, y_Lu_n n0]; exact hoth b n0
    clear hL
    refine lv_aload_n hx hb d_Process_init_29 rfl (lv_at hl 0 rfl) ?_
    refine va_getsN hx hb (hZ.2.2.2.2.1.narrow hAN) hS hown (hU.1.2.1 _ kn_387) (fun _ h9 => h9) d_Process_init_30 ?_
    refine d_p (C := "ChannelMachine$Process") (F := F_Process) (N := 10) hx hb hts i_Process hown t_Process t_Process_ok n_Process hK hP hD hS hf 7 rfl (by decide) (hts _ k_413) (fun _ h9 => h9) rfl (ty := (.array .int)) (v := .ref (z 21)) (by decide +kernel) rfl rfl (Nat.le_of_ble_eq_true rfl) d_Process_init_33 (fun pl16 H locs hL hP hD hS => ?_)
    have hf : y_L pl16 pp = some (.inr (7, [.null, .null, .null, .null, .null, .null, .null, .ref (z 21), .int 0, .int 0])) := by rw [hL]; exact y_Lu_s
    have hoth : ∀ b, b ≠ pp → y_L pl16 b = y_L pl b := fun b n0 => by rw [hL, y_Lu_n n0]; exact hoth b n0
    clear hL
    refine lv_aload_n hx hb d_Process_init_36 rfl (lv_at hl 0 rfl) ?_
    refine lv_iconst (v := (-1)) hx hb d_Process_init_37 (by decide) ?_
    refine d_p (C := "ChannelMachine$Process") (F := F_Process) (N := 10) hx hb hts i_Process hown t_Process t_Process_ok n_Process hK hP hD hS hf 8 rfl (by decide) (hts _ k_416) (fun _ h9 => h9) rfl (ty := .int) (v := .int (-1)) (by decide +kernel) rfl rfl (Nat.le_of_ble_eq_true rfl) d_Process_init_38 (fun pl17 H locs hL hP hD hS => ?_)
    have hf : y_L pl17 pp = some (.inr (7, [.null, .null, .null, .null, .null, .null, .null, .ref (z 21), .int (-1), .int 0])) := by rw [hL]; exact y_Lu_s
    have hoth : ∀ b, b ≠ pp → y_L pl17 b = y_L pl b := fun b n0 => by rw [hL, y_Lu_n n0]; exact hoth b n0
    clear hL
    refine lv_aload_n hx hb d_Process_init_41 rfl (lv_at hl 0 rfl) ?_
    refine lv_iconst (v := (-1)) hx hb d_Process_init_42 (by decide) ?_
    refine d_p (C := "ChannelMachine$Process") (F := F_Process) (N := 10) hx hb hts i_Process hown t_Process t_Process_ok n_Process hK hP hD hS hf 9 rfl (by decide) (hts _ k_419) (fun _ h9 => h9) rfl (ty := .int) (v := .int (-1)) (by decide +kernel) rfl rfl (Nat.le_of_ble_eq_true rfl) d_Process_init_43 (fun pl18 H locs hL hP hD hS => ?_)
    have hf : y_L pl18 pp = some (.inr (7, [.null, .null, .null, .null, .null, .null, .null, .ref (z 21), .int (-1), .int (-1)])) := by rw [hL]; exact y_Lu_s
    have hoth : ∀ b, b ≠ pp → y_L pl18 b = y_L pl b := fun b n0 => by rw [hL, y_Lu_n n0]; exact hoth b n0
    clear hL
    refine lv_aload_n hx hb d_Process_init_46 rfl (lv_at hl 0 rfl) ?_
    refine lv_aload_n hx hb d_Process_init_47 rfl (lv_at hl 1 rfl) ?_
    refine d_pF (C := "ChannelMachine$Process") (F := F_Process) (N := 10) hx hb hts i_Process hown t_Process t_Process_ok n_Process hK hP hD hS hf 0 rfl (by decide) (hts _ k_389) (fun _ h9 => h9) rfl hin rfl (ty := (.object "ChannelMachine$Kind")) (v := .ref (z (3 + jj))) (by decide +kernel) rfl rfl (Nat.le_of_ble_eq_true rfl) d_Process_init_48 (fun pl19 H locs hL hP hD hS => ?_)
    have hf : y_L pl19 pp = some (.inr (7, [.ref (z (3 + jj)), .null, .null, .null, .null, .null, .null, .ref (z 21), .int (-1), .int (-1)])) := by rw [hL]; exact y_Lu_s
    have hoth : ∀ b, b ≠ pp → y_L pl19 b = y_L pl b := fun b n0 => by rw [hL, y_Lu_n n0]; exact hoth b n0
    clear hL
    refine lv_aload_n hx hb d_Process_init_51 rfl (lv_at hl 0 rfl) ?_
    refine lv_aload_n hx hb d_Process_init_52 rfl (lv_at hl 2 rfl) ?_
    refine d_pF (C := "ChannelMachine$Process") (F := F_Process) (N := 10) hx hb hts i_Process hown t_Process t_Process_ok n_Process hK hP hD hS hf 1 rfl (by decide) (hts _ k_393) (fun _ h9 => h9) rfl hin rfl (ty := (.object "ChannelMachine$Process")) (v := .ref par) (by decide +kernel) rfl rfl (Nat.le_of_ble_eq_true rfl) d_Process_init_53 (fun pl20 H locs hL hP hD hS => ?_)
    have hf : y_L pl20 pp = some (.inr (7, [.ref (z (3 + jj)), .ref par, .null, .null, .null, .null, .null, .ref (z 21), .int (-1), .int (-1)])) := by rw [hL]; exact y_Lu_s
    have hoth : ∀ b, b ≠ pp → y_L pl20 b = y_L pl b := fun b n0 => by rw [hL, y_Lu_n n0]; exact hoth b n0
    clear hL
    refine y_know (fun hy91 hy92 hy93 hy94 => ?_)
    have hac9 : True := trivial
    refine W.widen (k := 0) (n := 0) (by omega) (by omega) ?_
    exact W.vret hx hb hr (fun t ht hW => ⟨⟨(I, T, A, O, pl20, (0, 0, 0, 0)), rfl, ⟨rfl, rfl, rfl, rfl, y_Lu_eq hf (fun b hb => hoth b hb)⟩, (by dsimp only; rw [ht]; exact ⟨hP, hD, hac9⟩)⟩, hS.F ht⟩) hS.2.2 d_Process_init_56
set_option maxHeartbeats 4000000 in
set_option maxRecDepth 100000 in
theorem c_T_init (l : Launch) (dC : Nat → ClassId) (dI : Nat → Nat → Nat) (ar : Nat → ClassId) (N0 : Nat) (z : Nat → Nat) (ad : Nat → Nat) (I : Nat → Int32) (T : Int64) (A : Nat → Nat → Int32) (O : Nat → Option Nat) (pl : va_W) (pp ww : Nat) (mk : Option Nat) (sz w0 : Nat) (hf : y_L pl pp = some (.inr (8, [.null, .null, .null, .int 0, .int 0, .int 0, .long 0]))) : Met l ({ cls := "ChannelMachine$Task", name := "<init>", desc := "(LChannelMachine$Process;LChannelMachine$Task;)V" } : Jvm.MethodName) ((Jvm.Cond.code ({ cls := "ChannelMachine$Task", name := "<init>", desc := "(LChannelMachine$Process;LChannelMachine$Task;)V" } : Jvm.MethodName) prog_10_method_1_code (3 : Nat) (Option.none : Option Jvm.ClassFile.FieldType)) :: x_T) ({ frames := 1, cells := 0, slots := 0, locals := 14 }) (y_Pc (dC, dI) ar N0 z (y_W ad ar I T A O pl) sz w0 [.ref pp, .ref ww, va_rf mk]) (va_Qv (fun (u : (Nat → Int32) × Int64 × (Nat → Nat → Int32) × (Nat → Option Nat) × va_W × (Nat × Nat × Nat × Nat)) => u.1 = I ∧ u.2.1 = T ∧ u.2.2.1 = A ∧ u.2.2.2.1 = O ∧ y_L u.2.2.2.2.1 = y_Lu (y_L pl) pp (.inr (8, y_Tf ww mk ww 0 0 0 0))) (fun u t => va_P (dC, dI) y_cl (y_W ad ar u.1 u.2.1 u.2.2.1 u.2.2.2.1 u.2.2.2.2.1) t.heap ∧ va_D (va_A (y_W ad ar I T A O pl) sz) (y_W ad ar u.1 u.2.1 u.2.2.1 u.2.2.2.1 u.2.2.2.2.1) ∧ True) (va_A (y_W ad ar I T A O pl) sz)) (0) (0) (va_A (y_W ad ar I T A O pl) sz) := by
  rcases mk with _ | mk
  · refine Met.ofW (cc := prog_10_method_1_code) (maxL := 3) (ret := none) (by decide) rfl ?_
    intro p e s m args below meth c s₁ B hml hv
    obtain ⟨rfl, hsz, hN0, hP, hU, hZ, hD0, hw0⟩ := hv
    have hK := hU.2.1
    have hx := B.exec
    have hb := B.bytes
    have hr := B.returns
    have hts : ∀ w ∈ x_T, w.before ([.ref pp, .ref ww, va_rf none] : List Value).toArray s = true := fun w h => atoms_spec (ws := (Jvm.Cond.code ({ cls := "ChannelMachine$Task", name := "<init>", desc := "(LChannelMachine$Process;LChannelMachine$Task;)V" } : Jvm.MethodName) prog_10_method_1_code (3 : Nat) (Option.none : Option Jvm.ClassFile.FieldType)) :: x_T) B.pre w (List.mem_cons_of_mem _ h)
    have hown : s.vm.findClass "ChannelMachine$Task" = some m.cls := findClass_of_methodNamed B.named
    have hlocks := B.notSynchronized
    subst hsz
    subst hw0
    have hD := hD0.self (sz := s.heap.size)
    have hAN := x_AN hD0 hN0
    generalize hAe : va_A (y_W ad ar I T A O pl) s.heap.size = Bq at hD hAN ⊢
    have hA : ∀ q : Nat, s.heap.size ≤ q → Bq q := fun q h => by rw [← hAe]; exact Or.inr h
    have hS : va_S Bq s.heap s.heap [] := va_S.rf
    have hl := lv_entry ([.ref pp, .ref ww, va_rf none]) (n := 3) (Nat.le_of_ble_eq_true rfl)
    rw [lg_entry_eq]
    generalize (lg_sl ([.ref pp, .ref ww, va_rf none]) ++ List.replicate (3 - (lg_sl ([.ref pp, .ref ww, va_rf none])).length) Slot.unset).toArray = ls at hl ⊢
    have hl : lv_has ls 3 [(0, .ref pp), (1, .ref ww), (2, .null)] := hl
    have hin : meth.name = "<init>" := (name_of_methodNamed B.named B.method).1
    refine lv_aload_n hx hb d_Task_init_0 rfl (lv_at hl 0 rfl) ?_
    refine W.objInit hx hb hown (hts _ k_448) (hts _ k_35) (hts _ k_36) rfl (by rw [hml]; exact hl.1) rfl d_Task_init_1 (Nat.le_of_ble_eq_true rfl) (Nat.le_of_ble_eq_true rfl) ?_
    refine W.eq (g2 := F0 m 4 ls []) rfl ?_
    refine lv_aload_n hx hb d_Task_init_4 rfl (lv_at hl 0 rfl) ?_
    refine lv_iconst (v := 0) hx hb d_Task_init_5 (by decide) ?_
    refine d_p (C := "ChannelMachine$Task") (F := F_Task) (N := 7) hx hb hts i_Task hown t_Task t_Task_ok n_Task hK hP hD hS hf 3 rfl (by decide) (hts _ k_455) (fun _ h9 => h9) rfl (ty := .boolean) (v := .int 0) (by decide +kernel) rfl rfl (Nat.le_of_ble_eq_true rfl) d_Task_init_6 (fun pl1 H locs hL hP hD hS => ?_)
    have hf : y_L pl1 pp = some (.inr (8, [.null, .null, .null, .int 0, .int 0, .int 0, .long 0])) := by rw [hL]; exact y_Lu_s
    have hoth : ∀ b, b ≠ pp → y_L pl1 b = y_L pl b := fun b n0 => by rw [hL, y_Lu_n n0]
    clear hL
    refine lv_aload_n hx hb d_Task_init_9 rfl (lv_at hl 0 rfl) ?_
    refine lv_iconst (v := 0) hx hb d_Task_init_10 (by decide) ?_
    refine d_p (C := "ChannelMachine$Task") (F := F_Task) (N := 7) hx hb hts i_Task hown t_Task t_Task_ok n_Task hK hP hD hS hf 4 rfl (by decide) (hts _ k_456) (fun _ h9 => h9) rfl (ty := .int) (v := .int 0) (by decide +kernel) rfl rfl (Nat.le_of_ble_eq_true rfl) d_Task_init_11 (fun pl2 H locs hL hP hD hS => ?_)
    have hf : y_L pl2 pp = some (.inr (8, [.null, .null, .null, .int 0, .int 0, .int 0, .long 0])) := by rw [hL]; exact y_Lu_s
    have hoth : ∀ b, b ≠ pp → y_L pl2 b = y_L pl b := fun b n0 => by rw [hL, y_Lu_n n0]; exact hoth b n0
    clear hL
    refine lv_aload_n hx hb d_Task_init_14 rfl (lv_at hl 0 rfl) ?_
    refine lv_iconst (v := 0) hx hb d_Task_init_15 (by decide) ?_
    refine d_p (C := "ChannelMachine$Task") (F := F_Task) (N := 7) hx hb hts i_Task hown t_Task t_Task_ok n_Task hK hP hD hS hf 5 rfl (by decide) (hts _ k_458) (fun _ h9 => h9) rfl (ty := .int) (v := .int 0) (by decide +kernel) rfl rfl (Nat.le_of_ble_eq_true rfl) d_Task_init_16 (fun pl3 H locs hL hP hD hS => ?_)
    have hf : y_L pl3 pp = some (.inr (8, [.null, .null, .null, .int 0, .int 0, .int 0, .long 0])) := by rw [hL]; exact y_Lu_s
    have hoth : ∀ b, b ≠ pp → y_L pl3 b = y_L pl b := fun b n0 => by rw [hL, y_Lu_n n0]; exact hoth b n0
    clear hL
    refine lv_aload_n hx hb d_Task_init_19 rfl (lv_at hl 0 rfl) ?_
    refine lv_lconst (v := 0) hx hb d_Task_init_20 (by decide) ?_
    refine d_p (C := "ChannelMachine$Task") (F := F_Task) (N := 7) hx hb hts i_Task hown t_Task t_Task_ok n_Task hK hP hD hS hf 6 rfl (by decide) (hts _ k_460) (fun _ h9 => h9) rfl (ty := .long) (v := .long 0) (by decide +kernel) rfl rfl (Nat.le_of_ble_eq_true rfl) d_Task_init_21 (fun pl4 H locs hL hP hD hS => ?_)
    have hf : y_L pl4 pp = some (.inr (8, [.null, .null, .null, .int 0, .int 0, .int 0, .long 0])) := by rw [hL]; exact y_Lu_s
    have hoth : ∀ b, b ≠ pp → y_L pl4 b = y_L pl b := fun b n0 => by rw [hL, y_Lu_n n0]; exact hoth b n0
    clear hL
    refine lv_aload_n hx hb d_Task_init_24 rfl (lv_at hl 0 rfl) ?_
    refine lv_aload_n hx hb d_Task_init_25 rfl (lv_at hl 1 rfl) ?_
    refine d_pF (C := "ChannelMachine$Task") (F := F_Task) (N := 7) hx hb hts i_Task hown t_Task t_Task_ok n_Task hK hP hD hS hf 0 rfl (by decide) (hts _ k_449) (fun _ h9 => h9) rfl hin rfl (ty := (.object "ChannelMachine$Process")) (v := .ref ww) (by decide +kernel) rfl rfl (Nat.le_of_ble_eq_true rfl) d_Task_init_26 (fun pl5 H locs hL hP hD hS => ?_)
    have hf : y_L pl5 pp = some (.inr (8, [.ref ww, .null, .null, .int 0, .int 0, .int 0, .long 0])) := by rw [hL]; exact y_Lu_s
    have hoth : ∀ b, b ≠ pp → y_L pl5 b = y_L pl b := fun b n0 => by rw [hL, y_Lu_n n0]; exact hoth b n0
    clear hL
    refine lv_aload_n hx hb d_Task_init_29 rfl (lv_at hl 0 rfl) ?_
    refine lv_aload_nN hx hb d_Task_init_30 rfl (lv_at hl 2 rfl) ?_
    refine d_pF (C := "ChannelMachine$Task") (F := F_Task) (N := 7) hx hb hts i_Task hown t_Task t_Task_ok n_Task hK hP hD hS hf 1 rfl (by decide) (hts _ k_451) (fun _ h9 => h9) rfl hin rfl (ty := (.object "ChannelMachine$Task")) (v := .null) (by decide +kernel) rfl rfl (Nat.le_of_ble_eq_true rfl) d_Task_init_31 (fun pl6 H locs hL hP hD hS => ?_)
    have hf : y_L pl6 pp = some (.inr (8, [.ref ww, .null, .null, .int 0, .int 0, .int 0, .long 0])) := by rw [hL]; exact y_Lu_s
    have hoth : ∀ b, b ≠ pp → y_L pl6 b = y_L pl b := fun b n0 => by rw [hL, y_Lu_n n0]; exact hoth b n0
    clear hL
    refine lv_aload_n hx hb d_Task_init_34 rfl (lv_at hl 0 rfl) ?_
    refine lv_aload_n hx hb d_Task_init_35 rfl (lv_at hl 1 rfl) ?_
    refine d_p (C := "ChannelMachine$Task") (F := F_Task) (N := 7) hx hb hts i_Task hown t_Task t_Task_ok n_Task hK hP hD hS hf 2 rfl (by decide) (hts _ k_453) (fun _ h9 => h9) rfl (ty := (.object "ChannelMachine$Process")) (v := .ref ww) (by decide +kernel) rfl rfl (Nat.le_of_ble_eq_true rfl) d_Task_init_36 (fun pl7 H locs hL hP hD hS => ?_)
    have hf : y_L pl7 pp = some (.inr (8, [.ref ww, .null, .ref ww, .int 0, .int 0, .int 0, .long 0])) := by rw [hL]; exact y_Lu_s
    have hoth : ∀ b, b ≠ pp → y_L pl7 b = y_L pl b := fun b n0 => by rw [hL, y_Lu_n n0]; exact hoth b n0
    clear hL
    refine y_know (fun hy91 hy92 hy93 hy94 => ?_)
    have hac9 : True := trivial
    refine W.widen (k := 0) (n := 0) (by omega) (by omega) ?_
    exact W.vret hx hb hr (fun t ht hW => ⟨⟨(I, T, A, O, pl7, (0, 0, 0, 0)), rfl, ⟨rfl, rfl, rfl, rfl, y_Lu_eq hf (fun b hb => hoth b hb)⟩, (by dsimp only; rw [ht]; exact ⟨hP, hD, hac9⟩)⟩, hS.F ht⟩) hS.2.2 d_Task_init_39
  · refine Met.ofW (cc := prog_10_method_1_code) (maxL := 3) (ret := none) (by decide) rfl ?_
    intro p e s m args below meth c s₁ B hml hv
    obtain ⟨rfl, hsz, hN0, hP, hU, hZ, hD0, hw0⟩ := hv
    have hK := hU.2.1
    have hx := B.exec
    have hb := B.bytes
    have hr := B.returns
    have hts : ∀ w ∈ x_T, w.before ([.ref pp, .ref ww, va_rf (some mk)] : List Value).toArray s = true := fun w h => atoms_spec (ws := (Jvm.Cond.code ({ cls := "ChannelMachine$Task", name := "<init>", desc := "(LChannelMachine$Process;LChannelMachine$Task;)V" } : Jvm.MethodName) prog_10_method_1_code (3 : Nat) (Option.none : Option Jvm.ClassFile.FieldType)) :: x_T) B.pre w (List.mem_cons_of_mem _ h)
    have hown : s.vm.findClass "ChannelMachine$Task" = some m.cls := findClass_of_methodNamed B.named
    have hlocks := B.notSynchronized
    subst hsz
    subst hw0
    have hD := hD0.self (sz := s.heap.size)
    have hAN := x_AN hD0 hN0
    generalize hAe : va_A (y_W ad ar I T A O pl) s.heap.size = Bq at hD hAN ⊢
    have hA : ∀ q : Nat, s.heap.size ≤ q → Bq q := fun q h => by rw [← hAe]; exact Or.inr h
    have hS : va_S Bq s.heap s.heap [] := va_S.rf
    have hl := lv_entry ([.ref pp, .ref ww, va_rf (some mk)]) (n := 3) (Nat.le_of_ble_eq_true rfl)
    rw [lg_entry_eq]
    generalize (lg_sl ([.ref pp, .ref ww, va_rf (some mk)]) ++ List.replicate (3 - (lg_sl ([.ref pp, .ref ww, va_rf (some mk)])).length) Slot.unset).toArray = ls at hl ⊢
    have hl : lv_has ls 3 [(0, .ref pp), (1, .ref ww), (2, .ref mk)] := hl
    have hin : meth.name = "<init>" := (name_of_methodNamed B.named B.method).1
    refine lv_aload_n hx hb d_Task_init_0 rfl (lv_at hl 0 rfl) ?_
    refine W.objInit hx hb hown (hts _ k_448) (hts _ k_35) (hts _ k_36) rfl (by rw [hml]; exact hl.1) rfl d_Task_init_1 (Nat.le_of_ble_eq_true rfl) (Nat.le_of_ble_eq_true rfl) ?_
    refine W.eq (g2 := F0 m 4 ls []) rfl ?_
    refine lv_aload_n hx hb d_Task_init_4 rfl (lv_at hl 0 rfl) ?_
    refine lv_iconst (v := 0) hx hb d_Task_init_5 (by decide) ?_
    refine d_p (C := "ChannelMachine$Task") (F := F_Task) (N := 7) hx hb hts i_Task hown t_Task t_Task_ok n_Task hK hP hD hS hf 3 rfl (by decide) (hts _ k_455) (fun _ h9 => h9) rfl (ty := .boolean) (v := .int 0) (by decide +kernel) rfl rfl (Nat.le_of_ble_eq_true rfl) d_Task_init_6 (fun pl8 H locs hL hP hD hS => ?_)
    have hf : y_L pl8 pp = some (.inr (8, [.null, .null, .null, .int 0, .int 0, .int 0, .long 0])) := by rw [hL]; exact y_Lu_s
    have hoth : ∀ b, b ≠ pp → y_L pl8 b = y_L pl b := fun b n0 => by rw [hL, y_Lu_n n0]
    clear hL
    refine lv_aload_n hx hb d_Task_init_9 rfl (lv_at hl 0 rfl) ?_
    refine lv_iconst (v := 0) hx hb d_Task_init_10 (by decide) ?_
    refine d_p (C := "ChannelMachine$Task") (F := F_Task) (N := 7) hx hb hts i_Task hown t_Task t_Task_ok n_Task hK hP hD hS hf 4 rfl (by decide) (hts _ k_456) (fun _ h9 => h9) rfl (ty := .int) (v := .int 0) (by decide +kernel) rfl rfl (Nat.le_of_ble_eq_true rfl) d_Task_init_11 (fun pl9 H locs hL hP hD hS => ?_)
    have hf : y_L pl9 pp = some (.inr (8, [.null, .null, .null, .int 0, .int 0, .int 0, .long 0])) := by rw [hL]; exact y_Lu_s
    have hoth : ∀ b, b ≠ pp → y_L pl9 b = y_L pl b := fun b n0 => by rw [hL, y_Lu_n n0]; exact hoth b n0
    clear hL
    refine lv_aload_n hx hb d_Task_init_14 rfl (lv_at hl 0 rfl) ?_
    refine lv_iconst (v := 0) hx hb d_Task_init_15 (by decide) ?_
    refine d_p (C := "ChannelMachine$Task") (F := F_Task) (N := 7) hx hb hts i_Task hown t_Task t_Task_ok n_Task hK hP hD hS hf 5 rfl (by decide) (hts _ k_458) (fun _ h9 => h9) rfl (ty := .int) (v := .int 0) (by decide +kernel) rfl rfl (Nat.le_of_ble_eq_true rfl) d_Task_init_16 (fun pl10 H locs hL hP hD hS => ?_)
    have hf : y_L pl10 pp = some (.inr (8, [.null, .null, .null, .int 0, .int 0, .int 0, .long 0])) := by rw [hL]; exact y_Lu_s
    have hoth : ∀ b, b ≠ pp → y_L pl10 b = y_L pl b := fun b n0 => by rw [hL, y_Lu_n n0]; exact hoth b n0
    clear hL
    refine lv_aload_n hx hb d_Task_init_19 rfl (lv_at hl 0 rfl) ?_
    refine lv_lconst (v := 0) hx hb d_Task_init_20 (by decide) ?_
    refine d_p (C := "ChannelMachine$Task") (F := F_Task) (N := 7) hx hb hts i_Task hown t_Task t_Task_ok n_Task hK hP hD hS hf 6 rfl (by decide) (hts _ k_460) (fun _ h9 => h9) rfl (ty := .long) (v := .long 0) (by decide +kernel) rfl rfl (Nat.le_of_ble_eq_true rfl) d_Task_init_21 (fun pl11 H locs hL hP hD hS => ?_)
    have hf : y_L pl11 pp = some (.inr (8, [.null, .null, .null, .int 0, .int 0, .int 0, .long 0])) := by rw [hL]; exact y_Lu_s
    have hoth : ∀ b, b ≠ pp → y_L pl11 b = y_L pl b := fun b n0 => by rw [hL, y_Lu_n n0]; exact hoth b n0
    clear hL
    refine lv_aload_n hx hb d_Task_init_24 rfl (lv_at hl 0 rfl) ?_
    refine lv_aload_n hx hb d_Task_init_25 rfl (lv_at hl 1 rfl) ?_
    refine d_pF (C := "ChannelMachine$Task") (F := F_Task) (N := 7) hx hb hts i_Task hown t_Task t_Task_ok n_Task hK hP hD hS hf 0 rfl (by decide) (hts _ k_449) (fun _ h9 => h9) rfl hin rfl (ty := (.object "ChannelMachine$Process")) (v := .ref ww) (by decide +kernel) rfl rfl (Nat.le_of_ble_eq_true rfl) d_Task_init_26 (fun pl12 H locs hL hP hD hS => ?_)
    have hf : y_L pl12 pp = some (.inr (8, [.ref ww, .null, .null, .int 0, .int 0, .int 0, .long 0])) := by rw [hL]; exact y_Lu_s
    have hoth : ∀ b, b ≠ pp → y_L pl12 b = y_L pl b := fun b n0 => by rw [hL, y_Lu_n n0]; exact hoth b n0
    clear hL
    refine lv_aload_n hx hb d_Task_init_29 rfl (lv_at hl 0 rfl) ?_
    refine lv_aload_n hx hb d_Task_init_30 rfl (lv_at hl 2 rfl) ?_
    refine d_pF (C := "ChannelMachine$Task") (F := F_Task) (N := 7) hx hb hts i_Task hown t_Task t_Task_ok n_Task hK hP hD hS hf 1 rfl (by decide) (hts _ k_451) (fun _ h9 => h9) rfl hin rfl (ty := (.object "ChannelMachine$Task")) (v := .ref mk) (by decide +kernel) rfl rfl (Nat.le_of_ble_eq_true rfl) d_Task_init_31 (fun pl13 H locs hL hP hD hS => ?_)
    have hf : y_L pl13 pp = some (.inr (8, [.ref ww, .ref mk, .null, .int 0, .int 0, .int 0, .long 0])) := by rw [hL]; exact y_Lu_s
    have hoth : ∀ b, b ≠ pp → y_L pl13 b = y_L pl b := fun b n0 => by rw [hL, y_Lu_n n0]; exact hoth b n0
    clear hL
    refine lv_aload_n hx hb d_Task_init_34 rfl (lv_at hl 0 rfl) ?_
    refine lv_aload_n hx hb d_Task_init_35 rfl (lv_at hl 1 rfl) ?_
    refine d_p (C := "ChannelMachine$Task") (F := F_Task) (N := 7) hx hb hts i_Task hown t_Task t_Task_ok n_Task hK hP hD hS hf 2 rfl (by decide) (hts _ k_453) (fun _ h9 => h9) rfl (ty := (.object "ChannelMachine$Process")) (v := .ref ww) (by decide +kernel) rfl rfl (Nat.le_of_ble_eq_true rfl) d_Task_init_36 (fun pl14 H locs hL hP hD hS => ?_)
    have hf : y_L pl14 pp = some (.inr (8, [.ref ww, .ref mk, .ref ww, .int 0, .int 0, .int 0, .long 0])) := by rw [hL]; exact y_Lu_s
    have hoth : ∀ b, b ≠ pp → y_L pl14 b = y_L pl b := fun b n0 => by rw [hL, y_Lu_n n0]; exact hoth b n0
    clear hL
    refine y_know (fun hy91 hy92 hy93 hy94 => ?_)
    have hac9 : True := trivial
    refine W.widen (k := 0) (n := 0) (by omega) (by omega) ?_
    exact W.vret hx hb hr (fun t ht hW => ⟨⟨(I, T, A, O, pl14, (0, 0, 0, 0)), rfl, ⟨rfl, rfl, rfl, rfl, y_Lu_eq hf (fun b hb => hoth b hb)⟩, (by dsimp only; rw [ht]; exact ⟨hP, hD, hac9⟩)⟩, hS.F ht⟩) hS.2.2 d_Task_init_39
set_option maxHeartbeats 4000000 in
set_option maxRecDepth 100000 in
theorem c_G_init (l : Launch) (dC : Nat → ClassId) (dI : Nat → Nat → Nat) (ar : Nat → ClassId) (N0 : Nat) (z : Nat → Nat) (ad : Nat → Nat) (I : Nat → Int32) (T : Int64) (A : Nat → Nat → Int32) (O : Nat → Option Nat) (pl : va_W) (pp : Nat) (sz w0 : Nat) (hf : y_L pl pp = some (.inr (9, [.null, .int 0, .int 0, .null, .null, .int 0]))) : Met l ({ cls := "ChannelMachine$Guard", name := "<init>", desc := "()V" } : Jvm.MethodName) ((Jvm.Cond.code ({ cls := "ChannelMachine$Guard", name := "<init>", desc := "()V" } : Jvm.MethodName) prog_4_method_1_code (1 : Nat) (Option.none : Option Jvm.ClassFile.FieldType)) :: x_T) ({ frames := 1, cells := 0, slots := 0, locals := 14 }) (y_Pc (dC, dI) ar N0 z (y_W ad ar I T A O pl) sz w0 [.ref pp]) (va_Qv (fun (u : (Nat → Int32) × Int64 × (Nat → Nat → Int32) × (Nat → Option Nat) × va_W × (Nat × Nat × Nat × Nat)) => u.1 = I ∧ u.2.1 = T ∧ u.2.2.1 = A ∧ u.2.2.2.1 = O ∧ y_L u.2.2.2.2.1 = y_Lu (y_L pl) pp (.inr (9, y_Gf (z 21) (-1) (-1) none none 0))) (fun u t => va_P (dC, dI) y_cl (y_W ad ar u.1 u.2.1 u.2.2.1 u.2.2.2.1 u.2.2.2.2.1) t.heap ∧ va_D (va_A (y_W ad ar I T A O pl) sz) (y_W ad ar u.1 u.2.1 u.2.2.1 u.2.2.2.1 u.2.2.2.2.1) ∧ True) (va_A (y_W ad ar I T A O pl) sz)) (0) (0) (va_A (y_W ad ar I T A O pl) sz) := by
  refine Met.ofW (cc := prog_4_method_1_code) (maxL := 1) (ret := none) (by decide) rfl ?_
  intro p e s m args below meth c s₁ B hml hv
  obtain ⟨rfl, hsz, hN0, hP, hU, hZ, hD0, hw0⟩ := hv
  have hK := hU.2.1
  have hx := B.exec
  have hb := B.bytes
  have hr := B.returns
  have hts : ∀ w ∈ x_T, w.before ([.ref pp] : List Value).toArray s = true := fun w h => atoms_spec (ws := (Jvm.Cond.code ({ cls := "ChannelMachine$Guard", name := "<init>", desc := "()V" } : Jvm.MethodName) prog_4_method_1_code (1 : Nat) (Option.none : Option Jvm.ClassFile.FieldType)) :: x_T) B.pre w (List.mem_cons_of_mem _ h)
  have hown : s.vm.findClass "ChannelMachine$Guard" = some m.cls := findClass_of_methodNamed B.named
  have hlocks := B.notSynchronized
  subst hsz
  subst hw0
  have hD := hD0.self (sz := s.heap.size)
  have hAN := x_AN hD0 hN0
  generalize hAe : va_A (y_W ad ar I T A O pl) s.heap.size = Bq at hD hAN ⊢
  have hA : ∀ q : Nat, s.heap.size ≤ q → Bq q := fun q h => by rw [← hAe]; exact Or.inr h
  have hS : va_S Bq s.heap s.heap [] := va_S.rf
  have hl := lv_entry ([.ref pp]) (n := 1) (Nat.le_of_ble_eq_true rfl)
  rw [lg_entry_eq]
  generalize (lg_sl ([.ref pp]) ++ List.replicate (1 - (lg_sl ([.ref pp])).length) Slot.unset).toArray = ls at hl ⊢
  have hl : lv_has ls 1 [(0, .ref pp)] := hl
  have hin : meth.name = "<init>" := (name_of_methodNamed B.named B.method).1
  refine lv_aload_n hx hb d_Guard_init_0 rfl (lv_at hl 0 rfl) ?_
  refine W.objInit hx hb hown (hts _ k_567) (hts _ k_35) (hts _ k_36) rfl (by rw [hml]; exact hl.1) rfl d_Guard_init_1 (Nat.le_of_ble_eq_true rfl) (Nat.le_of_ble_eq_true rfl) ?_
  refine W.eq (g2 := F0 m 4 ls []) rfl ?_
  refine lv_aload_n hx hb d_Guard_init_4 rfl (lv_at hl 0 rfl) ?_
  refine va_getsN hx hb (hZ.2.2.2.2.1.narrow hAN) hS hown (hU.1.2.1 _ kn_568) (fun _ h9 => h9) d_Guard_init_5 ?_
  refine d_p (C := "ChannelMachine$Guard") (F := F_Guard) (N := 6) hx hb hts i_Guard hown t_Guard t_Guard_ok n_Guard hK hP hD hS hf 0 rfl (by decide) (hts _ k_569) (fun _ h9 => h9) rfl (ty := (.array .int)) (v := .ref (z 21)) (by decide +kernel) rfl rfl (Nat.le_of_ble_eq_true rfl) d_Guard_init_8 (fun pl1 H locs hL hP hD hS => ?_)
  have hf : y_L pl1 pp = some (.inr (9, [.ref (z 21), .int 0, .int 0, .null, .null, .int 0])) := by rw [hL]; exact y_Lu_s
  have hoth : ∀ b, b ≠ pp → y_L pl1 b = y_L pl b := fun b n0 => by rw [hL, y_Lu_n n0]
  clear hL
  refine lv_aload_n hx hb d_Guard_init_11 rfl (lv_at hl 0 rfl) ?_
  refine lv_iconst (v := (-1)) hx hb d_Guard_init_12 (by decide) ?_
  refine d_p (C := "ChannelMachine$Guard") (F := F_Guard) (N := 6) hx hb hts i_Guard hown t_Guard t_Guard_ok n_Guard hK hP hD hS hf 1 rfl (by decide) (hts _ k_572) (fun _ h9 => h9) rfl (ty := .int) (v := .int (-1)) (by decide +kernel) rfl rfl (Nat.le_of_ble_eq_true rfl) d_Guard_init_13 (fun pl2 H locs hL hP hD hS => ?_)
  have hf : y_L pl2 pp = some (.inr (9, [.ref (z 21), .int (-1), .int 0, .null, .null, .int 0])) := by rw [hL]; exact y_Lu_s
  have hoth : ∀ b, b ≠ pp → y_L pl2 b = y_L pl b := fun b n0 => by rw [hL, y_Lu_n n0]; exact hoth b n0
  clear hL
  refine lv_aload_n hx hb d_Guard_init_16 rfl (lv_at hl 0 rfl) ?_
  refine lv_iconst (v := (-1)) hx hb d_Guard_init_17 (by decide) ?_
  refine d_p (C := "ChannelMachine$Guard") (F := F_Guard) (N := 6) hx hb hts i_Guard hown t_Guard t_Guard_ok n_Guard hK hP hD hS hf 2 rfl (by decide) (hts _ k_575) (fun _ h9 => h9) rfl (ty := .int) (v := .int (-1)) (by decide +kernel) rfl rfl (Nat.le_of_ble_eq_true rfl) d_Guard_init_18 (fun pl3 H locs hL hP hD hS => ?_)
  have hf : y_L pl3 pp = some (.inr (9, [.ref (z 21), .int (-1), .int (-1), .null, .null, .int 0])) := by rw [hL]; exact y_Lu_s
  have hoth : ∀ b, b ≠ pp → y_L pl3 b = y_L pl b := fun b n0 => by rw [hL, y_Lu_n n0]; exact hoth b n0
  clear hL
  refine lv_aload_n hx hb d_Guard_init_21 rfl (lv_at hl 0 rfl) ?_
  refine lv_null hx hb d_Guard_init_22 ?_
  refine d_p (C := "ChannelMachine$Guard") (F := F_Guard) (N := 6) hx hb hts i_Guard hown t_Guard t_Guard_ok n_Guard hK hP hD hS hf 3 rfl (by decide) (hts _ k_578) (fun _ h9 => h9) rfl (ty := (.object "ChannelMachine$Process")) (v := .null) (by decide +kernel) rfl rfl (Nat.le_of_ble_eq_true rfl) d_Guard_init_23 (fun pl4 H locs hL hP hD hS => ?_)
  have hf : y_L pl4 pp = some (.inr (9, [.ref (z 21), .int (-1), .int (-1), .null, .null, .int 0])) := by rw [hL]; exact y_Lu_s
  have hoth : ∀ b, b ≠ pp → y_L pl4 b = y_L pl b := fun b n0 => by rw [hL, y_Lu_n n0]; exact hoth b n0
  clear hL
  refine lv_aload_n hx hb d_Guard_init_26 rfl (lv_at hl 0 rfl) ?_
  refine lv_null hx hb d_Guard_init_27 ?_
  refine d_p (C := "ChannelMachine$Guard") (F := F_Guard) (N := 6) hx hb hts i_Guard hown t_Guard t_Guard_ok n_Guard hK hP hD hS hf 4 rfl (by decide) (hts _ k_581) (fun _ h9 => h9) rfl (ty := (.object "ChannelMachine$Guard")) (v := .null) (by decide +kernel) rfl rfl (Nat.le_of_ble_eq_true rfl) d_Guard_init_28 (fun pl5 H locs hL hP hD hS => ?_)
  have hf : y_L pl5 pp = some (.inr (9, [.ref (z 21), .int (-1), .int (-1), .null, .null, .int 0])) := by rw [hL]; exact y_Lu_s
  have hoth : ∀ b, b ≠ pp → y_L pl5 b = y_L pl b := fun b n0 => by rw [hL, y_Lu_n n0]; exact hoth b n0
  clear hL
  refine lv_aload_n hx hb d_Guard_init_31 rfl (lv_at hl 0 rfl) ?_
  refine lv_iconst (v := 0) hx hb d_Guard_init_32 (by decide) ?_
  refine d_p (C := "ChannelMachine$Guard") (F := F_Guard) (N := 6) hx hb hts i_Guard hown t_Guard t_Guard_ok n_Guard hK hP hD hS hf 5 rfl (by decide) (hts _ k_584) (fun _ h9 => h9) rfl (ty := .boolean) (v := .int 0) (by decide +kernel) rfl rfl (Nat.le_of_ble_eq_true rfl) d_Guard_init_33 (fun pl6 H locs hL hP hD hS => ?_)
  have hf : y_L pl6 pp = some (.inr (9, [.ref (z 21), .int (-1), .int (-1), .null, .null, .int 0])) := by rw [hL]; exact y_Lu_s
  have hoth : ∀ b, b ≠ pp → y_L pl6 b = y_L pl b := fun b n0 => by rw [hL, y_Lu_n n0]; exact hoth b n0
  clear hL
  refine y_know (fun hy91 hy92 hy93 hy94 => ?_)
  have hac9 : True := trivial
  refine W.widen (k := 0) (n := 0) (by omega) (by omega) ?_
  exact W.vret hx hb hr (fun t ht hW => ⟨⟨(I, T, A, O, pl6, (0, 0, 0, 0)), rfl, ⟨rfl, rfl, rfl, rfl, y_Lu_eq hf (fun b hb => hoth b hb)⟩, (by dsimp only; rw [ht]; exact ⟨hP, hD, hac9⟩)⟩, hS.F ht⟩) hS.2.2 d_Guard_init_36
set_option maxHeartbeats 4000000 in
set_option maxRecDepth 100000 in
theorem c_Rd_kindOf (l : Launch) (dC : Nat → ClassId) (dI : Nat → Nat → Nat) (ar : Nat → ClassId) (N0 : Nat) (z : Nat → Nat) (ad : Nat → Nat) (I : Nat → Int32) (T : Int64) (A : Nat → Nat → Int32) (O : Nat → Option Nat) (pl : va_W) (cv c2 : Int32) (sz w0 : Nat) : Met l ({ cls := "ChannelMachine$Reader", name := "kindOf", desc := "(CC)LChannelMachine$Kind;" } : Jvm.MethodName) ((Jvm.Cond.code ({ cls := "ChannelMachine$Reader", name := "kindOf", desc := "(CC)LChannelMachine$Kind;" } : Jvm.MethodName) prog_8_method_15_code (2 : Nat) (Option.some (Jvm.ClassFile.FieldType.object "ChannelMachine$Kind"))) :: x_T) ({ frames := 1, cells := 0, slots := 0, locals := 20 }) (y_Pc (dC, dI) ar N0 z (y_W ad ar I T A O pl) sz w0 [.int cv, .int c2]) (va_Qq (fun (r : Option Nat) (u : (Nat → Int32) × Int64 × (Nat → Nat → Int32) × (Nat → Option Nat) × va_W × (Nat × Nat × Nat × Nat)) => u = (I, T, A, O, pl, 0, 0, 0, 0) ∧ (r = none ∨ ∃ j, r = some (z (3 + j)) ∧ j < 11 ∧ cv ≠ 0 ∧ (j = 1 ∨ j = 2 → x_ch cv ≠ -1))) (fun u t => va_P (dC, dI) y_cl (y_W ad ar u.1 u.2.1 u.2.2.1 u.2.2.2.1 u.2.2.2.2.1) t.heap ∧ va_D (va_A (y_W ad ar I T A O pl) sz) (y_W ad ar u.1 u.2.1 u.2.2.1 u.2.2.2.1 u.2.2.2.2.1) ∧ True) (va_A (y_W ad ar I T A O pl) sz)) (0) (0) (va_A (y_W ad ar I T A O pl) sz) := by
  refine Met.ofW (cc := prog_8_method_15_code) (maxL := 2) (ret := (some (.object "ChannelMachine$Kind"))) (by decide) rfl ?_
  intro p e s m args below meth c s₁ B hml hv
  obtain ⟨rfl, hsz, hN0, hP, hU, hZ, hD0, hw0⟩ := hv
  have hK := hU.2.1
  have hx := B.exec
  have hb := B.bytes
  have hr := B.returns
  have hts : ∀ w ∈ x_T, w.before ([.int cv, .int c2] : List Value).toArray s = true := fun w h => atoms_spec (ws := (Jvm.Cond.code ({ cls := "ChannelMachine$Reader", name := "kindOf", desc := "(CC)LChannelMachine$Kind;" } : Jvm.MethodName) prog_8_method_15_code (2 : Nat) (Option.some (Jvm.ClassFile.FieldType.object "ChannelMachine$Kind"))) :: x_T) B.pre w (List.mem_cons_of_mem _ h)
  have hown : s.vm.findClass "ChannelMachine$Reader" = some m.cls := findClass_of_methodNamed B.named
  have hlocks := B.notSynchronized
  subst hsz
  subst hw0
  have hD := hD0.self (sz := s.heap.size)
  have hAN := x_AN hD0 hN0
  generalize hAe : va_A (y_W ad ar I T A O pl) s.heap.size = Bq at hD hAN ⊢
  have hA : ∀ q : Nat, s.heap.size ≤ q → Bq q := fun q h => by rw [← hAe]; exact Or.inr h
  have hS : va_S Bq s.heap s.heap [] := va_S.rf
  have hl := lv_entry ([.int cv, .int c2]) (n := 2) (Nat.le_of_ble_eq_true rfl)
  rw [lg_entry_eq]
  generalize (lg_sl ([.int cv, .int c2]) ++ List.replicate (2 - (lg_sl ([.int cv, .int c2])).length) Slot.unset).toArray = ls at hl ⊢
  have hl : lv_has ls 2 [(0, .int cv), (1, .int c2)] := hl
  refine lv_iload_n hx hb d_Reader_kindOf_0 rfl (lv_at hl 0 rfl) ?_
  by_cases s1 : cv = 35
  · refine lv_lookup (tgt := 96) hx hb d_Reader_kindOf_1 (by decide) (off := 95) (by rw [s1]; decide) (by decide) ?_
    refine va_gets hx hb ((hZ.2.1.1 4 (by decide)).1.narrow hAN) hS hown (hts _ k_351) (fun _ h9 => h9) d_Reader_kindOf_96 ?_
    refine y_know (fun hy91 hy92 hy93 hy94 => ?_)
    have hac9 : True := trivial
    refine W.widen (k := 0) (n := 0) (by omega) (by omega) ?_
    exact W.aret (v := .ref (z (3 + 4))) hx hb hr (Or.inl ⟨_, rfl⟩) (Or.inr ⟨_, rfl⟩) (fun t ht hW => ⟨⟨(some (z (3 + 4))), (I, T, A, O, pl, (0, 0, 0, 0)), rfl, ⟨rfl, Or.inr ⟨4, rfl, by decide, by rw [s1]; decide, fun h9 => by omega⟩⟩, (by dsimp only; rw [ht]; exact ⟨hP, hD, hac9⟩)⟩, hS.F ht⟩) hS.2.2 d_Reader_kindOf_99
  · by_cases s2 : cv = 40
    · refine lv_lookup (tgt := 100) hx hb d_Reader_kindOf_1 (by decide) (off := 99) (by rw [s2]; decide) (by decide) ?_
      refine va_gets hx hb ((hZ.2.1.1 5 (by decide)).1.narrow hAN) hS hown (hts _ k_353) (fun _ h9 => h9) d_Reader_kindOf_100 ?_
      refine y_know (fun hy91 hy92 hy93 hy94 => ?_)
      have hac9 : True := trivial
      refine W.widen (k := 0) (n := 0) (by omega) (by omega) ?_
      exact W.aret (v := .ref (z (3 + 5))) hx hb hr (Or.inl ⟨_, rfl⟩) (Or.inr ⟨_, rfl⟩) (fun t ht hW => ⟨⟨(some (z (3 + 5))), (I, T, A, O, pl, (0, 0, 0, 0)), rfl, ⟨rfl, Or.inr ⟨5, rfl, by decide, by rw [s2]; decide, fun h9 => by omega⟩⟩, (by dsimp only; rw [ht]; exact ⟨hP, hD, hac9⟩)⟩, hS.F ht⟩) hS.2.2 d_Reader_kindOf_103
    · by_cases s3 : cv = 46
      · refine lv_lookup (tgt := 92) hx hb d_Reader_kindOf_1 (by decide) (off := 91) (by rw [s3]; decide) (by decide) ?_
        refine va_gets hx hb ((hZ.2.1.1 3 (by decide)).1.narrow hAN) hS hown (hts _ k_349) (fun _ h9 => h9) d_Reader_kindOf_92 ?_
        refine y_know (fun hy91 hy92 hy93 hy94 => ?_)
        have hac9 : True := trivial
        refine W.widen (k := 0) (n := 0) (by omega) (by omega) ?_
        exact W.aret (v := .ref (z (3 + 3))) hx hb hr (Or.inl ⟨_, rfl⟩) (Or.inr ⟨_, rfl⟩) (fun t ht hW => ⟨⟨(some (z (3 + 3))), (I, T, A, O, pl, (0, 0, 0, 0)), rfl, ⟨rfl, Or.inr ⟨3, rfl, by decide, by rw [s3]; decide, fun h9 => by omega⟩⟩, (by dsimp only; rw [ht]; exact ⟨hP, hD, hac9⟩)⟩, hS.F ht⟩) hS.2.2 d_Reader_kindOf_95
      · by_cases s4 : cv = 63
        · refine lv_lookup (tgt := 116) hx hb d_Reader_kindOf_1 (by decide) (off := 115) (by rw [s4]; decide) (by decide) ?_
          refine va_gets hx hb ((hZ.2.1.1 8 (by decide)).1.narrow hAN) hS hown (hts _ k_361) (fun _ h9 => h9) d_Reader_kindOf_116 ?_
          refine y_know (fun hy91 hy92 hy93 hy94 => ?_)
          have hac9 : True := trivial
          refine W.widen (k := 0) (n := 0) (by omega) (by omega) ?_
          exact W.aret (v := .ref (z (3 + 8))) hx hb hr (Or.inl ⟨_, rfl⟩) (Or.inr ⟨_, rfl⟩) (fun t ht hW => ⟨⟨(some (z (3 + 8))), (I, T, A, O, pl, (0, 0, 0, 0)), rfl, ⟨rfl, Or.inr ⟨8, rfl, by decide, by rw [s4]; decide, fun h9 => by omega⟩⟩, (by dsimp only; rw [ht]; exact ⟨hP, hD, hac9⟩)⟩, hS.F ht⟩) hS.2.2 d_Reader_kindOf_119
        · by_cases s5 : cv = 64
          · refine lv_lookup (tgt := 120) hx hb d_Reader_kindOf_1 (by decide) (off := 119) (by rw [s5]; decide) (by decide) ?_
            refine va_gets hx hb ((hZ.2.1.1 9 (by decide)).1.narrow hAN) hS hown (hts _ k_363) (fun _ h9 => h9) d_Reader_kindOf_120 ?_
            refine y_know (fun hy91 hy92 hy93 hy94 => ?_)
            have hac9 : True := trivial
            refine W.widen (k := 0) (n := 0) (by omega) (by omega) ?_
            exact W.aret (v := .ref (z (3 + 9))) hx hb hr (Or.inl ⟨_, rfl⟩) (Or.inr ⟨_, rfl⟩) (fun t ht hW => ⟨⟨(some (z (3 + 9))), (I, T, A, O, pl, (0, 0, 0, 0)), rfl, ⟨rfl, Or.inr ⟨9, rfl, by decide, by rw [s5]; decide, fun h9 => by omega⟩⟩, (by dsimp only; rw [ht]; exact ⟨hP, hD, hac9⟩)⟩, hS.F ht⟩) hS.2.2 d_Reader_kindOf_123
          · by_cases s6 : cv = 73
            · refine lv_lookup (tgt := 128) hx hb d_Reader_kindOf_1 (by decide) (off := 127) (by rw [s6]; decide) (by decide) ?_
              refine va_gets hx hb ((hZ.2.1.1 2 (by decide)).1.narrow hAN) hS hown (hts _ k_367) (fun _ h9 => h9) d_Reader_kindOf_128 ?_
              refine y_know (fun hy91 hy92 hy93 hy94 => ?_)
              have hac9 : True := trivial
              refine W.widen (k := 0) (n := 0) (by omega) (by omega) ?_
              exact W.aret (v := .ref (z (3 + 2))) hx hb hr (Or.inl ⟨_, rfl⟩) (Or.inr ⟨_, rfl⟩) (fun t ht hW => ⟨⟨(some (z (3 + 2))), (I, T, A, O, pl, (0, 0, 0, 0)), rfl, ⟨rfl, Or.inr ⟨2, rfl, by decide, by rw [s6]; decide, fun _ => by rw [s6]; decide⟩⟩, (by dsimp only; rw [ht]; exact ⟨hP, hD, hac9⟩)⟩, hS.F ht⟩) hS.2.2 d_Reader_kindOf_131
            · by_cases s7 : cv = 79
              · refine lv_lookup (tgt := 124) hx hb d_Reader_kindOf_1 (by decide) (off := 123) (by rw [s7]; decide) (by decide) ?_
                refine va_gets hx hb ((hZ.2.1.1 1 (by decide)).1.narrow hAN) hS hown (hts _ k_365) (fun _ h9 => h9) d_Reader_kindOf_124 ?_
                refine y_know (fun hy91 hy92 hy93 hy94 => ?_)
                have hac9 : True := trivial
                refine W.widen (k := 0) (n := 0) (by omega) (by omega) ?_
                exact W.aret (v := .ref (z (3 + 1))) hx hb hr (Or.inl ⟨_, rfl⟩) (Or.inr ⟨_, rfl⟩) (fun t ht hW => ⟨⟨(some (z (3 + 1))), (I, T, A, O, pl, (0, 0, 0, 0)), rfl, ⟨rfl, Or.inr ⟨1, rfl, by decide, by rw [s7]; decide, fun _ => by rw [s7]; decide⟩⟩, (by dsimp only; rw [ht]; exact ⟨hP, hD, hac9⟩)⟩, hS.F ht⟩) hS.2.2 d_Reader_kindOf_127
              · by_cases s8 : cv = 91
                · refine lv_lookup (tgt := 108) hx hb d_Reader_kindOf_1 (by decide) (off := 107) (by rw [s8]; decide) (by decide) ?_
                  refine va_gets hx hb ((hZ.2.1.1 10 (by decide)).1.narrow hAN) hS hown (hts _ k_357) (fun _ h9 => h9) d_Reader_kindOf_108 ?_
                  refine y_know (fun hy91 hy92 hy93 hy94 => ?_)
                  have hac9 : True := trivial
                  refine W.widen (k := 0) (n := 0) (by omega) (by omega) ?_
                  exact W.aret (v := .ref (z (3 + 10))) hx hb hr (Or.inl ⟨_, rfl⟩) (Or.inr ⟨_, rfl⟩) (fun t ht hW => ⟨⟨(some (z (3 + 10))), (I, T, A, O, pl, (0, 0, 0, 0)), rfl, ⟨rfl, Or.inr ⟨10, rfl, by decide, by rw [s8]; decide, fun h9 => by omega⟩⟩, (by dsimp only; rw [ht]; exact ⟨hP, hD, hac9⟩)⟩, hS.F ht⟩) hS.2.2 d_Reader_kindOf_111
                · by_cases s9 : cv = 94
                  · refine lv_lookup (tgt := 112) hx hb d_Reader_kindOf_1 (by decide) (off := 111) (by rw [s9]; decide) (by decide) ?_
                    refine va_gets hx hb ((hZ.2.1.1 7 (by decide)).1.narrow hAN) hS hown (hts _ k_359) (fun _ h9 => h9) d_Reader_kindOf_112 ?_
                    refine y_know (fun hy91 hy92 hy93 hy94 => ?_)
                    have hac9 : True := trivial
                    refine W.widen (k := 0) (n := 0) (by omega) (by omega) ?_
                    exact W.aret (v := .ref (z (3 + 7))) hx hb hr (Or.inl ⟨_, rfl⟩) (Or.inr ⟨_, rfl⟩) (fun t ht hW => ⟨⟨(some (z (3 + 7))), (I, T, A, O, pl, (0, 0, 0, 0)), rfl, ⟨rfl, Or.inr ⟨7, rfl, by decide, by rw [s9]; decide, fun h9 => by omega⟩⟩, (by dsimp only; rw [ht]; exact ⟨hP, hD, hac9⟩)⟩, hS.F ht⟩) hS.2.2 d_Reader_kindOf_115
                  · by_cases s10 : cv = 123
                    · refine lv_lookup (tgt := 104) hx hb d_Reader_kindOf_1 (by decide) (off := 103) (by rw [s10]; decide) (by decide) ?_
                      refine va_gets hx hb ((hZ.2.1.1 6 (by decide)).1.narrow hAN) hS hown (hts _ k_355) (fun _ h9 => h9) d_Reader_kindOf_104 ?_
                      refine y_know (fun hy91 hy92 hy93 hy94 => ?_)
                      have hac9 : True := trivial
                      refine W.widen (k := 0) (n := 0) (by omega) (by omega) ?_
                      exact W.aret (v := .ref (z (3 + 6))) hx hb hr (Or.inl ⟨_, rfl⟩) (Or.inr ⟨_, rfl⟩) (fun t ht hW => ⟨⟨(some (z (3 + 6))), (I, T, A, O, pl, (0, 0, 0, 0)), rfl, ⟨rfl, Or.inr ⟨6, rfl, by decide, by rw [s10]; decide, fun h9 => by omega⟩⟩, (by dsimp only; rw [ht]; exact ⟨hP, hD, hac9⟩)⟩, hS.F ht⟩) hS.2.2 d_Reader_kindOf_107
                    · refine lv_lookup (tgt := 132) hx hb d_Reader_kindOf_1 (by decide) (off := 131) (by show Op.lookupswitch.offset [(35, 95), (40, 99), (46, 91), (63, 115), (64, 119), (73, 127), (79, 123), (91, 107), (94, 111), (123, 103)] 131 (Int32.toInt cv) = 131; rw [lv_osw s1 (by decide), lv_osw s2 (by decide), lv_osw s3 (by decide), lv_osw s4 (by decide), lv_osw s5 (by decide), lv_osw s6 (by decide), lv_osw s7 (by decide), lv_osw s8 (by decide), lv_osw s9 (by decide), lv_osw s10 (by decide)]; rfl) (by decide) ?_
                      refine lv_iload_n hx hb d_Reader_kindOf_132 rfl (lv_at hl 0 rfl) ?_
                      have hFc := y_free hD hS hA
                      refine va_calli (va_runS (As := [.int cv]) (rest := []) ⟨hx, hb, hml, hown, hts⟩ (c_Rd_isVariable l dC dI ar N0 z ad I T A O pl (cv) s.heap.size (y_hs s.heap) ) (cwS 1 hts (x_goodS k_369 k_370 k_2 k_371) rfl rfl rfl (by decide +kernel) ⟨Nat.le_of_ble_eq_true rfl, Nat.le_of_ble_eq_true rfl⟩) ⟨y_blind, fun U9 hU9 hW9 => y_pre hU9 hW9 hP hD hU hZ hS hAN hN0⟩ rfl rfl hl.1 rfl (lv_room (Nat.le_of_ble_eq_true rfl)) d_Reader_kindOf_133 ⟨(by show 0 + (0) ≤ 0; omega), (by show 0 + (0) ≤ 0; omega)⟩) hS (fun q _ h => hFc q h) hFc (fun r_11 u t H1 locs ht hvm hw hB hz1 hk1 hS => ?_)
                      obtain ⟨I12, T12, A12, O12, pl12, q12, s12, cq12, cs12⟩ := u
                      dsimp only at hw hB
                      rw [ht] at hB
                      obtain ⟨hP, hD1, hac12⟩ := hB
                      have hD : va_D Bq (y_W ad ar I12 T12 A12 O12 pl12) := hD1.weaken (fun _ q _ h => hFc q.1 h)
                      generalize H1 = H at hP hS hac12 ⊢
                      have hae12 := hac12
                      try unfold y_ac at hae12
                      try dsimp only at hae12
                      refine W.widen (k := 0) (n := 0) (by omega) (by omega) ?_
                      obtain ⟨h9, hw⟩ := hw
                      cases h9
                      rcases hw with ⟨rfl, hr13⟩ | ⟨rfl, hr13⟩
                      · refine lv_if_eq (tgt := 143) hx hb d_Reader_kindOf_136 (by decide) (fun _ => ?_) (fun c14 => absurd (by decide) c14)
                        refine lv_iload_n hx hb d_Reader_kindOf_143 rfl (lv_at hl 0 rfl) ?_
                        have hFc := y_free hD hS hA
                        refine va_calli (va_runS (As := [.int cv]) (rest := []) ⟨hx, hb, hml, hown, hts⟩ (c_Rd_channelOf l dC dI ar N0 z ad I T A O pl (cv) H.size (y_hs H) ) (cwS 1 hts (x_goodS k_374 k_375 k_2 k_376) rfl rfl rfl (by decide +kernel) ⟨Nat.le_of_ble_eq_true rfl, Nat.le_of_ble_eq_true rfl⟩) ⟨y_blind, fun U9 hU9 hW9 => y_pre hU9 hW9 hP hD hU hZ hS hAN hN0⟩ rfl rfl hl.1 rfl (lv_room (Nat.le_of_ble_eq_true rfl)) d_Reader_kindOf_144 ⟨(by show 0 + (0) ≤ 0; omega), (by show 0 + (0) ≤ 0; omega)⟩) hS (fun q _ h => hFc q h) hFc (fun r_15 u t H1 locs ht hvm hw hB hz1 hk1 hS => ?_)
                        obtain ⟨I16, T16, A16, O16, pl16, q16, s16, cq16, cs16⟩ := u
                        dsimp only at hw hB
                        rw [ht] at hB
                        obtain ⟨hP, hD1, hac16⟩ := hB
                        have hD : va_D Bq (y_W ad ar I16 T16 A16 O16 pl16) := hD1.weaken (fun _ q _ h => hFc q.1 h)
                        generalize H1 = H at hP hS hac16 ⊢
                        have hae16 := hac16
                        try unfold y_ac at hae16
                        try dsimp only at hae16
                        refine W.widen (k := 0) (n := 0) (by omega) (by omega) ?_
                        obtain ⟨h9, hw⟩ := hw
                        cases h9
                        obtain rfl := hw
                        refine lv_iconst (v := (-1)) hx hb d_Reader_kindOf_147 (by decide) ?_
                        refine lv_icmp_ne (tgt := 153) hx hb d_Reader_kindOf_148 (by decide) (fun c17 => ?_) (fun c17 => ?_)
                        · refine lv_iload_n hx hb d_Reader_kindOf_153 rfl (lv_at hl 1 rfl) ?_
                          refine lv_bipush (v := 33) hx hb d_Reader_kindOf_154 (by decide) ?_
                          refine lv_icmp_ne (tgt := 165) hx hb d_Reader_kindOf_156 (by decide) (fun c18 => ?_) (fun c18 => ?_)
                          · refine va_gets hx hb ((hZ.2.1.1 2 (by decide)).1.narrow hAN) hS hown (hts _ k_367) (fun _ h9 => h9) d_Reader_kindOf_165 ?_
                            refine y_know (fun hy91 hy92 hy93 hy94 => ?_)
                            have hac9 : True := trivial
                            refine W.widen (k := 0) (n := 0) (by omega) (by omega) ?_
                            exact W.aret (v := .ref (z (3 + 2))) hx hb hr (Or.inl ⟨_, rfl⟩) (Or.inr ⟨_, rfl⟩) (fun t ht hW => ⟨⟨(some (z (3 + 2))), (I, T, A, O, pl, (0, 0, 0, 0)), rfl, ⟨rfl, Or.inr ⟨2, rfl, by decide, fun h9 => c17 (by rw [h9]; decide), fun _ => c17⟩⟩, (by dsimp only; rw [ht]; exact ⟨hP, hD, hac9⟩)⟩, hS.F ht⟩) hS.2.2 d_Reader_kindOf_168
                          · refine va_gets hx hb ((hZ.2.1.1 1 (by decide)).1.narrow hAN) hS hown (hts _ k_365) (fun _ h9 => h9) d_Reader_kindOf_159 ?_
                            refine lv_goto (tgt := 168) hx hb d_Reader_kindOf_162 (by decide) ?_
                            refine y_know (fun hy91 hy92 hy93 hy94 => ?_)
                            have hac9 : True := trivial
                            refine W.widen (k := 0) (n := 0) (by omega) (by omega) ?_
                            exact W.aret (v := .ref (z (3 + 1))) hx hb hr (Or.inl ⟨_, rfl⟩) (Or.inr ⟨_, rfl⟩) (fun t ht hW => ⟨⟨(some (z (3 + 1))), (I, T, A, O, pl, (0, 0, 0, 0)), rfl, ⟨rfl, Or.inr ⟨1, rfl, by decide, fun h9 => c17 (by rw [h9]; decide), fun _ => c17⟩⟩, (by dsimp only; rw [ht]; exact ⟨hP, hD, hac9⟩)⟩, hS.F ht⟩) hS.2.2 d_Reader_kindOf_168
                        · refine lv_null hx hb d_Reader_kindOf_151 ?_
                          refine y_know (fun hy91 hy92 hy93 hy94 => ?_)
                          have hac9 : True := trivial
                          refine W.widen (k := 0) (n := 0) (by omega) (by omega) ?_
                          exact W.aret (v := .null) hx hb hr (Or.inl ⟨_, rfl⟩) (Or.inl rfl) (fun t ht hW => ⟨⟨none, (I, T, A, O, pl, (0, 0, 0, 0)), rfl, ⟨rfl, Or.inl rfl⟩, (by dsimp only; rw [ht]; exact ⟨hP, hD, hac9⟩)⟩, hS.F ht⟩) hS.2.2 d_Reader_kindOf_152
                      · refine lv_if_eq (tgt := 143) hx hb d_Reader_kindOf_136 (by decide) (fun c19 => absurd c19 (by decide)) (fun _ => ?_)
                        refine va_gets hx hb ((hZ.2.1.1 0 (by decide)).1.narrow hAN) hS hown (hts _ k_372) (fun _ h9 => h9) d_Reader_kindOf_139 ?_
                        refine y_know (fun hy91 hy92 hy93 hy94 => ?_)
                        have hac9 : True := trivial
                        refine W.widen (k := 0) (n := 0) (by omega) (by omega) ?_
                        exact W.aret (v := .ref (z (3 + 0))) hx hb hr (Or.inl ⟨_, rfl⟩) (Or.inr ⟨_, rfl⟩) (fun t ht hW => ⟨⟨(some (z (3 + 0))), (I, T, A, O, pl, (0, 0, 0, 0)), rfl, ⟨rfl, Or.inr ⟨0, rfl, by decide, fun h9 => hr13.1 (by rw [h9]; decide), fun h9 => by omega⟩⟩, (by dsimp only; rw [ht]; exact ⟨hP, hD, hac9⟩)⟩, hS.F ht⟩) hS.2.2 d_Reader_kindOf_142
set_option maxHeartbeats 4000000 in
set_option maxRecDepth 100000 in
theorem c_Rd_added (l : Launch) (dC : Nat → ClassId) (dI : Nat → Nat → Nat) (ar : Nat → ClassId) (N0 : Nat) (z : Nat → Nat) (ad : Nat → Nat) (I : Nat → Int32) (T : Int64) (A : Nat → Nat → Int32) (O : Nat → Option Nat) (pl : va_W) (ln cl lm aa : Nat) (f0 : Nat → Option va_E) (G J : Nat → Nat) (C Gs : Nat → List Nat) (S : Nat → Nat) (jj : Nat) (par : Option Nat) (sz w0 : Nat) (hmi : y_RD I A (ln, cl, lm, aa)) (hdx : y_DX z ar f0 G J C Gs S (y_L pl)) (hj : jj < 11) (hpar : ∀ P, par = some P → G P = 7 ∧ (J P = 6 → (C P).length < 4)) : Met l ({ cls := "ChannelMachine$Reader", name := "added", desc := "(LChannelMachine$Kind;LChannelMachine$Process;)LChannelMachine$Process;" } : Jvm.MethodName) ((Jvm.Cond.code ({ cls := "ChannelMachine$Reader", name := "added", desc := "(LChannelMachine$Kind;LChannelMachine$Process;)LChannelMachine$Process;" } : Jvm.MethodName) prog_8_method_16_code (5 : Nat) (Option.some (Jvm.ClassFile.FieldType.object "ChannelMachine$Process"))) :: x_T) ({ frames := 2, cells := 2, slots := 17, locals := 36 }) (y_Pc (dC, dI) ar N0 z (y_W ad ar I T A O pl) sz w0 [.ref (ad 1), .ref (z (3 + jj)), va_rf par]) (va_Qq (fun (r : Option Nat) (u : (Nat → Int32) × Int64 × (Nat → Nat → Int32) × (Nat → Option Nat) × va_W × (Nat × Nat × Nat × Nat)) => y_RD u.1 u.2.2.1 u.2.2.2.2.2 ∧ u.2.2.2.2.2 = (ln, cl, lm, aa) ∧ u.2.1 = T ∧ u.2.2.1 = A ∧ (∀ k, (k ≠ 0 ∨ par ≠ none) → u.2.2.2.1 k = O k) ∧ m_fr [6] I u.1 ∧ ∃ (p t : Nat) (G' J' : Nat → Nat) (C' Gs' : Nat → List Nat) (S' : Nat → Nat), r = some p ∧ y_L pl p = none ∧ y_DX z ar f0 G' J' C' Gs' S' (y_L u.2.2.2.2.1) ∧ y_FX (y_L pl) G J Gs S (y_L u.2.2.2.2.1) G' J' Gs' S' ∧ (∀ a, y_L pl a ≠ none → C' a = if par = some a then C a ++ [p] else C a) ∧ (G' p = 7 ∧ J' p = jj ∧ C' p = [] ∧ Gs' p = [] ∧ S' p = 1 ∧ ∀ a, y_L pl a = none → G' a = 7 → a = p) ∧ y_L u.2.2.2.2.1 p = some (.inr (7, [.ref (z (3 + jj)), va_rf par, .null, .null, .null, .ref t, .null, .ref (z 21), .int (-1), .int (-1)])) ∧ (par = none → u.2.2.2.1 0 = some p)) (fun u t => va_P (dC, dI) y_cl (y_W ad ar u.1 u.2.1 u.2.2.1 u.2.2.2.1 u.2.2.2.2.1) t.heap ∧ va_D (va_A (y_W ad ar I T A O pl) sz) (y_W ad ar u.1 u.2.1 u.2.2.1 u.2.2.2.1 u.2.2.2.2.1) ∧ t.heap.size ≤ sz + 2 ∧ y_hs t.heap ≤ w0 + 17) (va_A (y_W ad ar I T A O pl) sz)) (2) (17) (va_A (y_W ad ar I T A O pl) sz) := by
  rcases par with _ | P
  · refine Met.ofW (cc := prog_8_method_16_code) (maxL := 5) (ret := (some (.object "ChannelMachine$Process"))) (by decide) rfl ?_
    intro p e s m args below meth c s₁ B hml hv
    obtain ⟨rfl, hsz, hN0, hP, hU, hZ, hD0, hw0⟩ := hv
    have hK := hU.2.1
    have hx := B.exec
    have hb := B.bytes
    have hr := B.returns
    have hts : ∀ w ∈ x_T, w.before ([.ref (ad 1), .ref (z (3 + jj)), va_rf none] : List Value).toArray s = true := fun w h => atoms_spec (ws := (Jvm.Cond.code ({ cls := "ChannelMachine$Reader", name := "added", desc := "(LChannelMachine$Kind;LChannelMachine$Process;)LChannelMachine$Process;" } : Jvm.MethodName) prog_8_method_16_code (5 : Nat) (Option.some (Jvm.ClassFile.FieldType.object "ChannelMachine$Process"))) :: x_T) B.pre w (List.mem_cons_of_mem _ h)
    have hown : s.vm.findClass "ChannelMachine$Reader" = some m.cls := findClass_of_methodNamed B.named
    have hlocks := B.notSynchronized
    subst hsz
    subst hw0
    have hD := hD0.self (sz := s.heap.size)
    have hAN := x_AN hD0 hN0
    generalize hAe : va_A (y_W ad ar I T A O pl) s.heap.size = Bq at hD hAN ⊢
    have hA : ∀ q : Nat, s.heap.size ≤ q → Bq q := fun q h => by rw [← hAe]; exact Or.inr h
    have hS : va_S Bq s.heap s.heap [] := va_S.rf
    have hl := lv_entry ([.ref (ad 1), .ref (z (3 + jj)), va_rf none]) (n := 5) (Nat.le_of_ble_eq_true rfl)
    rw [lg_entry_eq]
    generalize (lg_sl ([.ref (ad 1), .ref (z (3 + jj)), va_rf none]) ++ List.replicate (5 - (lg_sl ([.ref (ad 1), .ref (z (3 + jj)), va_rf none])).length) Slot.unset).toArray = ls at hl ⊢
    have hl : lv_has ls 5 [(0, .ref (ad 1)), (1, .ref (z (3 + jj))), (2, .null)] := hl
    have hbn := hmi.2.1
    dsimp only at hbn
    refine d_new (ci := 7) (fs := [.null, .null, .null, .null, .null, .null, .null, .null, .int 0, .int 0]) (C := "ChannelMachine$Process") (F := F_Process) (N := 10) hx hb hts i_Process t_Process t_Process_ok hown (hts _ k_381) (hts _ k_382) (hts _ k_17) hK hP hD hS hA rfl (fun j hj => by rcases (show j = 0 ∨ j = 1 ∨ j = 2 ∨ j = 3 ∨ j = 4 ∨ j = 5 ∨ j = 6 ∨ j = 7 ∨ j = 8 ∨ j = 9 by omega) with rfl | rfl | rfl | rfl | rfl | rfl | rfl | rfl | rfl | rfl <;> rfl) (by show 0 + 1 ≤ 2; omega) (by show 0 + 10 ≤ 17; omega) d_Reader_added_0 (fun p1 pl2 H hnop1 hL hP hD hS => ?_)
    have hzp1 : y_L pl p1 = none := by exact hnop1
    have hfp1 : y_L pl2 p1 = some (.inr (7, [.null, .null, .null, .null, .null, .null, .null, .null, .int 0, .int 0])) := by rw [hL]; exact y_Lu_s
    have hoth : ∀ b, b ≠ p1 → y_L pl2 b = y_L pl b := fun b n0 => by rw [hL, y_Lu_n n0]
    clear hL
    refine lv_dup hx hb d_Reader_added_3 rfl ?_
    refine lv_aload_n hx hb d_Reader_added_4 rfl (lv_at hl 1 rfl) ?_
    refine lv_aload_nN hx hb d_Reader_added_5 rfl (lv_at hl 2 rfl) ?_
    have hFc := y_free hD hS hA
    refine va_callv (va_runI (As := [.ref (z (3 + jj)), .null]) (rest := [.ref p1]) ⟨hx, hb, hml, hown, hts⟩ (c_P_init l dC dI ar N0 z ad I T A O pl2 p1 jj none H.size (y_hs H) hfp1) (cwI 2 hts (x_good k_385) rfl rfl rfl (hts _ k_17) (hts _ k_383) (hts _ k_384) rfl (by decide +kernel) ⟨Nat.le_of_ble_eq_true rfl, Nat.le_of_ble_eq_true rfl⟩) ⟨y_blind, fun U9 hU9 hW9 => y_pre hU9 hW9 hP hD hU hZ hS hAN hN0⟩ rfl rfl hl.1 rfl (lv_room (Nat.le_of_ble_eq_true rfl)) d_Reader_added_6 ⟨(by show 0 + 1 + (0) ≤ 2; omega), (by show 0 + 10 + (0) ≤ 17; omega)⟩) hS (fun q _ h => hFc q h) hFc (fun u t H1 locs ht hvm hw hB hz1 hk1 hS => ?_)
    obtain ⟨I3, T3, A3, O3, pl3, q3, s3, cq3, cs3⟩ := u
    dsimp only at hw hB
    rw [ht] at hB
    obtain ⟨hP, hD1, hac3⟩ := hB
    have hD : va_D Bq (y_W ad ar I3 T3 A3 O3 pl3) := hD1.weaken (fun _ q _ h => hFc q.1 h)
    generalize H1 = H at hP hS hac3 ⊢
    have hae3 := hac3
    try unfold y_ac at hae3
    try dsimp only at hae3
    refine W.widen (k := 0 + 1) (n := 0 + 10) (by omega) (by omega) ?_
    obtain ⟨e1, e2, e3, e4, hL⟩ := hw
    rw [e1, e2, e3, e4] at hP hD
    have hfp1 : y_L pl3 p1 = some (.inr (7, [.ref (z (3 + jj)), .null, .null, .null, .null, .null, .null, .ref (z 21), .int (-1), .int (-1)])) := by rw [hL]; exact y_Lu_s
    have hoth : ∀ b, b ≠ p1 → y_L pl3 b = y_L pl b := fun b n0 => by rw [hL, y_Lu_n n0]; exact hoth b n0
    clear hL
    have hP : va_P (dC, dI) y_cl (y_W ad ar I T A O pl3) H := hP
    have hD : va_D Bq (y_W ad ar I T A O pl3) := hD
    refine lv_astore_n (lv' := [(3, .ref p1), (0, .ref (ad 1)), (1, .ref (z (3 + jj))), (2, .null)]) hx hb d_Reader_added_9 rfl hl (by decide) rfl (fun ls hl => ?_)
    refine lv_aload_n hx hb d_Reader_added_10 rfl (lv_at hl 1 rfl) ?_
    refine lv_dup hx hb d_Reader_added_11 rfl ?_
    refine k_g (C := "ChannelMachine$Reader") (F := F_Reader) (N := 9) hx hb hts i_Reader hown hK hP 1 7 (by decide) (by decide) rfl (by decide) (d := (1, 6)) rfl (hts _ k_52) (fun _ h9 => h9) (v := .int (I 6)) rfl d_Reader_added_12 ?_
    refine lv_iconst (v := 1) hx hb d_Reader_added_15 (by decide) ?_
    refine lv_iadd hx hb d_Reader_added_16 ?_
    refine k_pi (C := "ChannelMachine$Reader") (F := F_Reader) (N := 9) hx hb hts i_Reader hown t_Reader t_Reader_ok n_Reader hK hP hD hS 1 7 (by decide) (by decide) rfl (by decide) (j := 6) (x := ((I 6) + 1)) rfl (hts _ k_52) (fun _ h9 => h9) rfl (by decide +kernel) d_Reader_added_17 (fun H locs hP hD hS => ?_)
    have hmi : y_RD (upd I 6 ((I 6) + 1)) A (ln, cl, lm, aa) := hmi.p6
    have hbn := hmi.2.1
    dsimp only at hbn
    refine lv_aload_nN hx hb d_Reader_added_20 rfl (lv_at hl 3 rfl) ?_
    refine lv_ifnonnullN hx hb d_Reader_added_21 ?_
    refine lv_aload_n hx hb d_Reader_added_24 rfl (lv_at hl 1 rfl) ?_
    refine lv_aload_n hx hb d_Reader_added_25 rfl (lv_at hl 0 rfl) ?_
    refine k_po (C := "ChannelMachine$Reader") (F := F_Reader) (N := 9) hx hb hts i_Reader hown t_Reader t_Reader_ok n_Reader hK hP hD hS 1 8 (by decide) (by decide) rfl (by decide) (j := 0) (x := (some p1)) (ty := (.object "ChannelMachine$Process")) rfl (hts _ k_54) (fun _ h9 => h9) rfl (by decide +kernel) rfl rfl d_Reader_added_26 (fun H locs hP hD hS => ?_)
    have hbn := hmi.2.1
    dsimp only at hbn
    refine lv_aload_n hx hb d_Reader_added_29 rfl (lv_at hl 0 rfl) ?_
    refine d_new (ci := 8) (fs := [.null, .null, .null, .int 0, .int 0, .int 0, .long 0]) (C := "ChannelMachine$Task") (F := F_Task) (N := 7) hx hb hts i_Task t_Task t_Task_ok hown (hts _ k_443) (hts _ k_444) (hts _ k_18) hK hP hD hS hA rfl (fun j hj => by rcases (show j = 0 ∨ j = 1 ∨ j = 2 ∨ j = 3 ∨ j = 4 ∨ j = 5 ∨ j = 6 by omega) with rfl | rfl | rfl | rfl | rfl | rfl | rfl <;> rfl) (by show 0 + 1 + 1 ≤ 2; omega) (by show 0 + 10 + 7 ≤ 17; omega) d_Reader_added_30 (fun t4 pl5 H hnot4 hL hP hD hS => ?_)
    have hne6_t4 : p1 ≠ t4 := fun h9 => by rw [h9, hnot4] at hfp1; cases hfp1
    have hzt4 : y_L pl t4 = none := by rw [← hoth t4 (Ne.symm hne6_t4)]; exact hnot4
    have hfp1 : y_L pl5 p1 = some (.inr (7, [.ref (z (3 + jj)), .null, .null, .null, .null, .null, .null, .ref (z 21), .int (-1), .int (-1)])) := by rw [hL, y_Lu_n hne6_t4]; exact hfp1
    have hft4 : y_L pl5 t4 = some (.inr (8, [.null, .null, .null, .int 0, .int 0, .int 0, .long 0])) := by rw [hL]; exact y_Lu_s
    have hoth : ∀ b, b ≠ p1 → b ≠ t4 → y_L pl5 b = y_L pl b := fun b n0 n1 => by rw [hL, y_Lu_n n1]; exact hoth b n0
    clear hL
    refine lv_dup hx hb d_Reader_added_33 rfl ?_
    refine lv_aload_n hx hb d_Reader_added_34 rfl (lv_at hl 0 rfl) ?_
    refine lv_null hx hb d_Reader_added_35 ?_
    have hFc := y_free hD hS hA
    refine va_callv (va_runI (As := [.ref p1, .null]) (rest := [.ref t4, .ref p1]) ⟨hx, hb, hml, hown, hts⟩ (c_T_init l dC dI ar N0 z ad (upd I 6 ((I 6) + 1)) T A (y_up O 0 (some p1)) pl5 t4 p1 none H.size (y_hs H) hft4) (cwI 2 hts (x_good k_447) rfl rfl rfl (hts _ k_18) (hts _ k_445) (hts _ k_446) rfl (by decide +kernel) ⟨Nat.le_of_ble_eq_true rfl, Nat.le_of_ble_eq_true rfl⟩) ⟨y_blind, fun U9 hU9 hW9 => y_pre hU9 hW9 hP hD hU hZ hS hAN hN0⟩ rfl rfl hl.1 rfl (lv_room (Nat.le_of_ble_eq_true rfl)) d_Reader_added_36 ⟨(by show 0 + 1 + 1 + (0) ≤ 2; omega), (by show 0 + 10 + 7 + (0) ≤ 17; omega)⟩) hS (fun q _ h => hFc q h) hFc (fun u t H1 locs ht hvm hw hB hz1 hk1 hS => ?_)
    obtain ⟨I7, T7, A7, O7, pl7, q7, s7, cq7, cs7⟩ := u
    dsimp only at hw hB
    rw [ht] at hB
    obtain ⟨hP, hD1, hac7⟩ := hB
    have hD : va_D Bq (y_W ad ar I7 T7 A7 O7 pl7) := hD1.weaken (fun _ q _ h => hFc q.1 h)
    generalize H1 = H at hP hS hac7 ⊢
    have hae7 := hac7
    try unfold y_ac at hae7
    try dsimp only at hae7
    refine W.widen (k := 0 + 1 + 1) (n := 0 + 10 + 7) (by omega) (by omega) ?_
    obtain ⟨e1, e2, e3, e4, hL⟩ := hw
    rw [e1, e2, e3, e4] at hP hD
    have hfp1 : y_L pl7 p1 = some (.inr (7, [.ref (z (3 + jj)), .null, .null, .null, .null, .null, .null, .ref (z 21), .int (-1), .int (-1)])) := by rw [hL, y_Lu_n hne6_t4]; exact hfp1
    have hft4 : y_L pl7 t4 = some (.inr (8, [.ref p1, .null, .ref p1, .int 0, .int 0, .int 0, .long 0])) := by rw [hL]; exact y_Lu_s
    have hoth : ∀ b, b ≠ p1 → b ≠ t4 → y_L pl7 b = y_L pl b := fun b n0 n1 => by rw [hL, y_Lu_n n1]; exact hoth b n0 n1
    clear hL
    have hP : va_P (dC, dI) y_cl (y_W ad ar (upd I 6 ((I 6) + 1)) T A (y_up O 0 (some p1)) pl7) H := hP
    have hD : va_D Bq (y_W ad ar (upd I 6 ((I 6) + 1)) T A (y_up O 0 (some p1)) pl7) := hD
    refine d_pN (C := "ChannelMachine$Process") (F := F_Process) (N := 10) hx hb hts i_Process hown t_Process t_Process_ok n_Process hK hP hD hS hfp1 5 rfl (by decide) (hU.1.2.1 _ kn_409) (fun _ h9 => h9) rfl (ty := (.object "ChannelMachine$Task")) (v := .ref t4) (by decide +kernel) rfl rfl (Nat.le_of_ble_eq_true rfl) d_Reader_added_39 (fun pl8 H locs hL hP hD hS => ?_)
    have hft4 : y_L pl8 t4 = some (.inr (8, [.ref p1, .null, .ref p1, .int 0, .int 0, .int 0, .long 0])) := by rw [hL, y_Lu_n (Ne.symm hne6_t4)]; exact hft4
    have hfp1 : y_L pl8 p1 = some (.inr (7, [.ref (z (3 + jj)), .null, .null, .null, .null, .ref t4, .null, .ref (z 21), .int (-1), .int (-1)])) := by rw [hL]; exact y_Lu_s
    have hoth : ∀ b, b ≠ p1 → b ≠ t4 → y_L pl8 b = y_L pl b := fun b n0 n1 => by rw [hL, y_Lu_n n0]; exact hoth b n0 n1
    clear hL
    refine lv_aload_n hx hb d_Reader_added_42 rfl (lv_at hl 0 rfl) ?_
    obtain ⟨G9, J9, C9, Gs9, S9, hd9, hx9, hc9, hg1, hg2, hg3, hg4, hg5, hg6⟩ := y_DX.add hdx (p := p1) (t := t4) (jj := jj) (nc := z 21) (par := none) (ch := -1) (va := -1) (f' := y_L pl8) hzp1 hj (Ne.symm hne6_t4) (Or.inr ⟨hzt4, none, hft4, (fun a ha => nomatch ha)⟩) hfp1 (fun P9 hP9 => nomatch hP9) (fun b h1 h2 h3 h4 => hoth b h1 (h2.elim id (fun e => by have := (hdx.un hzt4).2; omega)))
    refine y_know (fun hy91 hy92 hy93 hy94 => ?_)
    have hac9 : H.size ≤ s.heap.size + 2 ∧ y_hs H ≤ y_hs s.heap + 17 := ⟨by omega, by omega⟩
    refine W.widen (k := 2) (n := 17) (by omega) (by omega) ?_
    exact W.aret (v := .ref p1) hx hb hr (Or.inl ⟨_, rfl⟩) (Or.inr ⟨_, rfl⟩) (fun t ht hW => ⟨⟨(some p1), ((upd I 6 ((I 6) + 1)), T, A, (y_up O 0 (some p1)), pl8, (ln, cl, lm, aa)), rfl, ⟨hmi, rfl, rfl, rfl, fun k hk => y_up_n (hk.elim id (fun h9 => absurd rfl h9)), (m_fr.rf.up (by decide) _), p1, t4, G9, J9, C9, Gs9, S9, rfl, hzp1, hd9, hx9, hc9, ⟨hg1, hg2, hg3, hg4, hg5, hg6⟩, hfp1, fun _ => by show y_up O 0 (some p1) 0 = some p1; exact y_up_s⟩, (by dsimp only; rw [ht]; exact ⟨hP, hD, hac9⟩)⟩, hS.F ht⟩) hS.2.2 d_Reader_added_43
  · refine Met.ofW (cc := prog_8_method_16_code) (maxL := 5) (ret := (some (.object "ChannelMachine$Process"))) (by decide) rfl ?_
    intro p e s m args below meth c s₁ B hml hv
    obtain ⟨rfl, hsz, hN0, hP, hU, hZ, hD0, hw0⟩ := hv
    have hK := hU.2.1
    have hx := B.exec
    have hb := B.bytes
    have hr := B.returns
    have hts : ∀ w ∈ x_T, w.before ([.ref (ad 1), .ref (z (3 + jj)), va_rf (some P)] : List Value).toArray s = true := fun w h => atoms_spec (ws := (Jvm.Cond.code ({ cls := "ChannelMachine$Reader", name := "added", desc := "(LChannelMachine$Kind;LChannelMachine$Process;)LChannelMachine$Process;" } : Jvm.MethodName) prog_8_method_16_code (5 : Nat) (Option.some (Jvm.ClassFile.FieldType.object "ChannelMachine$Process"))) :: x_T) B.pre w (List.mem_cons_of_mem _ h)
    have hown : s.vm.findClass "ChannelMachine$Reader" = some m.cls := findClass_of_methodNamed B.named
    have hlocks := B.notSynchronized
    subst hsz
    subst hw0
    have hD := hD0.self (sz := s.heap.size)
    have hAN := x_AN hD0 hN0
    generalize hAe : va_A (y_W ad ar I T A O pl) s.heap.size = Bq at hD hAN ⊢
    have hA : ∀ q : Nat, s.heap.size ≤ q → Bq q := fun q h => by rw [← hAe]; exact Or.inr h
    have hS : va_S Bq s.heap s.heap [] := va_S.rf
    have hl := lv_entry ([.ref (ad 1), .ref (z (3 + jj)), va_rf (some P)]) (n := 5) (Nat.le_of_ble_eq_true rfl)
    rw [lg_entry_eq]
    generalize (lg_sl ([.ref (ad 1), .ref (z (3 + jj)), va_rf (some P)]) ++ List.replicate (5 - (lg_sl ([.ref (ad 1), .ref (z (3 + jj)), va_rf (some P)])).length) Slot.unset).toArray = ls at hl ⊢
    have hl : lv_has ls 5 [(0, .ref (ad 1)), (1, .ref (z (3 + jj))), (2, .ref P)] := hl
    have hbn := hmi.2.1
    dsimp only at hbn
    obtain ⟨hPG, h4⟩ := hpar P rfl
    obtain ⟨par1, nx1, tk1, co1, ch1, va1, hfP0, hpx⟩ := hdx.2.1 P hPG
    obtain ⟨t1, rfl, ht1⟩ := hpx.2.2.2.1
    rcases hcl : (C P).getLast? with _ | c
    · have hC0 : C P = [] := List.getLast?_eq_none_iff.mp hcl
      have hfP : y_L pl P = some (.inr (7, [.ref (z (3 + J P)), va_rf par1, va_rf (C P).head?, .null, va_rf nx1, .ref t1, va_rf (Gs P).head?, .ref co1, .int ch1, .int va1])) := by rw [hfP0]; unfold y_Pf; rw [hcl]; rfl
      refine d_new (ci := 7) (fs := [.null, .null, .null, .null, .null, .null, .null, .null, .int 0, .int 0]) (C := "ChannelMachine$Process") (F := F_Process) (N := 10) hx hb hts i_Process t_Process t_Process_ok hown (hts _ k_381) (hts _ k_382) (hts _ k_17) hK hP hD hS hA rfl (fun j hj => by rcases (show j = 0 ∨ j = 1 ∨ j = 2 ∨ j = 3 ∨ j = 4 ∨ j = 5 ∨ j = 6 ∨ j = 7 ∨ j = 8 ∨ j = 9 by omega) with rfl | rfl | rfl | rfl | rfl | rfl | rfl | rfl | rfl | rfl <;> rfl) (by show 0 + 1 ≤ 2; omega) (by show 0 + 10 ≤ 17; omega) d_Reader_added_0 (fun p9 pl10 H hnop9 hL hP hD hS => ?_)
      have hne11_p9 : P ≠ p9 := fun h9 => by rw [h9, hnop9] at hfP; cases hfP
      have hzp9 : y_L pl p9 = none := by exact hnop9
      have hfP : y_L pl10 P = some (.inr (7, [.ref (z (3 + J P)), va_rf par1, va_rf (C P).head?, .null, va_rf nx1, .ref t1, va_rf (Gs P).head?, .ref co1, .int ch1, .int va1])) := by rw [hL, y_Lu_n hne11_p9]; exact hfP
      have hfp9 : y_L pl10 p9 = some (.inr (7, [.null, .null, .null, .null, .null, .null, .null, .null, .int 0, .int 0])) := by rw [hL]; exact y_Lu_s
      have hoth : ∀ b, b ≠ p9 → y_L pl10 b = y_L pl b := fun b n0 => by rw [hL, y_Lu_n n0]
      clear hL
      refine lv_dup hx hb d_Reader_added_3 rfl ?_
      refine lv_aload_n hx hb d_Reader_added_4 rfl (lv_at hl 1 rfl) ?_
      refine lv_aload_n hx hb d_Reader_added_5 rfl (lv_at hl 2 rfl) ?_
      have hFc := y_free hD hS hA
      refine va_callv (va_runI (As := [.ref (z (3 + jj)), .ref P]) (rest := [.ref p9]) ⟨hx, hb, hml, hown, hts⟩ (c_P_init l dC dI ar N0 z ad I T A O pl10 p9 jj (some P) H.size (y_hs H) hfp9) (cwI 2 hts (x_good k_385) rfl rfl rfl (hts _ k_17) (hts _ k_383) (hts _ k_384) rfl (by decide +kernel) ⟨Nat.le_of_ble_eq_true rfl, Nat.le_of_ble_eq_true rfl⟩) ⟨y_blind, fun U9 hU9 hW9 => y_pre hU9 hW9 hP hD hU hZ hS hAN hN0⟩ rfl rfl hl.1 rfl (lv_room (Nat.le_of_ble_eq_true rfl)) d_Reader_added_6 ⟨(by show 0 + 1 + (0) ≤ 2; omega), (by show 0 + 10 + (0) ≤ 17; omega)⟩) hS (fun q _ h => hFc q h) hFc (fun u t H1 locs ht hvm hw hB hz1 hk1 hS => ?_)
      obtain ⟨I12, T12, A12, O12, pl12, q12, s12, cq12, cs12⟩ := u
      dsimp only at hw hB
      rw [ht] at hB
      obtain ⟨hP, hD1, hac12⟩ := hB
      have hD : va_D Bq (y_W ad ar I12 T12 A12 O12 pl12) := hD1.weaken (fun _ q _ h => hFc q.1 h)
      generalize H1 = H at hP hS hac12 ⊢
      have hae12 := hac12
      try unfold y_ac at hae12
      try dsimp only at hae12
      refine W.widen (k := 0 + 1) (n := 0 + 10) (by omega) (by omega) ?_
      obtain ⟨e1, e2, e3, e4, hL⟩ := hw
      rw [e1, e2, e3, e4] at hP hD
      have hfP : y_L pl12 P = some (.inr (7, [.ref (z (3 + J P)), va_rf par1, va_rf (C P).head?, .null, va_rf nx1, .ref t1, va_rf (Gs P).head?, .ref co1, .int ch1, .int va1])) := by rw [hL, y_Lu_n hne11_p9]; exact hfP
      have hfp9 : y_L pl12 p9 = some (.inr (7, [.ref (z (3 + jj)), .ref P, .null, .null, .null, .null, .null, .ref (z 21), .int (-1), .int (-1)])) := by rw [hL]; exact y_Lu_s
      have hoth : ∀ b, b ≠ p9 → y_L pl12 b = y_L pl b := fun b n0 => by rw [hL, y_Lu_n n0]; exact hoth b n0
      clear hL
      have hP : va_P (dC, dI) y_cl (y_W ad ar I T A O pl12) H := hP
      have hD : va_D Bq (y_W ad ar I T A O pl12) := hD
      refine lv_astore_n (lv' := [(3, .ref p9), (0, .ref (ad 1)), (1, .ref (z (3 + jj))), (2, .ref P)]) hx hb d_Reader_added_9 rfl hl (by decide) rfl (fun ls hl => ?_)
      refine lv_aload_n hx hb d_Reader_added_10 rfl (lv_at hl 1 rfl) ?_
      refine lv_dup hx hb d_Reader_added_11 rfl ?_
      refine k_g (C := "ChannelMachine$Reader") (F := F_Reader) (N := 9) hx hb hts i_Reader hown hK hP 1 7 (by decide) (by decide) rfl (by decide) (d := (1, 6)) rfl (hts _ k_52) (fun _ h9 => h9) (v := .int (I 6)) rfl d_Reader_added_12 ?_
      refine lv_iconst (v := 1) hx hb d_Reader_added_15 (by decide) ?_
      refine lv_iadd hx hb d_Reader_added_16 ?_
      refine k_pi (C := "ChannelMachine$Reader") (F := F_Reader) (N := 9) hx hb hts i_Reader hown t_Reader t_Reader_ok n_Reader hK hP hD hS 1 7 (by decide) (by decide) rfl (by decide) (j := 6) (x := ((I 6) + 1)) rfl (hts _ k_52) (fun _ h9 => h9) rfl (by decide +kernel) d_Reader_added_17 (fun H locs hP hD hS => ?_)
      have hmi : y_RD (upd I 6 ((I 6) + 1)) A (ln, cl, lm, aa) := hmi.p6
      have hbn := hmi.2.1
      dsimp only at hbn
      refine lv_aload_n hx hb d_Reader_added_20 rfl (lv_at hl 3 rfl) ?_
      refine lv_ifnonnull (tgt := 44) hx hb d_Reader_added_21 (by decide) ?_
      refine lv_aload_n hx hb d_Reader_added_44 rfl (lv_at hl 3 rfl) ?_
      refine d_gN (C := "ChannelMachine$Process") (F := F_Process) (N := 10) hx hb hts i_Process hown hK hP hfP 0 rfl (by decide) (hU.1.2.1 _ kn_392) (fun _ h9 => h9) (v := .ref (z (3 + J P))) rfl d_Reader_added_45 ?_
      refine va_gets hx hb ((hZ.2.1.1 6 (by decide)).1.narrow hAN) hS hown (hts _ k_355) (fun _ h9 => h9) d_Reader_added_48 ?_
      refine lv_acmp_ne (rx := (some ((z (3 + J P))))) (ry := (some ((z (3 + 6))))) (tgt := 58) hx hb d_Reader_added_51 (by decide) (fun h_13 => ?_) (fun h_13 => ?_)
      · refine lv_iconst (v := 0) hx hb d_Reader_added_58 (by decide) ?_
        refine lv_istore (lv' := [(4, .int 0), (3, .ref p9), (0, .ref (ad 1)), (1, .ref (z (3 + jj))), (2, .ref P)]) hx hb d_Reader_added_59 hl (by decide) rfl (fun ls hl => ?_)
        refine lv_aload_n hx hb d_Reader_added_61 rfl (lv_at hl 1 rfl) ?_
        refine lv_iload hx hb d_Reader_added_62 (lv_at hl 0 rfl) ?_
        refine lv_if_eq (tgt := 82) hx hb d_Reader_added_64 (by decide) (fun _ => ?_) (fun c14 => absurd (by decide) c14)
        refine lv_aload_n hx hb d_Reader_added_82 rfl (lv_at hl 4 rfl) ?_
        refine d_gN (C := "ChannelMachine$Process") (F := F_Process) (N := 10) hx hb hts i_Process hown hK hP hfP 5 rfl (by decide) (hU.1.2.1 _ kn_409) (fun _ h9 => h9) (v := .ref t1) rfl d_Reader_added_83 ?_
        refine d_pN (C := "ChannelMachine$Process") (F := F_Process) (N := 10) hx hb hts i_Process hown t_Process t_Process_ok n_Process hK hP hD hS hfp9 5 rfl (by decide) (hU.1.2.1 _ kn_409) (fun _ h9 => h9) rfl (ty := (.object "ChannelMachine$Task")) (v := .ref t1) (by decide +kernel) rfl rfl (Nat.le_of_ble_eq_true rfl) d_Reader_added_86 (fun pl15 H locs hL hP hD hS => ?_)
        have hfP : y_L pl15 P = some (.inr (7, [.ref (z (3 + J P)), va_rf par1, va_rf (C P).head?, .null, va_rf nx1, .ref t1, va_rf (Gs P).head?, .ref co1, .int ch1, .int va1])) := by rw [hL, y_Lu_n hne11_p9]; exact hfP
        have hfp9 : y_L pl15 p9 = some (.inr (7, [.ref (z (3 + jj)), .ref P, .null, .null, .null, .ref t1, .null, .ref (z 21), .int (-1), .int (-1)])) := by rw [hL]; exact y_Lu_s
        have hoth : ∀ b, b ≠ p9 → y_L pl15 b = y_L pl b := fun b n0 => by rw [hL, y_Lu_n n0]; exact hoth b n0
        clear hL
        refine lv_aload_n hx hb d_Reader_added_89 rfl (lv_at hl 4 rfl) ?_
        refine d_gN (C := "ChannelMachine$Process") (F := F_Process) (N := 10) hx hb hts i_Process hown hK hP hfP 3 rfl (by decide) (hU.1.2.1 _ kn_401) (fun _ h9 => h9) (v := .null) rfl d_Reader_added_90 ?_
        refine lv_ifnonnullN hx hb d_Reader_added_93 ?_
        refine lv_aload_n hx hb d_Reader_added_96 rfl (lv_at hl 4 rfl) ?_
        refine lv_aload_n hx hb d_Reader_added_97 rfl (lv_at hl 1 rfl) ?_
        refine d_pN (C := "ChannelMachine$Process") (F := F_Process) (N := 10) hx hb hts i_Process hown t_Process t_Process_ok n_Process hK hP hD hS hfP 2 rfl (by decide) (hU.1.2.1 _ kn_398) (fun _ h9 => h9) rfl (ty := (.object "ChannelMachine$Process")) (v := .ref p9) (by decide +kernel) rfl rfl (Nat.le_of_ble_eq_true rfl) d_Reader_added_98 (fun pl16 H locs hL hP hD hS => ?_)
        have hfp9 : y_L pl16 p9 = some (.inr (7, [.ref (z (3 + jj)), .ref P, .null, .null, .null, .ref t1, .null, .ref (z 21), .int (-1), .int (-1)])) := by rw [hL, y_Lu_n (Ne.symm hne11_p9)]; exact hfp9
        have hfP : y_L pl16 P = some (.inr (7, [.ref (z (3 + J P)), va_rf par1, .ref p9, .null, va_rf nx1, .ref t1, va_rf (Gs P).head?, .ref co1, .int ch1, .int va1])) := by rw [hL]; exact y_Lu_s
        have hoth : ∀ b, b ≠ p9 → b ≠ P → y_L pl16 b = y_L pl b := fun b n0 n1 => by rw [hL, y_Lu_n n1]; exact hoth b n0
        clear hL
        refine lv_goto (tgt := 112) hx hb d_Reader_added_101 (by decide) ?_
        refine lv_aload_n hx hb d_Reader_added_112 rfl (lv_at hl 4 rfl) ?_
        refine lv_aload_n hx hb d_Reader_added_113 rfl (lv_at hl 1 rfl) ?_
        refine d_pN (C := "ChannelMachine$Process") (F := F_Process) (N := 10) hx hb hts i_Process hown t_Process t_Process_ok n_Process hK hP hD hS hfP 3 rfl (by decide) (hU.1.2.1 _ kn_401) (fun _ h9 => h9) rfl (ty := (.object "ChannelMachine$Process")) (v := .ref p9) (by decide +kernel) rfl rfl (Nat.le_of_ble_eq_true rfl) d_Reader_added_114 (fun pl17 H locs hL hP hD hS => ?_)
        have hfp9 : y_L pl17 p9 = some (.inr (7, [.ref (z (3 + jj)), .ref P, .null, .null, .null, .ref t1, .null, .ref (z 21), .int (-1), .int (-1)])) := by rw [hL, y_Lu_n (Ne.symm hne11_p9)]; exact hfp9
        have hfP : y_L pl17 P = some (.inr (7, [.ref (z (3 + J P)), va_rf par1, .ref p9, .ref p9, va_rf nx1, .ref t1, va_rf (Gs P).head?, .ref co1, .int ch1, .int va1])) := by rw [hL]; exact y_Lu_s
        have hoth : ∀ b, b ≠ p9 → b ≠ P → y_L pl17 b = y_L pl b := fun b n0 n1 => by rw [hL, y_Lu_n n1]; exact hoth b n0 n1
        clear hL
        refine lv_aload_n hx hb d_Reader_added_117 rfl (lv_at hl 1 rfl) ?_
        have hne1 : t1 ≠ p9 := fun e => by have := (hdx.un hzp9).2; rw [← e] at this; omega
        obtain ⟨G9, J9, C9, Gs9, S9, hd9, hx9, hc9, hg1, hg2, hg3, hg4, hg5, hg6⟩ := y_DX.add hdx (p := p9) (t := t1) (jj := jj) (nc := z 21) (par := some P) (ch := -1) (va := -1) (f' := y_L pl17) hzp9 hj hne1 (Or.inl ht1) hfp9 (fun P9 hP9 => by cases hP9; exact ⟨hPG, h4, ⟨par1, nx1, some t1, co1, ch1, va1, hfP0, by rw [hfP, hC0]; rfl⟩, fun c9 hc9 => by rw [hcl] at hc9; cases hc9⟩) (fun b h1 h2 h3 h4 => hoth b h1 (fun e => h3 (by rw [e])))
        refine y_know (fun hy91 hy92 hy93 hy94 => ?_)
        have hac9 : H.size ≤ s.heap.size + 2 ∧ y_hs H ≤ y_hs s.heap + 17 := ⟨by omega, by omega⟩
        refine W.widen (k := 2) (n := 17) (by omega) (by omega) ?_
        exact W.aret (v := .ref p9) hx hb hr (Or.inl ⟨_, rfl⟩) (Or.inr ⟨_, rfl⟩) (fun t ht hW => ⟨⟨(some p9), ((upd I 6 ((I 6) + 1)), T, A, O, pl17, (ln, cl, lm, aa)), rfl, ⟨hmi, rfl, rfl, rfl, fun k hk => rfl, (m_fr.rf.up (by decide) _), p9, t1, G9, J9, C9, Gs9, S9, rfl, hzp9, hd9, hx9, hc9, ⟨hg1, hg2, hg3, hg4, hg5, hg6⟩, hfp9, (fun h9 => nomatch h9)⟩, (by dsimp only; rw [ht]; exact ⟨hP, hD, hac9⟩)⟩, hS.F ht⟩) hS.2.2 d_Reader_added_118
      · refine lv_iconst (v := 1) hx hb d_Reader_added_54 (by decide) ?_
        refine lv_goto (tgt := 59) hx hb d_Reader_added_55 (by decide) ?_
        refine lv_istore (lv' := [(4, .int 1), (3, .ref p9), (0, .ref (ad 1)), (1, .ref (z (3 + jj))), (2, .ref P)]) hx hb d_Reader_added_59 hl (by decide) rfl (fun ls hl => ?_)
        refine lv_aload_n hx hb d_Reader_added_61 rfl (lv_at hl 1 rfl) ?_
        refine lv_iload hx hb d_Reader_added_62 (lv_at hl 0 rfl) ?_
        refine lv_if_eq (tgt := 82) hx hb d_Reader_added_64 (by decide) (fun c18 => absurd c18 (by decide)) (fun _ => ?_)
        refine d_new (ci := 8) (fs := [.null, .null, .null, .int 0, .int 0, .int 0, .long 0]) (C := "ChannelMachine$Task") (F := F_Task) (N := 7) hx hb hts i_Task t_Task t_Task_ok hown (hts _ k_443) (hts _ k_444) (hts _ k_18) hK hP hD hS hA rfl (fun j hj => by rcases (show j = 0 ∨ j = 1 ∨ j = 2 ∨ j = 3 ∨ j = 4 ∨ j = 5 ∨ j = 6 by omega) with rfl | rfl | rfl | rfl | rfl | rfl | rfl <;> rfl) (by show 0 + 1 + 1 ≤ 2; omega) (by show 0 + 10 + 7 ≤ 17; omega) d_Reader_added_67 (fun t19 pl20 H hnot19 hL hP hD hS => ?_)
        have hne21_t19 : P ≠ t19 := fun h9 => by rw [h9, hnot19] at hfP; cases hfP
        have hne22_t19 : p9 ≠ t19 := fun h9 => by rw [h9, hnot19] at hfp9; cases hfp9
        have hzt19 : y_L pl t19 = none := by rw [← hoth t19 (Ne.symm hne22_t19)]; exact hnot19
        have hfP : y_L pl20 P = some (.inr (7, [.ref (z (3 + J P)), va_rf par1, va_rf (C P).head?, .null, va_rf nx1, .ref t1, va_rf (Gs P).head?, .ref co1, .int ch1, .int va1])) := by rw [hL, y_Lu_n hne21_t19]; exact hfP
        have hfp9 : y_L pl20 p9 = some (.inr (7, [.ref (z (3 + jj)), .ref P, .null, .null, .null, .null, .null, .ref (z 21), .int (-1), .int (-1)])) := by rw [hL, y_Lu_n hne22_t19]; exact hfp9
        have hft19 : y_L pl20 t19 = some (.inr (8, [.null, .null, .null, .int 0, .int 0, .int 0, .long 0])) := by rw [hL]; exact y_Lu_s
        have hoth : ∀ b, b ≠ p9 → b ≠ t19 → y_L pl20 b = y_L pl b := fun b n0 n1 => by rw [hL, y_Lu_n n1]; exact hoth b n0
        clear hL
        refine lv_dup hx hb d_Reader_added_70 rfl ?_
        refine lv_aload_n hx hb d_Reader_added_71 rfl (lv_at hl 1 rfl) ?_
        refine lv_aload_n hx hb d_Reader_added_72 rfl (lv_at hl 4 rfl) ?_
        refine d_gN (C := "ChannelMachine$Process") (F := F_Process) (N := 10) hx hb hts i_Process hown hK hP hfP 5 rfl (by decide) (hU.1.2.1 _ kn_409) (fun _ h9 => h9) (v := .ref t1) rfl d_Reader_added_73 ?_
        have hFc := y_free hD hS hA
        refine va_callv (va_runI (As := [.ref p9, .ref t1]) (rest := [.ref t19, .ref p9]) ⟨hx, hb, hml, hown, hts⟩ (c_T_init l dC dI ar N0 z ad (upd I 6 ((I 6) + 1)) T A O pl20 t19 p9 (some t1) H.size (y_hs H) hft19) (cwI 2 hts (x_good k_447) rfl rfl rfl (hts _ k_18) (hts _ k_445) (hts _ k_446) rfl (by decide +kernel) ⟨Nat.le_of_ble_eq_true rfl, Nat.le_of_ble_eq_true rfl⟩) ⟨y_blind, fun U9 hU9 hW9 => y_pre hU9 hW9 hP hD hU hZ hS hAN hN0⟩ rfl rfl hl.1 rfl (lv_room (Nat.le_of_ble_eq_true rfl)) d_Reader_added_76 ⟨(by show 0 + 1 + 1 + (0) ≤ 2; omega), (by show 0 + 10 + 7 + (0) ≤ 17; omega)⟩) hS (fun q _ h => hFc q h) hFc (fun u t H1 locs ht hvm hw hB hz1 hk1 hS => ?_)
        obtain ⟨I23, T23, A23, O23, pl23, q23, s23, cq23, cs23⟩ := u
        dsimp only at hw hB
        rw [ht] at hB
        obtain ⟨hP, hD1, hac23⟩ := hB
        have hD : va_D Bq (y_W ad ar I23 T23 A23 O23 pl23) := hD1.weaken (fun _ q _ h => hFc q.1 h)
        generalize H1 = H at hP hS hac23 ⊢
        have hae23 := hac23
        try unfold y_ac at hae23
        try dsimp only at hae23
        refine W.widen (k := 0 + 1 + 1) (n := 0 + 10 + 7) (by omega) (by omega) ?_
        obtain ⟨e1, e2, e3, e4, hL⟩ := hw
        rw [e1, e2, e3, e4] at hP hD
        have hfP : y_L pl23 P = some (.inr (7, [.ref (z (3 + J P)), va_rf par1, va_rf (C P).head?, .null, va_rf nx1, .ref t1, va_rf (Gs P).head?, .ref co1, .int ch1, .int va1])) := by rw [hL, y_Lu_n hne21_t19]; exact hfP
        have hfp9 : y_L pl23 p9 = some (.inr (7, [.ref (z (3 + jj)), .ref P, .null, .null, .null, .null, .null, .ref (z 21), .int (-1), .int (-1)])) := by rw [hL, y_Lu_n hne22_t19]; exact hfp9
        have hft19 : y_L pl23 t19 = some (.inr (8, [.ref p9, .ref t1, .ref p9, .int 0, .int 0, .int 0, .long 0])) := by rw [hL]; exact y_Lu_s
        have hoth : ∀ b, b ≠ p9 → b ≠ t19 → y_L pl23 b = y_L pl b := fun b n0 n1 => by rw [hL, y_Lu_n n1]; exact hoth b n0 n1
        clear hL
        have hP : va_P (dC, dI) y_cl (y_W ad ar (upd I 6 ((I 6) + 1)) T A O pl23) H := hP
        have hD : va_D Bq (y_W ad ar (upd I 6 ((I 6) + 1)) T A O pl23) := hD
        refine lv_goto (tgt := 86) hx hb d_Reader_added_79 (by decide) ?_
        refine d_pN (C := "ChannelMachine$Process") (F := F_Process) (N := 10) hx hb hts i_Process hown t_Process t_Process_ok n_Process hK hP hD hS hfp9 5 rfl (by decide) (hU.1.2.1 _ kn_409) (fun _ h9 => h9) rfl (ty := (.object "ChannelMachine$Task")) (v := .ref t19) (by decide +kernel) rfl rfl (Nat.le_of_ble_eq_true rfl) d_Reader_added_86 (fun pl24 H locs hL hP hD hS => ?_)
        have hfP : y_L pl24 P = some (.inr (7, [.ref (z (3 + J P)), va_rf par1, va_rf (C P).head?, .null, va_rf nx1, .ref t1, va_rf (Gs P).head?, .ref co1, .int ch1, .int va1])) := by rw [hL, y_Lu_n hne11_p9]; exact hfP
        have hft19 : y_L pl24 t19 = some (.inr (8, [.ref p9, .ref t1, .ref p9, .int 0, .int 0, .int 0, .long 0])) := by rw [hL, y_Lu_n (Ne.symm hne22_t19)]; exact hft19
        have hfp9 : y_L pl24 p9 = some (.inr (7, [.ref (z (3 + jj)), .ref P, .null, .null, .null, .ref t19, .null, .ref (z 21), .int (-1), .int (-1)])) := by rw [hL]; exact y_Lu_s
        have hoth : ∀ b, b ≠ p9 → b ≠ t19 → y_L pl24 b = y_L pl b := fun b n0 n1 => by rw [hL, y_Lu_n n0]; exact hoth b n0 n1
        clear hL
        refine lv_aload_n hx hb d_Reader_added_89 rfl (lv_at hl 4 rfl) ?_
        refine d_gN (C := "ChannelMachine$Process") (F := F_Process) (N := 10) hx hb hts i_Process hown hK hP hfP 3 rfl (by decide) (hU.1.2.1 _ kn_401) (fun _ h9 => h9) (v := .null) rfl d_Reader_added_90 ?_
        refine lv_ifnonnullN hx hb d_Reader_added_93 ?_
        refine lv_aload_n hx hb d_Reader_added_96 rfl (lv_at hl 4 rfl) ?_
        refine lv_aload_n hx hb d_Reader_added_97 rfl (lv_at hl 1 rfl) ?_
        refine d_pN (C := "ChannelMachine$Process") (F := F_Process) (N := 10) hx hb hts i_Process hown t_Process t_Process_ok n_Process hK hP hD hS hfP 2 rfl (by decide) (hU.1.2.1 _ kn_398) (fun _ h9 => h9) rfl (ty := (.object "ChannelMachine$Process")) (v := .ref p9) (by decide +kernel) rfl rfl (Nat.le_of_ble_eq_true rfl) d_Reader_added_98 (fun pl25 H locs hL hP hD hS => ?_)
        have hfp9 : y_L pl25 p9 = some (.inr (7, [.ref (z (3 + jj)), .ref P, .null, .null, .null, .ref t19, .null, .ref (z 21), .int (-1), .int (-1)])) := by rw [hL, y_Lu_n (Ne.symm hne11_p9)]; exact hfp9
        have hft19 : y_L pl25 t19 = some (.inr (8, [.ref p9, .ref t1, .ref p9, .int 0, .int 0, .int 0, .long 0])) := by rw [hL, y_Lu_n (Ne.symm hne21_t19)]; exact hft19
        have hfP : y_L pl25 P = some (.inr (7, [.ref (z (3 + J P)), va_rf par1, .ref p9, .null, va_rf nx1, .ref t1, va_rf (Gs P).head?, .ref co1, .int ch1, .int va1])) := by rw [hL]; exact y_Lu_s
        have hoth : ∀ b, b ≠ p9 → b ≠ t19 → b ≠ P → y_L pl25 b = y_L pl b := fun b n0 n1 n2 => by rw [hL, y_Lu_n n2]; exact hoth b n0 n1
        clear hL
        refine lv_goto (tgt := 112) hx hb d_Reader_added_101 (by decide) ?_
        refine lv_aload_n hx hb d_Reader_added_112 rfl (lv_at hl 4 rfl) ?_
        refine lv_aload_n hx hb d_Reader_added_113 rfl (lv_at hl 1 rfl) ?_
        refine d_pN (C := "ChannelMachine$Process") (F := F_Process) (N := 10) hx hb hts i_Process hown t_Process t_Process_ok n_Process hK hP hD hS hfP 3 rfl (by decide) (hU.1.2.1 _ kn_401) (fun _ h9 => h9) rfl (ty := (.object "ChannelMachine$Process")) (v := .ref p9) (by decide +kernel) rfl rfl (Nat.le_of_ble_eq_true rfl) d_Reader_added_114 (fun pl26 H locs hL hP hD hS => ?_)
        have hfp9 : y_L pl26 p9 = some (.inr (7, [.ref (z (3 + jj)), .ref P, .null, .null, .null, .ref t19, .null, .ref (z 21), .int (-1), .int (-1)])) := by rw [hL, y_Lu_n (Ne.symm hne11_p9)]; exact hfp9
        have hft19 : y_L pl26 t19 = some (.inr (8, [.ref p9, .ref t1, .ref p9, .int 0, .int 0, .int 0, .long 0])) := by rw [hL, y_Lu_n (Ne.symm hne21_t19)]; exact hft19
        have hfP : y_L pl26 P = some (.inr (7, [.ref (z (3 + J P)), va_rf par1, .ref p9, .ref p9, va_rf nx1, .ref t1, va_rf (Gs P).head?, .ref co1, .int ch1, .int va1])) := by rw [hL]; exact y_Lu_s
        have hoth : ∀ b, b ≠ p9 → b ≠ t19 → b ≠ P → y_L pl26 b = y_L pl b := fun b n0 n1 n2 => by rw [hL, y_Lu_n n2]; exact hoth b n0 n1 n2
        clear hL
        refine lv_aload_n hx hb d_Reader_added_117 rfl (lv_at hl 1 rfl) ?_
        obtain ⟨G9, J9, C9, Gs9, S9, hd9, hx9, hc9, hg1, hg2, hg3, hg4, hg5, hg6⟩ := y_DX.add hdx (p := p9) (t := t19) (jj := jj) (nc := z 21) (par := some P) (ch := -1) (va := -1) (f' := y_L pl26) hzp9 hj (Ne.symm hne22_t19) (Or.inr ⟨hzt19, some t1, hft19, fun a ha => by cases ha; exact ht1⟩) hfp9 (fun P9 hP9 => by cases hP9; exact ⟨hPG, h4, ⟨par1, nx1, some t1, co1, ch1, va1, hfP0, by rw [hfP, hC0]; rfl⟩, fun c9 hc9 => by rw [hcl] at hc9; cases hc9⟩) (fun b h1 h2 h3 h4 => hoth b h1 (h2.elim id (fun e => by have := (hdx.un hzt19).2; omega)) (fun e => h3 (by rw [e])))
        refine y_know (fun hy91 hy92 hy93 hy94 => ?_)
        have hac9 : H.size ≤ s.heap.size + 2 ∧ y_hs H ≤ y_hs s.heap + 17 := ⟨by omega, by omega⟩
        refine W.widen (k := 2) (n := 17) (by omega) (by omega) ?_
        exact W.aret (v := .ref p9) hx hb hr (Or.inl ⟨_, rfl⟩) (Or.inr ⟨_, rfl⟩) (fun t ht hW => ⟨⟨(some p9), ((upd I 6 ((I 6) + 1)), T, A, O, pl26, (ln, cl, lm, aa)), rfl, ⟨hmi, rfl, rfl, rfl, fun k hk => rfl, (m_fr.rf.up (by decide) _), p9, t19, G9, J9, C9, Gs9, S9, rfl, hzp9, hd9, hx9, hc9, ⟨hg1, hg2, hg3, hg4, hg5, hg6⟩, hfp9, (fun h9 => nomatch h9)⟩, (by dsimp only; rw [ht]; exact ⟨hP, hD, hac9⟩)⟩, hS.F ht⟩) hS.2.2 d_Reader_added_118
    · have hfP : y_L pl P = some (.inr (7, [.ref (z (3 + J P)), va_rf par1, va_rf (C P).head?, .ref c, va_rf nx1, .ref t1, va_rf (Gs P).head?, .ref co1, .int ch1, .int va1])) := by rw [hfP0]; unfold y_Pf; rw [hcl]; rfl
      obtain ⟨hc7, hcP, parc, tkc, coc, chc, vac, hfc0⟩ := hdx.last hPG hcl
      have hfc : y_L pl c = some (.inr (7, [.ref (z (3 + J c)), va_rf parc, va_rf (C c).head?, va_rf (C c).getLast?, .null, va_rf tkc, va_rf (Gs c).head?, .ref coc, .int chc, .int vac])) := hfc0
      refine d_new (ci := 7) (fs := [.null, .null, .null, .null, .null, .null, .null, .null, .int 0, .int 0]) (C := "ChannelMachine$Process") (F := F_Process) (N := 10) hx hb hts i_Process t_Process t_Process_ok hown (hts _ k_381) (hts _ k_382) (hts _ k_17) hK hP hD hS hA rfl (fun j hj => by rcases (show j = 0 ∨ j = 1 ∨ j = 2 ∨ j = 3 ∨ j = 4 ∨ j = 5 ∨ j = 6 ∨ j = 7 ∨ j = 8 ∨ j = 9 by omega) with rfl | rfl | rfl | rfl | rfl | rfl | rfl | rfl | rfl | rfl <;> rfl) (by show 0 + 1 ≤ 2; omega) (by show 0 + 10 ≤ 17; omega) d_Reader_added_0 (fun p27 pl28 H hnop27 hL hP hD hS => ?_)
      have hne29_p27 : P ≠ p27 := fun h9 => by rw [h9, hnop27] at hfP; cases hfP
      have hne30_p27 : c ≠ p27 := fun h9 => by rw [h9, hnop27] at hfc; cases hfc
      have hzp27 : y_L pl p27 = none := by exact hnop27
      have hfP : y_L pl28 P = some (.inr (7, [.ref (z (3 + J P)), va_rf par1, va_rf (C P).head?, .ref c, va_rf nx1, .ref t1, va_rf (Gs P).head?, .ref co1, .int ch1, .int va1])) := by rw [hL, y_Lu_n hne29_p27]; exact hfP
      have hfc : y_L pl28 c = some (.inr (7, [.ref (z (3 + J c)), va_rf parc, va_rf (C c).head?, va_rf (C c).getLast?, .null, va_rf tkc, va_rf (Gs c).head?, .ref coc, .int chc, .int vac])) := by rw [hL, y_Lu_n hne30_p27]; exact hfc
      have hfp27 : y_L pl28 p27 = some (.inr (7, [.null, .null, .null, .null, .null, .null, .null, .null, .int 0, .int 0])) := by rw [hL]; exact y_Lu_s
      have hoth : ∀ b, b ≠ p27 → y_L pl28 b = y_L pl b := fun b n0 => by rw [hL, y_Lu_n n0]
      clear hL
      refine lv_dup hx hb d_Reader_added_3 rfl ?_
      refine lv_aload_n hx hb d_Reader_added_4 rfl (lv_at hl 1 rfl) ?_
      refine lv_aload_n hx hb d_Reader_added_5 rfl (lv_at hl 2 rfl) ?_
      have hFc := y_free hD hS hA
      refine va_callv (va_runI (As := [.ref (z (3 + jj)), .ref P]) (rest := [.ref p27]) ⟨hx, hb, hml, hown, hts⟩ (c_P_init l dC dI ar N0 z ad I T A O pl28 p27 jj (some P) H.size (y_hs H) hfp27) (cwI 2 hts (x_good k_385) rfl rfl rfl (hts _ k_17) (hts _ k_383) (hts _ k_384) rfl (by decide +kernel) ⟨Nat.le_of_ble_eq_true rfl, Nat.le_of_ble_eq_true rfl⟩) ⟨y_blind, fun U9 hU9 hW9 => y_pre hU9 hW9 hP hD hU hZ hS hAN hN0⟩ rfl rfl hl.1 rfl (lv_room (Nat.le_of_ble_eq_true rfl)) d_Reader_added_6 ⟨(by show 0 + 1 + (0) ≤ 2; omega), (by show 0 + 10 + (0) ≤ 17; omega)⟩) hS (fun q _ h => hFc q h) hFc (fun u t H1 locs ht hvm hw hB hz1 hk1 hS => ?_)
      obtain ⟨I31, T31, A31, O31, pl31, q31, s31, cq31, cs31⟩ := u
      dsimp only at hw hB
      rw [ht] at hB
      obtain ⟨hP, hD1, hac31⟩ := hB
      have hD : va_D Bq (y_W ad ar I31 T31 A31 O31 pl31) := hD1.weaken (fun _ q _ h => hFc q.1 h)
      generalize H1 = H at hP hS hac31 ⊢
      have hae31 := hac31
      try unfold y_ac at hae31
      try dsimp only at hae31
      refine W.widen (k := 0 + 1) (n := 0 + 10) (by omega) (by omega) ?_
      obtain ⟨e1, e2, e3, e4, hL⟩ := hw
      rw [e1, e2, e3, e4] at hP hD
      have hfP : y_L pl31 P = some (.inr (7, [.ref (z (3 + J P)), va_rf par1, va_rf (C P).head?, .ref c, va_rf nx1, .ref t1, va_rf (Gs P).head?, .ref co1, .int ch1, .int va1])) := by rw [hL, y_Lu_n hne29_p27]; exact hfP
      have hfc : y_L pl31 c = some (.inr (7, [.ref (z (3 + J c)), va_rf parc, va_rf (C c).head?, va_rf (C c).getLast?, .null, va_rf tkc, va_rf (Gs c).head?, .ref coc, .int chc, .int vac])) := by rw [hL, y_Lu_n hne30_p27]; exact hfc
      have hfp27 : y_L pl31 p27 = some (.inr (7, [.ref (z (3 + jj)), .ref P, .null, .null, .null, .null, .null, .ref (z 21), .int (-1), .int (-1)])) := by rw [hL]; exact y_Lu_s
      have hoth : ∀ b, b ≠ p27 → y_L pl31 b = y_L pl b := fun b n0 => by rw [hL, y_Lu_n n0]; exact hoth b n0
      clear hL
      have hP : va_P (dC, dI) y_cl (y_W ad ar I T A O pl31) H := hP
      have hD : va_D Bq (y_W ad ar I T A O pl31) := hD
      refine lv_astore_n (lv' := [(3, .ref p27), (0, .ref (ad 1)), (1, .ref (z (3 + jj))), (2, .ref P)]) hx hb d_Reader_added_9 rfl hl (by decide) rfl (fun ls hl => ?_)
      refine lv_aload_n hx hb d_Reader_added_10 rfl (lv_at hl 1 rfl) ?_
      refine lv_dup hx hb d_Reader_added_11 rfl ?_
      refine k_g (C := "ChannelMachine$Reader") (F := F_Reader) (N := 9) hx hb hts i_Reader hown hK hP 1 7 (by decide) (by decide) rfl (by decide) (d := (1, 6)) rfl (hts _ k_52) (fun _ h9 => h9) (v := .int (I 6)) rfl d_Reader_added_12 ?_
      refine lv_iconst (v := 1) hx hb d_Reader_added_15 (by decide) ?_
      refine lv_iadd hx hb d_Reader_added_16 ?_
      refine k_pi (C := "ChannelMachine$Reader") (F := F_Reader) (N := 9) hx hb hts i_Reader hown t_Reader t_Reader_ok n_Reader hK hP hD hS 1 7 (by decide) (by decide) rfl (by decide) (j := 6) (x := ((I 6) + 1)) rfl (hts _ k_52) (fun _ h9 => h9) rfl (by decide +kernel) d_Reader_added_17 (fun H locs hP hD hS => ?_)
      have hmi : y_RD (upd I 6 ((I 6) + 1)) A (ln, cl, lm, aa) := hmi.p6
      have hbn := hmi.2.1
      dsimp only at hbn
      refine lv_aload_n hx hb d_Reader_added_20 rfl (lv_at hl 3 rfl) ?_
      refine lv_ifnonnull (tgt := 44) hx hb d_Reader_added_21 (by decide) ?_
      refine lv_aload_n hx hb d_Reader_added_44 rfl (lv_at hl 3 rfl) ?_
      refine d_gN (C := "ChannelMachine$Process") (F := F_Process) (N := 10) hx hb hts i_Process hown hK hP hfP 0 rfl (by decide) (hU.1.2.1 _ kn_392) (fun _ h9 => h9) (v := .ref (z (3 + J P))) rfl d_Reader_added_45 ?_
      refine va_gets hx hb ((hZ.2.1.1 6 (by decide)).1.narrow hAN) hS hown (hts _ k_355) (fun _ h9 => h9) d_Reader_added_48 ?_
      refine lv_acmp_ne (rx := (some ((z (3 + J P))))) (ry := (some ((z (3 + 6))))) (tgt := 58) hx hb d_Reader_added_51 (by decide) (fun h_32 => ?_) (fun h_32 => ?_)
      · refine lv_iconst (v := 0) hx hb d_Reader_added_58 (by decide) ?_
        refine lv_istore (lv' := [(4, .int 0), (3, .ref p27), (0, .ref (ad 1)), (1, .ref (z (3 + jj))), (2, .ref P)]) hx hb d_Reader_added_59 hl (by decide) rfl (fun ls hl => ?_)
        refine lv_aload_n hx hb d_Reader_added_61 rfl (lv_at hl 1 rfl) ?_
        refine lv_iload hx hb d_Reader_added_62 (lv_at hl 0 rfl) ?_
        refine lv_if_eq (tgt := 82) hx hb d_Reader_added_64 (by decide) (fun _ => ?_) (fun c33 => absurd (by decide) c33)
        refine lv_aload_n hx hb d_Reader_added_82 rfl (lv_at hl 4 rfl) ?_
        refine d_gN (C := "ChannelMachine$Process") (F := F_Process) (N := 10) hx hb hts i_Process hown hK hP hfP 5 rfl (by decide) (hU.1.2.1 _ kn_409) (fun _ h9 => h9) (v := .ref t1) rfl d_Reader_added_83 ?_
        refine d_pN (C := "ChannelMachine$Process") (F := F_Process) (N := 10) hx hb hts i_Process hown t_Process t_Process_ok n_Process hK hP hD hS hfp27 5 rfl (by decide) (hU.1.2.1 _ kn_409) (fun _ h9 => h9) rfl (ty := (.object "ChannelMachine$Task")) (v := .ref t1) (by decide +kernel) rfl rfl (Nat.le_of_ble_eq_true rfl) d_Reader_added_86 (fun pl34 H locs hL hP hD hS => ?_)
        have hfP : y_L pl34 P = some (.inr (7, [.ref (z (3 + J P)), va_rf par1, va_rf (C P).head?, .ref c, va_rf nx1, .ref t1, va_rf (Gs P).head?, .ref co1, .int ch1, .int va1])) := by rw [hL, y_Lu_n hne29_p27]; exact hfP
        have hfc : y_L pl34 c = some (.inr (7, [.ref (z (3 + J c)), va_rf parc, va_rf (C c).head?, va_rf (C c).getLast?, .null, va_rf tkc, va_rf (Gs c).head?, .ref coc, .int chc, .int vac])) := by rw [hL, y_Lu_n hne30_p27]; exact hfc
        have hfp27 : y_L pl34 p27 = some (.inr (7, [.ref (z (3 + jj)), .ref P, .null, .null, .null, .ref t1, .null, .ref (z 21), .int (-1), .int (-1)])) := by rw [hL]; exact y_Lu_s
        have hoth : ∀ b, b ≠ p27 → y_L pl34 b = y_L pl b := fun b n0 => by rw [hL, y_Lu_n n0]; exact hoth b n0
        clear hL
        refine lv_aload_n hx hb d_Reader_added_89 rfl (lv_at hl 4 rfl) ?_
        refine d_gN (C := "ChannelMachine$Process") (F := F_Process) (N := 10) hx hb hts i_Process hown hK hP hfP 3 rfl (by decide) (hU.1.2.1 _ kn_401) (fun _ h9 => h9) (v := .ref c) rfl d_Reader_added_90 ?_
        refine lv_ifnonnull (tgt := 104) hx hb d_Reader_added_93 (by decide) ?_
        refine lv_aload_n hx hb d_Reader_added_104 rfl (lv_at hl 4 rfl) ?_
        refine d_gN (C := "ChannelMachine$Process") (F := F_Process) (N := 10) hx hb hts i_Process hown hK hP hfP 3 rfl (by decide) (hU.1.2.1 _ kn_401) (fun _ h9 => h9) (v := .ref c) rfl d_Reader_added_105 ?_
        refine lv_aload_n hx hb d_Reader_added_108 rfl (lv_at hl 1 rfl) ?_
        refine d_pN (C := "ChannelMachine$Process") (F := F_Process) (N := 10) hx hb hts i_Process hown t_Process t_Process_ok n_Process hK hP hD hS hfc 4 rfl (by decide) (hU.1.2.1 _ kn_405) (fun _ h9 => h9) rfl (ty := (.object "ChannelMachine$Process")) (v := .ref p27) (by decide +kernel) rfl rfl (Nat.le_of_ble_eq_true rfl) d_Reader_added_109 (fun pl35 H locs hL hP hD hS => ?_)
        have hfP : y_L pl35 P = some (.inr (7, [.ref (z (3 + J P)), va_rf par1, va_rf (C P).head?, .ref c, va_rf nx1, .ref t1, va_rf (Gs P).head?, .ref co1, .int ch1, .int va1])) := by rw [hL, y_Lu_n (Ne.symm hcP)]; exact hfP
        have hfp27 : y_L pl35 p27 = some (.inr (7, [.ref (z (3 + jj)), .ref P, .null, .null, .null, .ref t1, .null, .ref (z 21), .int (-1), .int (-1)])) := by rw [hL, y_Lu_n (Ne.symm hne30_p27)]; exact hfp27
        have hfc : y_L pl35 c = some (.inr (7, [.ref (z (3 + J c)), va_rf parc, va_rf (C c).head?, va_rf (C c).getLast?, .ref p27, va_rf tkc, va_rf (Gs c).head?, .ref coc, .int chc, .int vac])) := by rw [hL]; exact y_Lu_s
        have hoth : ∀ b, b ≠ p27 → b ≠ c → y_L pl35 b = y_L pl b := fun b n0 n1 => by rw [hL, y_Lu_n n1]; exact hoth b n0
        clear hL
        refine lv_aload_n hx hb d_Reader_added_112 rfl (lv_at hl 4 rfl) ?_
        refine lv_aload_n hx hb d_Reader_added_113 rfl (lv_at hl 1 rfl) ?_
        refine d_pN (C := "ChannelMachine$Process") (F := F_Process) (N := 10) hx hb hts i_Process hown t_Process t_Process_ok n_Process hK hP hD hS hfP 3 rfl (by decide) (hU.1.2.1 _ kn_401) (fun _ h9 => h9) rfl (ty := (.object "ChannelMachine$Process")) (v := .ref p27) (by decide +kernel) rfl rfl (Nat.le_of_ble_eq_true rfl) d_Reader_added_114 (fun pl36 H locs hL hP hD hS => ?_)
        have hfc : y_L pl36 c = some (.inr (7, [.ref (z (3 + J c)), va_rf parc, va_rf (C c).head?, va_rf (C c).getLast?, .ref p27, va_rf tkc, va_rf (Gs c).head?, .ref coc, .int chc, .int vac])) := by rw [hL, y_Lu_n hcP]; exact hfc
        have hfp27 : y_L pl36 p27 = some (.inr (7, [.ref (z (3 + jj)), .ref P, .null, .null, .null, .ref t1, .null, .ref (z 21), .int (-1), .int (-1)])) := by rw [hL, y_Lu_n (Ne.symm hne29_p27)]; exact hfp27
        have hfP : y_L pl36 P = some (.inr (7, [.ref (z (3 + J P)), va_rf par1, va_rf (C P).head?, .ref p27, va_rf nx1, .ref t1, va_rf (Gs P).head?, .ref co1, .int ch1, .int va1])) := by rw [hL]; exact y_Lu_s
        have hoth : ∀ b, b ≠ p27 → b ≠ c → b ≠ P → y_L pl36 b = y_L pl b := fun b n0 n1 n2 => by rw [hL, y_Lu_n n2]; exact hoth b n0 n1
        clear hL
        refine lv_aload_n hx hb d_Reader_added_117 rfl (lv_at hl 1 rfl) ?_
        have hne1 : t1 ≠ p27 := fun e => by have := (hdx.un hzp27).2; rw [← e] at this; omega
        obtain ⟨G9, J9, C9, Gs9, S9, hd9, hx9, hc9, hg1, hg2, hg3, hg4, hg5, hg6⟩ := y_DX.add hdx (p := p27) (t := t1) (jj := jj) (nc := z 21) (par := some P) (ch := -1) (va := -1) (f' := y_L pl36) hzp27 hj hne1 (Or.inl ht1) hfp27 (fun P9 hP9 => by cases hP9; exact ⟨hPG, h4, ⟨par1, nx1, some t1, co1, ch1, va1, hfP0, by rw [hfP, y_headA hcl]; rfl⟩, fun c9 hc9 => by rw [hcl] at hc9; cases hc9; exact ⟨parc, none, tkc, coc, chc, vac, hfc0, hfc⟩⟩) (fun b h1 h2 h3 h4 => hoth b h1 (fun e => h4 P rfl (by rw [e]; exact hcl)) (fun e => h3 (by rw [e])))
        refine y_know (fun hy91 hy92 hy93 hy94 => ?_)
        have hac9 : H.size ≤ s.heap.size + 2 ∧ y_hs H ≤ y_hs s.heap + 17 := ⟨by omega, by omega⟩
        refine W.widen (k := 2) (n := 17) (by omega) (by omega) ?_
        exact W.aret (v := .ref p27) hx hb hr (Or.inl ⟨_, rfl⟩) (Or.inr ⟨_, rfl⟩) (fun t ht hW => ⟨⟨(some p27), ((upd I 6 ((I 6) + 1)), T, A, O, pl36, (ln, cl, lm, aa)), rfl, ⟨hmi, rfl, rfl, rfl, fun k hk => rfl, (m_fr.rf.up (by decide) _), p27, t1, G9, J9, C9, Gs9, S9, rfl, hzp27, hd9, hx9, hc9, ⟨hg1, hg2, hg3, hg4, hg5, hg6⟩, hfp27, (fun h9 => nomatch h9)⟩, (by dsimp only; rw [ht]; exact ⟨hP, hD, hac9⟩)⟩, hS.F ht⟩) hS.2.2 d_Reader_added_118
      · refine lv_iconst (v := 1) hx hb d_Reader_added_54 (by decide) ?_
        refine lv_goto (tgt := 59) hx hb d_Reader_added_55 (by decide) ?_
        refine lv_istore (lv' := [(4, .int 1), (3, .ref p27), (0, .ref (ad 1)), (1, .ref (z (3 + jj))), (2, .ref P)]) hx hb d_Reader_added_59 hl (by decide) rfl (fun ls hl => ?_)
        refine lv_aload_n hx hb d_Reader_added_61 rfl (lv_at hl 1 rfl) ?_
        refine lv_iload hx hb d_Reader_added_62 (lv_at hl 0 rfl) ?_
        refine lv_if_eq (tgt := 82) hx hb d_Reader_added_64 (by decide) (fun c37 => absurd c37 (by decide)) (fun _ => ?_)
        refine d_new (ci := 8) (fs := [.null, .null, .null, .int 0, .int 0, .int 0, .long 0]) (C := "ChannelMachine$Task") (F := F_Task) (N := 7) hx hb hts i_Task t_Task t_Task_ok hown (hts _ k_443) (hts _ k_444) (hts _ k_18) hK hP hD hS hA rfl (fun j hj => by rcases (show j = 0 ∨ j = 1 ∨ j = 2 ∨ j = 3 ∨ j = 4 ∨ j = 5 ∨ j = 6 by omega) with rfl | rfl | rfl | rfl | rfl | rfl | rfl <;> rfl) (by show 0 + 1 + 1 ≤ 2; omega) (by show 0 + 10 + 7 ≤ 17; omega) d_Reader_added_67 (fun t38 pl39 H hnot38 hL hP hD hS => ?_)
        have hne40_t38 : P ≠ t38 := fun h9 => by rw [h9, hnot38] at hfP; cases hfP
        have hne41_t38 : c ≠ t38 := fun h9 => by rw [h9, hnot38] at hfc; cases hfc
        have hne42_t38 : p27 ≠ t38 := fun h9 => by rw [h9, hnot38] at hfp27; cases hfp27
        have hzt38 : y_L pl t38 = none := by rw [← hoth t38 (Ne.symm hne42_t38)]; exact hnot38
        have hfP : y_L pl39 P = some (.inr (7, [.ref (z (3 + J P)), va_rf par1, va_rf (C P).head?, .ref c, va_rf nx1, .ref t1, va_rf (Gs P).head?, .ref co1, .int ch1, .int va1])) := by rw [hL, y_Lu_n hne40_t38]; exact hfP
        have hfc : y_L pl39 c = some (.inr (7, [.ref (z (3 + J c)), va_rf parc, va_rf (C c).head?, va_rf (C c).getLast?, .null, va_rf tkc, va_rf (Gs c).head?, .ref coc, .int chc, .int vac])) := by rw [hL, y_Lu_n hne41_t38]; exact hfc
        have hfp27 : y_L pl39 p27 = some (.inr (7, [.ref (z (3 + jj)), .ref P, .null, .null, .null, .null, .null, .ref (z 21), .int (-1), .int (-1)])) := by rw [hL, y_Lu_n hne42_t38]; exact hfp27
        have hft38 : y_L pl39 t38 = some (.inr (8, [.null, .null, .null, .int 0, .int 0, .int 0, .long 0])) := by rw [hL]; exact y_Lu_s
        have hoth : ∀ b, b ≠ p27 → b ≠ t38 → y_L pl39 b = y_L pl b := fun b n0 n1 => by rw [hL, y_Lu_n n1]; exact hoth b n0
        clear hL
        refine lv_dup hx hb d_Reader_added_70 rfl ?_
        refine lv_aload_n hx hb d_Reader_added_71 rfl (lv_at hl 1 rfl) ?_
        refine lv_aload_n hx hb d_Reader_added_72 rfl (lv_at hl 4 rfl) ?_
        refine d_gN (C := "ChannelMachine$Process") (F := F_Process) (N := 10) hx hb hts i_Process hown hK hP hfP 5 rfl (by decide) (hU.1.2.1 _ kn_409) (fun _ h9 => h9) (v := .ref t1) rfl d_Reader_added_73 ?_
        have hFc := y_free hD hS hA
        refine va_callv (va_runI (As := [.ref p27, .ref t1]) (rest := [.ref t38, .ref p27]) ⟨hx, hb, hml, hown, hts⟩ (c_T_init l dC dI ar N0 z ad (upd I 6 ((I 6) + 1)) T A O pl39 t38 p27 (some t1) H.size (y_hs H) hft38) (cwI 2 hts (x_good k_447) rfl rfl rfl (hts _ k_18) (hts _ k_445) (hts _ k_446) rfl (by decide +kernel) ⟨Nat.le_of_ble_eq_true rfl, Nat.le_of_ble_eq_true rfl⟩) ⟨y_blind, fun U9 hU9 hW9 => y_pre hU9 hW9 hP hD hU hZ hS hAN hN0⟩ rfl rfl hl.1 rfl (lv_room (Nat.le_of_ble_eq_true rfl)) d_Reader_added_76 ⟨(by show 0 + 1 + 1 + (0) ≤ 2; omega), (by show 0 + 10 + 7 + (0) ≤ 17; omega)⟩) hS (fun q _ h => hFc q h) hFc (fun u t H1 locs ht hvm hw hB hz1 hk1 hS => ?_)
        obtain ⟨I43, T43, A43, O43, pl43, q43, s43, cq43, cs43⟩ := u
        dsimp only at hw hB
        rw [ht] at hB
        obtain ⟨hP, hD1, hac43⟩ := hB
        have hD : va_D Bq (y_W ad ar I43 T43 A43 O43 pl43) := hD1.weaken (fun _ q _ h => hFc q.1 h)
        generalize H1 = H at hP hS hac43 ⊢
        have hae43 := hac43
        try unfold y_ac at hae43
        try dsimp only at hae43
        refine W.widen (k := 0 + 1 + 1) (n := 0 + 10 + 7) (by omega) (by omega) ?_
        obtain ⟨e1, e2, e3, e4, hL⟩ := hw
        rw [e1, e2, e3, e4] at hP hD
        have hfP : y_L pl43 P = some (.inr (7, [.ref (z (3 + J P)), va_rf par1, va_rf (C P).head?, .ref c, va_rf nx1, .ref t1, va_rf (Gs P).head?, .ref co1, .int ch1, .int va1])) := by rw [hL, y_Lu_n hne40_t38]; exact hfP
        have hfc : y_L pl43 c = some (.inr (7, [.ref (z (3 + J c)), va_rf parc, va_rf (C c).head?, va_rf (C c).getLast?, .null, va_rf tkc, va_rf (Gs c).head?, .ref coc, .int chc, .int vac])) := by rw [hL, y_Lu_n hne41_t38]; exact hfc
        have hfp27 : y_L pl43 p27 = some (.inr (7, [.ref (z (3 + jj)), .ref P, .null, .null, .null, .null, .null, .ref (z 21), .int (-1), .int (-1)])) := by rw [hL, y_Lu_n hne42_t38]; exact hfp27
        have hft38 : y_L pl43 t38 = some (.inr (8, [.ref p27, .ref t1, .ref p27, .int 0, .int 0, .int 0, .long 0])) := by rw [hL]; exact y_Lu_s
        have hoth : ∀ b, b ≠ p27 → b ≠ t38 → y_L pl43 b = y_L pl b := fun b n0 n1 => by rw [hL, y_Lu_n n1]; exact hoth b n0 n1
        clear hL
        have hP : va_P (dC, dI) y_cl (y_W ad ar (upd I 6 ((I 6) + 1)) T A O pl43) H := hP
        have hD : va_D Bq (y_W ad ar (upd I 6 ((I 6) + 1)) T A O pl43) := hD
        refine lv_goto (tgt := 86) hx hb d_Reader_added_79 (by decide) ?_
        refine d_pN (C := "ChannelMachine$Process") (F := F_Process) (N := 10) hx hb hts i_Process hown t_Process t_Process_ok n_Process hK hP hD hS hfp27 5 rfl (by decide) (hU.1.2.1 _ kn_409) (fun _ h9 => h9) rfl (ty := (.object "ChannelMachine$Task")) (v := .ref t38) (by decide +kernel) rfl rfl (Nat.le_of_ble_eq_true rfl) d_Reader_added_86 (fun pl44 H locs hL hP hD hS => ?_)
        have hfP : y_L pl44 P = some (.inr (7, [.ref (z (3 + J P)), va_rf par1, va_rf (C P).head?, .ref c, va_rf nx1, .ref t1, va_rf (Gs P).head?, .ref co1, .int ch1, .int va1])) := by rw [hL, y_Lu_n hne29_p27]; exact hfP
        have hfc : y_L pl44 c = some (.inr (7, [.ref (z (3 + J c)), va_rf parc, va_rf (C c).head?, va_rf (C c).getLast?, .null, va_rf tkc, va_rf (Gs c).head?, .ref coc, .int chc, .int vac])) := by rw [hL, y_Lu_n hne30_p27]; exact hfc
        have hft38 : y_L pl44 t38 = some (.inr (8, [.ref p27, .ref t1, .ref p27, .int 0, .int 0, .int 0, .long 0])) := by rw [hL, y_Lu_n (Ne.symm hne42_t38)]; exact hft38
        have hfp27 : y_L pl44 p27 = some (.inr (7, [.ref (z (3 + jj)), .ref P, .null, .null, .null, .ref t38, .null, .ref (z 21), .int (-1), .int (-1)])) := by rw [hL]; exact y_Lu_s
        have hoth : ∀ b, b ≠ p27 → b ≠ t38 → y_L pl44 b = y_L pl b := fun b n0 n1 => by rw [hL, y_Lu_n n0]; exact hoth b n0 n1
        clear hL
        refine lv_aload_n hx hb d_Reader_added_89 rfl (lv_at hl 4 rfl) ?_
        refine d_gN (C := "ChannelMachine$Process") (F := F_Process) (N := 10) hx hb hts i_Process hown hK hP hfP 3 rfl (by decide) (hU.1.2.1 _ kn_401) (fun _ h9 => h9) (v := .ref c) rfl d_Reader_added_90 ?_
        refine lv_ifnonnull (tgt := 104) hx hb d_Reader_added_93 (by decide) ?_
        refine lv_aload_n hx hb d_Reader_added_104 rfl (lv_at hl 4 rfl) ?_
        refine d_gN (C := "ChannelMachine$Process") (F := F_Process) (N := 10) hx hb hts i_Process hown hK hP hfP 3 rfl (by decide) (hU.1.2.1 _ kn_401) (fun _ h9 => h9) (v := .ref c) rfl d_Reader_added_105 ?_
        refine lv_aload_n hx hb d_Reader_added_108 rfl (lv_at hl 1 rfl) ?_
        refine d_pN (C := "ChannelMachine$Process") (F := F_Process) (N := 10) hx hb hts i_Process hown t_Process t_Process_ok n_Process hK hP hD hS hfc 4 rfl (by decide) (hU.1.2.1 _ kn_405) (fun _ h9 => h9) rfl (ty := (.object "ChannelMachine$Process")) (v := .ref p27) (by decide +kernel) rfl rfl (Nat.le_of_ble_eq_true rfl) d_Reader_added_109 (fun pl45 H locs hL hP hD hS => ?_)
        have hfP : y_L pl45 P = some (.inr (7, [.ref (z (3 + J P)), va_rf par1, va_rf (C P).head?, .ref c, va_rf nx1, .ref t1, va_rf (Gs P).head?, .ref co1, .int ch1, .int va1])) := by rw [hL, y_Lu_n (Ne.symm hcP)]; exact hfP
        have hfp27 : y_L pl45 p27 = some (.inr (7, [.ref (z (3 + jj)), .ref P, .null, .null, .null, .ref t38, .null, .ref (z 21), .int (-1), .int (-1)])) := by rw [hL, y_Lu_n (Ne.symm hne30_p27)]; exact hfp27
        have hft38 : y_L pl45 t38 = some (.inr (8, [.ref p27, .ref t1, .ref p27, .int 0, .int 0, .int 0, .long 0])) := by rw [hL, y_Lu_n (Ne.symm hne41_t38)]; exact hft38
        have hfc : y_L pl45 c = some (.inr (7, [.ref (z (3 + J c)), va_rf parc, va_rf (C c).head?, va_rf (C c).getLast?, .ref p27, va_rf tkc, va_rf (Gs c).head?, .ref coc, .int chc, .int vac])) := by rw [hL]; exact y_Lu_s
        have hoth : ∀ b, b ≠ p27 → b ≠ t38 → b ≠ c → y_L pl45 b = y_L pl b := fun b n0 n1 n2 => by rw [hL, y_Lu_n n2]; exact hoth b n0 n1
        clear hL
        refine lv_aload_n hx hb d_Reader_added_112 rfl (lv_at hl 4 rfl) ?_
        refine lv_aload_n hx hb d_Reader_added_113 rfl (lv_at hl 1 rfl) ?_
        refine d_pN (C := "ChannelMachine$Process") (F := F_Process) (N := 10) hx hb hts i_Process hown t_Process t_Process_ok n_Process hK hP hD hS hfP 3 rfl (by decide) (hU.1.2.1 _ kn_401) (fun _ h9 => h9) rfl (ty := (.object "ChannelMachine$Process")) (v := .ref p27) (by decide +kernel) rfl rfl (Nat.le_of_ble_eq_true rfl) d_Reader_added_114 (fun pl46 H locs hL hP hD hS => ?_)
        have hfc : y_L pl46 c = some (.inr (7, [.ref (z (3 + J c)), va_rf parc, va_rf (C c).head?, va_rf (C c).getLast?, .ref p27, va_rf tkc, va_rf (Gs c).head?, .ref coc, .int chc, .int vac])) := by rw [hL, y_Lu_n hcP]; exact hfc
        have hfp27 : y_L pl46 p27 = some (.inr (7, [.ref (z (3 + jj)), .ref P, .null, .null, .null, .ref t38, .null, .ref (z 21), .int (-1), .int (-1)])) := by rw [hL, y_Lu_n (Ne.symm hne29_p27)]; exact hfp27
        have hft38 : y_L pl46 t38 = some (.inr (8, [.ref p27, .ref t1, .ref p27, .int 0, .int 0, .int 0, .long 0])) := by rw [hL, y_Lu_n (Ne.symm hne40_t38)]; exact hft38
        have hfP : y_L pl46 P = some (.inr (7, [.ref (z (3 + J P)), va_rf par1, va_rf (C P).head?, .ref p27, va_rf nx1, .ref t1, va_rf (Gs P).head?, .ref co1, .int ch1, .int va1])) := by rw [hL]; exact y_Lu_s
        have hoth : ∀ b, b ≠ p27 → b ≠ t38 → b ≠ c → b ≠ P → y_L pl46 b = y_L pl b := fun b n0 n1 n2 n3 => by rw [hL, y_Lu_n n3]; exact hoth b n0 n1 n2
        clear hL
        refine lv_aload_n hx hb d_Reader_added_117 rfl (lv_at hl 1 rfl) ?_
        obtain ⟨G9, J9, C9, Gs9, S9, hd9, hx9, hc9, hg1, hg2, hg3, hg4, hg5, hg6⟩ := y_DX.add hdx (p := p27) (t := t38) (jj := jj) (nc := z 21) (par := some P) (ch := -1) (va := -1) (f' := y_L pl46) hzp27 hj (Ne.symm hne42_t38) (Or.inr ⟨hzt38, some t1, hft38, fun a ha => by cases ha; exact ht1⟩) hfp27 (fun P9 hP9 => by cases hP9; exact ⟨hPG, h4, ⟨par1, nx1, some t1, co1, ch1, va1, hfP0, by rw [hfP, y_headA hcl]; rfl⟩, fun c9 hc9 => by rw [hcl] at hc9; cases hc9; exact ⟨parc, none, tkc, coc, chc, vac, hfc0, hfc⟩⟩) (fun b h1 h2 h3 h4 => hoth b h1 (h2.elim id (fun e => by have := (hdx.un hzt38).2; omega)) (fun e => h4 P rfl (by rw [e]; exact hcl)) (fun e => h3 (by rw [e])))
        refine y_know (fun hy91 hy92 hy93 hy94 => ?_)
        have hac9 : H.size ≤ s.heap.size + 2 ∧ y_hs H ≤ y_hs s.heap + 17 := ⟨by omega, by omega⟩
        refine W.widen (k := 2) (n := 17) (by omega) (by omega) ?_
        exact W.aret (v := .ref p27) hx hb hr (Or.inl ⟨_, rfl⟩) (Or.inr ⟨_, rfl⟩) (fun t ht hW => ⟨⟨(some p27), ((upd I 6 ((I 6) + 1)), T, A, O, pl46, (ln, cl, lm, aa)), rfl, ⟨hmi, rfl, rfl, rfl, fun k hk => rfl, (m_fr.rf.up (by decide) _), p27, t38, G9, J9, C9, Gs9, S9, rfl, hzp27, hd9, hx9, hc9, ⟨hg1, hg2, hg3, hg4, hg5, hg6⟩, hfp27, (fun h9 => nomatch h9)⟩, (by dsimp only; rw [ht]; exact ⟨hP, hD, hac9⟩)⟩, hS.F ht⟩) hS.2.2 d_Reader_added_118
