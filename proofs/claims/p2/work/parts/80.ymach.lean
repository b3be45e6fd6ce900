-- ===== 80.ymach: small methods of the machine, by program =====
theorem k_616 : (Jvm.Cond.methodLink "ChannelMachine$Machine" (59 : Nat) ({ cls := "ChannelMachine$Machine", name := "close", desc := "(I)V" } : Jvm.MethodName)) ∈ x_T := x_at 616 (by decide +kernel) (by decide +kernel)
theorem k_618 : (Jvm.Cond.instanceMethod ({ cls := "ChannelMachine$Machine", name := "close", desc := "(I)V" } : Jvm.MethodName)) ∈ x_T := x_at 618 (by decide +kernel) (by decide +kernel)
theorem k_619 : (Jvm.Cond.code ({ cls := "ChannelMachine$Machine", name := "close", desc := "(I)V" } : Jvm.MethodName) prog_6_method_4_code (3 : Nat) (Option.none : Option Jvm.ClassFile.FieldType)) ∈ x_T := x_at 619 (by decide +kernel) (by decide +kernel)
theorem k_621 : (Jvm.Cond.methodLink "ChannelMachine$Machine" (96 : Nat) ({ cls := "java/util/List", name := "clear", desc := "()V" } : Jvm.MethodName)) ∈ x_T := x_at 621 (by decide +kernel) (by decide +kernel)
theorem k_624 : (Jvm.Cond.selects "java/util/ArrayList" ({ cls := "java/util/List", name := "clear", desc := "()V" } : Jvm.MethodName) ({ cls := "java/util/ArrayList", name := "clear", desc := "()V" } : Jvm.MethodName)) ∈ x_T := x_at 624 (by decide +kernel) (by decide +kernel)
theorem k_626 : (Jvm.Cond.instanceMethod ({ cls := "java/util/ArrayList", name := "clear", desc := "()V" } : Jvm.MethodName)) ∈ x_T := x_at 626 (by decide +kernel) (by decide +kernel)
theorem k_628 : (Jvm.Cond.code ({ cls := "java/util/ArrayList", name := "clear", desc := "()V" } : Jvm.MethodName) prog_28_method_40_code (4 : Nat) (Option.none : Option Jvm.ClassFile.FieldType)) ∈ x_T := x_at 628 (by decide +kernel) (by decide +kernel)
theorem k_636 : (Jvm.Cond.methodLink "ChannelMachine$Machine" (82 : Nat) ({ cls := "ChannelMachine$Task", name := "enter", desc := "(LChannelMachine$Process;)V" } : Jvm.MethodName)) ∈ x_T := x_at 636 (by decide +kernel) (by decide +kernel)
theorem k_640 : (Jvm.Cond.methodLink "ChannelMachine$Machine" (86 : Nat) ({ cls := "ChannelMachine$Task", name := "findNext", desc := "()I" } : Jvm.MethodName)) ∈ x_T := x_at 640 (by decide +kernel) (by decide +kernel)
theorem k_641 : (Jvm.Cond.instanceMethod ({ cls := "ChannelMachine$Task", name := "findNext", desc := "()I" } : Jvm.MethodName)) ∈ x_T := x_at 641 (by decide +kernel) (by decide +kernel)
theorem k_642 : (Jvm.Cond.selects "ChannelMachine$Task" ({ cls := "ChannelMachine$Task", name := "findNext", desc := "()I" } : Jvm.MethodName) ({ cls := "ChannelMachine$Task", name := "findNext", desc := "()I" } : Jvm.MethodName)) ∈ x_T := x_at 642 (by decide +kernel) (by decide +kernel)
theorem k_643 : (Jvm.Cond.code ({ cls := "ChannelMachine$Task", name := "findNext", desc := "()I" } : Jvm.MethodName) prog_10_method_4_code (2 : Nat) (Option.some Jvm.ClassFile.FieldType.int)) ∈ x_T := x_at 643 (by decide +kernel) (by decide +kernel)
theorem k_649 : (Jvm.Cond.methodLink "ChannelMachine$Machine" (90 : Nat) ({ cls := "java/util/List", name := "add", desc := "(Ljava/lang/Object;)Z" } : Jvm.MethodName)) ∈ x_T := x_at 649 (by decide +kernel) (by decide +kernel)
theorem k_652 : (Jvm.Cond.selects "java/util/ArrayList" ({ cls := "java/util/List", name := "add", desc := "(Ljava/lang/Object;)Z" } : Jvm.MethodName) ({ cls := "java/util/ArrayList", name := "add", desc := "(Ljava/lang/Object;)Z" } : Jvm.MethodName)) ∈ x_T := x_at 652 (by decide +kernel) (by decide +kernel)
theorem k_654 : (Jvm.Cond.instanceMethod ({ cls := "java/util/ArrayList", name := "add", desc := "(Ljava/lang/Object;)Z" } : Jvm.MethodName)) ∈ x_T := x_at 654 (by decide +kernel) (by decide +kernel)
theorem k_656 : (Jvm.Cond.code ({ cls := "java/util/ArrayList", name := "add", desc := "(Ljava/lang/Object;)Z" } : Jvm.MethodName) prog_28_method_25_code (2 : Nat) (Option.some Jvm.ClassFile.FieldType.boolean)) ∈ x_T := x_at 656 (by decide +kernel) (by decide +kernel)
theorem k_727 : (Jvm.Cond.methodLink "ChannelMachine$Machine" (110 : Nat) ({ cls := "java/util/List", name := "isEmpty", desc := "()Z" } : Jvm.MethodName)) ∈ x_T := x_at 727 (by decide +kernel) (by decide +kernel)
theorem k_730 : (Jvm.Cond.selects "java/util/ArrayList" ({ cls := "java/util/List", name := "isEmpty", desc := "()Z" } : Jvm.MethodName) ({ cls := "java/util/ArrayList", name := "isEmpty", desc := "()Z" } : Jvm.MethodName)) ∈ x_T := x_at 730 (by decide +kernel) (by decide +kernel)
theorem k_732 : (Jvm.Cond.instanceMethod ({ cls := "java/util/ArrayList", name := "isEmpty", desc := "()Z" } : Jvm.MethodName)) ∈ x_T := x_at 732 (by decide +kernel) (by decide +kernel)
theorem k_734 : (Jvm.Cond.code ({ cls := "java/util/ArrayList", name := "isEmpty", desc := "()Z" } : Jvm.MethodName) prog_28_method_9_code (1 : Nat) (Option.some Jvm.ClassFile.FieldType.boolean)) ∈ x_T := x_at 734 (by decide +kernel) (by decide +kernel)
theorem k_756 : (Jvm.Cond.methodLink "ChannelMachine$Machine" (135 : Nat) ({ cls := "java/util/List", name := "remove", desc := "(I)Ljava/lang/Object;" } : Jvm.MethodName)) ∈ x_T := x_at 756 (by decide +kernel) (by decide +kernel)
theorem k_759 : (Jvm.Cond.selects "java/util/ArrayList" ({ cls := "java/util/List", name := "remove", desc := "(I)Ljava/lang/Object;" } : Jvm.MethodName) ({ cls := "java/util/ArrayList", name := "remove", desc := "(I)Ljava/lang/Object;" } : Jvm.MethodName)) ∈ x_T := x_at 759 (by decide +kernel) (by decide +kernel)
theorem k_761 : (Jvm.Cond.instanceMethod ({ cls := "java/util/ArrayList", name := "remove", desc := "(I)Ljava/lang/Object;" } : Jvm.MethodName)) ∈ x_T := x_at 761 (by decide +kernel) (by decide +kernel)
theorem k_763 : (Jvm.Cond.code ({ cls := "java/util/ArrayList", name := "remove", desc := "(I)Ljava/lang/Object;" } : Jvm.MethodName) prog_28_method_29_code (4 : Nat) (Option.some (Jvm.ClassFile.FieldType.object "java/lang/Object"))) ∈ x_T := x_at 763 (by decide +kernel) (by decide +kernel)
theorem k_773 : (Jvm.Cond.methodLink "ChannelMachine$Machine" (147 : Nat) ({ cls := "ChannelMachine$Machine", name := "resume", desc := "(LChannelMachine$Task;)V" } : Jvm.MethodName)) ∈ x_T := x_at 773 (by decide +kernel) (by decide +kernel)
theorem k_775 : (Jvm.Cond.instanceMethod ({ cls := "ChannelMachine$Machine", name := "resume", desc := "(LChannelMachine$Task;)V" } : Jvm.MethodName)) ∈ x_T := x_at 775 (by decide +kernel) (by decide +kernel)
theorem k_776 : (Jvm.Cond.code ({ cls := "ChannelMachine$Machine", name := "resume", desc := "(LChannelMachine$Task;)V" } : Jvm.MethodName) prog_6_method_10_code (2 : Nat) (Option.none : Option Jvm.ClassFile.FieldType)) ∈ x_T := x_at 776 (by decide +kernel) (by decide +kernel)
theorem k_777 : (Jvm.Cond.methodLink "ChannelMachine$Machine" (150 : Nat) ({ cls := "ChannelMachine$Task", name := "goOn", desc := "()V" } : Jvm.MethodName)) ∈ x_T := x_at 777 (by decide +kernel) (by decide +kernel)
theorem k_778 : (Jvm.Cond.instanceMethod ({ cls := "ChannelMachine$Task", name := "goOn", desc := "()V" } : Jvm.MethodName)) ∈ x_T := x_at 778 (by decide +kernel) (by decide +kernel)
theorem k_779 : (Jvm.Cond.selects "ChannelMachine$Task" ({ cls := "ChannelMachine$Task", name := "goOn", desc := "()V" } : Jvm.MethodName) ({ cls := "ChannelMachine$Task", name := "goOn", desc := "()V" } : Jvm.MethodName)) ∈ x_T := x_at 779 (by decide +kernel) (by decide +kernel)
theorem k_780 : (Jvm.Cond.code ({ cls := "ChannelMachine$Task", name := "goOn", desc := "()V" } : Jvm.MethodName) prog_10_method_3_code (1 : Nat) (Option.none : Option Jvm.ClassFile.FieldType)) ∈ x_T := x_at 780 (by decide +kernel) (by decide +kernel)
theorem k_862 : (Jvm.Cond.methodLink "ChannelMachine$Machine" (264 : Nat) ({ cls := "ChannelMachine$Row", name := "removeFirst", desc := "()I" } : Jvm.MethodName)) ∈ x_T := x_at 862 (by decide +kernel) (by decide +kernel)
theorem k_863 : (Jvm.Cond.instanceMethod ({ cls := "ChannelMachine$Row", name := "removeFirst", desc := "()I" } : Jvm.MethodName)) ∈ x_T := x_at 863 (by decide +kernel) (by decide +kernel)
theorem k_864 : (Jvm.Cond.selects "ChannelMachine$Row" ({ cls := "ChannelMachine$Row", name := "removeFirst", desc := "()I" } : Jvm.MethodName) ({ cls := "ChannelMachine$Row", name := "removeFirst", desc := "()I" } : Jvm.MethodName)) ∈ x_T := x_at 864 (by decide +kernel) (by decide +kernel)
theorem k_865 : (Jvm.Cond.code ({ cls := "ChannelMachine$Row", name := "removeFirst", desc := "()I" } : Jvm.MethodName) prog_9_method_4_code (2 : Nat) (Option.some Jvm.ClassFile.FieldType.int)) ∈ x_T := x_at 865 (by decide +kernel) (by decide +kernel)
theorem kn_93 : (Jvm.Cond.fieldLinkNest "ChannelMachine$Machine" (69 : Nat) "ChannelMachine$Row" "size" "I" "ChannelMachine") ∈ x_nest := x_nest_at 93 (by decide +kernel) (by decide +kernel)
theorem kn_132 : (Jvm.Cond.fieldLinkNest "ChannelMachine$Machine" (99 : Nat) "ChannelMachine$Channel" "sender" "LChannelMachine$Task;" "ChannelMachine") ∈ x_nest := x_nest_at 132 (by decide +kernel) (by decide +kernel)
theorem kn_135 : (Jvm.Cond.fieldLinkNest "ChannelMachine$Machine" (103 : Nat) "ChannelMachine$Channel" "receiver" "LChannelMachine$Task;" "ChannelMachine") ∈ x_nest := x_nest_at 135 (by decide +kernel) (by decide +kernel)
theorem kn_450 : (Jvm.Cond.fieldLinkNest "ChannelMachine$Machine" (76 : Nat) "ChannelMachine$Task" "whole" "LChannelMachine$Process;" "ChannelMachine") ∈ x_nest := x_nest_at 450 (by decide +kernel) (by decide +kernel)
theorem kn_452 : (Jvm.Cond.fieldLinkNest "ChannelMachine$Machine" (141 : Nat) "ChannelMachine$Task" "maker" "LChannelMachine$Task;" "ChannelMachine") ∈ x_nest := x_nest_at 452 (by decide +kernel) (by decide +kernel)
theorem kn_457 : (Jvm.Cond.fieldLinkNest "ChannelMachine$Machine" (144 : Nat) "ChannelMachine$Task" "running" "I" "ChannelMachine") ∈ x_nest := x_nest_at 457 (by decide +kernel) (by decide +kernel)
theorem kn_459 : (Jvm.Cond.fieldLinkNest "ChannelMachine$Machine" (249 : Nat) "ChannelMachine$Task" "value" "I" "ChannelMachine") ∈ x_nest := x_nest_at 459 (by decide +kernel) (by decide +kernel)
theorem kp_20 : (Jvm.Cond.selects "ChannelMachine$Machine" ({ cls := "ChannelMachine$Machine", name := "close", desc := "(I)V" } : Jvm.MethodName) ({ cls := "ChannelMachine$Machine", name := "close", desc := "(I)V" } : Jvm.MethodName)) ∈ x_T := x_sel (q := (({ cls := "ChannelMachine$Machine", name := "close", desc := "(I)V" } : Jvm.MethodName), 11)) 20 (by decide +kernel) (by decide +kernel)
theorem kp_28 : (Jvm.Cond.selects "ChannelMachine$Machine" ({ cls := "ChannelMachine$Machine", name := "resume", desc := "(LChannelMachine$Task;)V" } : Jvm.MethodName) ({ cls := "ChannelMachine$Machine", name := "resume", desc := "(LChannelMachine$Task;)V" } : Jvm.MethodName)) ∈ x_T := x_sel (q := (({ cls := "ChannelMachine$Machine", name := "resume", desc := "(LChannelMachine$Task;)V" } : Jvm.MethodName), 11)) 28 (by decide +kernel) (by decide +kernel)
theorem d_Machine_close_0 : decode prog_6_method_4_code 0 = .ok (.aload_n 0, 1) := by decide +kernel
theorem d_Machine_close_1 : decode prog_6_method_4_code 1 = .ok (.iload_n 1, 1) := by decide +kernel
theorem d_Machine_close_2 : decode prog_6_method_4_code 2 = .ok (.putfield 44, 3) := by decide +kernel
theorem d_Machine_close_5 : decode prog_6_method_4_code 5 = .ok (.aload_n 0, 1) := by decide +kernel
theorem d_Machine_close_6 : decode prog_6_method_4_code 6 = .ok (.iconst 0, 1) := by decide +kernel
theorem d_Machine_close_7 : decode prog_6_method_4_code 7 = .ok (.putfield 48, 3) := by decide +kernel
theorem d_Machine_close_10 : decode prog_6_method_4_code 10 = .ok (.aload_n 0, 1) := by decide +kernel
theorem d_Machine_close_11 : decode prog_6_method_4_code 11 = .ok (.getfield 34, 3) := by decide +kernel
theorem d_Machine_close_14 : decode prog_6_method_4_code 14 = .ok (.invokeinterface 96 1, 5) := by decide +kernel
theorem d_Machine_close_19 : decode prog_6_method_4_code 19 = .ok (.aload_n 0, 1) := by decide +kernel
theorem d_Machine_close_20 : decode prog_6_method_4_code 20 = .ok (.getfield 38, 3) := by decide +kernel
theorem d_Machine_close_23 : decode prog_6_method_4_code 23 = .ok (.invokeinterface 96 1, 5) := by decide +kernel
theorem d_Machine_close_28 : decode prog_6_method_4_code 28 = .ok (.iconst 0, 1) := by decide +kernel
theorem d_Machine_close_29 : decode prog_6_method_4_code 29 = .ok (.istore_n 2, 1) := by decide +kernel
theorem d_Machine_close_30 : decode prog_6_method_4_code 30 = .ok (.iload_n 2, 1) := by decide +kernel
theorem d_Machine_close_31 : decode prog_6_method_4_code 31 = .ok (.bipush 6, 2) := by decide +kernel
theorem d_Machine_close_33 : decode prog_6_method_4_code 33 = .ok (.if_icmp .ge 29, 3) := by decide +kernel
theorem d_Machine_close_36 : decode prog_6_method_4_code 36 = .ok (.aload_n 0, 1) := by decide +kernel
theorem d_Machine_close_37 : decode prog_6_method_4_code 37 = .ok (.getfield 17, 3) := by decide +kernel
theorem d_Machine_close_40 : decode prog_6_method_4_code 40 = .ok (.iload_n 2, 1) := by decide +kernel
theorem d_Machine_close_41 : decode prog_6_method_4_code 41 = .ok (.aaload, 1) := by decide +kernel
theorem d_Machine_close_42 : decode prog_6_method_4_code 42 = .ok (.aconst_null, 1) := by decide +kernel
theorem d_Machine_close_43 : decode prog_6_method_4_code 43 = .ok (.putfield 99, 3) := by decide +kernel
theorem d_Machine_close_46 : decode prog_6_method_4_code 46 = .ok (.aload_n 0, 1) := by decide +kernel
theorem d_Machine_close_47 : decode prog_6_method_4_code 47 = .ok (.getfield 17, 3) := by decide +kernel
theorem d_Machine_close_50 : decode prog_6_method_4_code 50 = .ok (.iload_n 2, 1) := by decide +kernel
theorem d_Machine_close_51 : decode prog_6_method_4_code 51 = .ok (.aaload, 1) := by decide +kernel
theorem d_Machine_close_52 : decode prog_6_method_4_code 52 = .ok (.aconst_null, 1) := by decide +kernel
theorem d_Machine_close_53 : decode prog_6_method_4_code 53 = .ok (.putfield 103, 3) := by decide +kernel
theorem d_Machine_close_56 : decode prog_6_method_4_code 56 = .ok (.iinc 2 1, 3) := by decide +kernel
theorem d_Machine_close_59 : decode prog_6_method_4_code 59 = .ok (.goto (-29), 3) := by decide +kernel
theorem d_Machine_close_62 : decode prog_6_method_4_code 62 = .ok (.return_, 1) := by decide +kernel
theorem d_Machine_isHostAwaited_0 : decode prog_6_method_6_code 0 = .ok (.aload_n 0, 1) := by decide +kernel
theorem d_Machine_isHostAwaited_1 : decode prog_6_method_6_code 1 = .ok (.getfield 17, 3) := by decide +kernel
theorem d_Machine_isHostAwaited_4 : decode prog_6_method_6_code 4 = .ok (.iconst 4, 1) := by decide +kernel
theorem d_Machine_isHostAwaited_5 : decode prog_6_method_6_code 5 = .ok (.aaload, 1) := by decide +kernel
theorem d_Machine_isHostAwaited_6 : decode prog_6_method_6_code 6 = .ok (.getfield 103, 3) := by decide +kernel
theorem d_Machine_isHostAwaited_9 : decode prog_6_method_6_code 9 = .ok (.ifnonnull 15, 3) := by decide +kernel
theorem d_Machine_isHostAwaited_12 : decode prog_6_method_6_code 12 = .ok (.aload_n 0, 1) := by decide +kernel
theorem d_Machine_isHostAwaited_13 : decode prog_6_method_6_code 13 = .ok (.getfield 17, 3) := by decide +kernel
theorem d_Machine_isHostAwaited_16 : decode prog_6_method_6_code 16 = .ok (.iconst 5, 1) := by decide +kernel
theorem d_Machine_isHostAwaited_17 : decode prog_6_method_6_code 17 = .ok (.aaload, 1) := by decide +kernel
theorem d_Machine_isHostAwaited_18 : decode prog_6_method_6_code 18 = .ok (.getfield 99, 3) := by decide +kernel
theorem d_Machine_isHostAwaited_21 : decode prog_6_method_6_code 21 = .ok (.ifnull 7, 3) := by decide +kernel
theorem d_Machine_isHostAwaited_24 : decode prog_6_method_6_code 24 = .ok (.iconst 1, 1) := by decide +kernel
theorem d_Machine_isHostAwaited_25 : decode prog_6_method_6_code 25 = .ok (.goto 4, 3) := by decide +kernel
theorem d_Machine_isHostAwaited_28 : decode prog_6_method_6_code 28 = .ok (.iconst 0, 1) := by decide +kernel
theorem d_Machine_isHostAwaited_29 : decode prog_6_method_6_code 29 = .ok (.ireturn, 1) := by decide +kernel
theorem d_Machine_pause_0 : decode prog_6_method_9_code 0 = .ok (.aload_n 0, 1) := by decide +kernel
theorem d_Machine_pause_1 : decode prog_6_method_9_code 1 = .ok (.getfield 34, 3) := by decide +kernel
theorem d_Machine_pause_4 : decode prog_6_method_9_code 4 = .ok (.invokeinterface 110 1, 5) := by decide +kernel
theorem d_Machine_pause_9 : decode prog_6_method_9_code 9 = .ok (.ifCond .ne 14, 3) := by decide +kernel
theorem d_Machine_pause_12 : decode prog_6_method_9_code 12 = .ok (.aload_n 0, 1) := by decide +kernel
theorem d_Machine_pause_13 : decode prog_6_method_9_code 13 = .ok (.getfield 34, 3) := by decide +kernel
theorem d_Machine_pause_16 : decode prog_6_method_9_code 16 = .ok (.iconst 0, 1) := by decide +kernel
theorem d_Machine_pause_17 : decode prog_6_method_9_code 17 = .ok (.invokeinterface 135 2, 5) := by decide +kernel
theorem d_Machine_pause_22 : decode prog_6_method_9_code 22 = .ok (.pop, 1) := by decide +kernel
theorem d_Machine_pause_23 : decode prog_6_method_9_code 23 = .ok (.return_, 1) := by decide +kernel
theorem d_Machine_resume_0 : decode prog_6_method_10_code 0 = .ok (.aload_n 1, 1) := by decide +kernel
theorem d_Machine_resume_1 : decode prog_6_method_10_code 1 = .ok (.invokevirtual 150, 3) := by decide +kernel
theorem d_Machine_resume_4 : decode prog_6_method_10_code 4 = .ok (.aload_n 0, 1) := by decide +kernel
theorem d_Machine_resume_5 : decode prog_6_method_10_code 5 = .ok (.getfield 34, 3) := by decide +kernel
theorem d_Machine_resume_8 : decode prog_6_method_10_code 8 = .ok (.aload_n 1, 1) := by decide +kernel
theorem d_Machine_resume_9 : decode prog_6_method_10_code 9 = .ok (.invokeinterface 90 2, 5) := by decide +kernel
theorem d_Machine_resume_14 : decode prog_6_method_10_code 14 = .ok (.pop, 1) := by decide +kernel
theorem d_Machine_resume_15 : decode prog_6_method_10_code 15 = .ok (.return_, 1) := by decide +kernel
theorem d_Machine_assign_0 : decode prog_6_method_13_code 0 = .ok (.iload_n 1, 1) := by decide +kernel
theorem d_Machine_assign_1 : decode prog_6_method_13_code 1 = .ok (.ifCond .lt 16, 3) := by decide +kernel
theorem d_Machine_assign_4 : decode prog_6_method_13_code 4 = .ok (.iload_n 1, 1) := by decide +kernel
theorem d_Machine_assign_5 : decode prog_6_method_13_code 5 = .ok (.bipush 6, 2) := by decide +kernel
theorem d_Machine_assign_7 : decode prog_6_method_13_code 7 = .ok (.if_icmp .ge 10, 3) := by decide +kernel
theorem d_Machine_assign_10 : decode prog_6_method_13_code 10 = .ok (.aload_n 0, 1) := by decide +kernel
theorem d_Machine_assign_11 : decode prog_6_method_13_code 11 = .ok (.getfield 9, 3) := by decide +kernel
theorem d_Machine_assign_14 : decode prog_6_method_13_code 14 = .ok (.iload_n 1, 1) := by decide +kernel
theorem d_Machine_assign_15 : decode prog_6_method_13_code 15 = .ok (.iload_n 2, 1) := by decide +kernel
theorem d_Machine_assign_16 : decode prog_6_method_13_code 16 = .ok (.iastore, 1) := by decide +kernel
theorem d_Machine_assign_17 : decode prog_6_method_13_code 17 = .ok (.return_, 1) := by decide +kernel
theorem d_Machine_start_0 : decode prog_6_method_3_code 0 = .ok (.aload_n 1, 1) := by decide +kernel
theorem d_Machine_start_1 : decode prog_6_method_3_code 1 = .ok (.aload_n 1, 1) := by decide +kernel
theorem d_Machine_start_2 : decode prog_6_method_3_code 2 = .ok (.getfield 76, 3) := by decide +kernel
theorem d_Machine_start_5 : decode prog_6_method_3_code 5 = .ok (.invokevirtual 82, 3) := by decide +kernel
theorem d_Machine_start_8 : decode prog_6_method_3_code 8 = .ok (.aload_n 1, 1) := by decide +kernel
theorem d_Machine_start_9 : decode prog_6_method_3_code 9 = .ok (.invokevirtual 86, 3) := by decide +kernel
theorem d_Machine_start_12 : decode prog_6_method_3_code 12 = .ok (.ifCond .eq 5, 3) := by decide +kernel
theorem d_Machine_start_15 : decode prog_6_method_3_code 15 = .ok (.iconst 0, 1) := by decide +kernel
theorem d_Machine_start_16 : decode prog_6_method_3_code 16 = .ok (.ireturn, 1) := by decide +kernel
theorem d_Machine_start_17 : decode prog_6_method_3_code 17 = .ok (.aload_n 0, 1) := by decide +kernel
theorem d_Machine_start_18 : decode prog_6_method_3_code 18 = .ok (.dup, 1) := by decide +kernel
theorem d_Machine_start_19 : decode prog_6_method_3_code 19 = .ok (.getfield 48, 3) := by decide +kernel
theorem d_Machine_start_22 : decode prog_6_method_3_code 22 = .ok (.iconst 1, 1) := by decide +kernel
theorem d_Machine_start_23 : decode prog_6_method_3_code 23 = .ok (.iadd, 1) := by decide +kernel
theorem d_Machine_start_24 : decode prog_6_method_3_code 24 = .ok (.putfield 48, 3) := by decide +kernel
theorem d_Machine_start_27 : decode prog_6_method_3_code 27 = .ok (.aload_n 0, 1) := by decide +kernel
theorem d_Machine_start_28 : decode prog_6_method_3_code 28 = .ok (.getfield 34, 3) := by decide +kernel
theorem d_Machine_start_31 : decode prog_6_method_3_code 31 = .ok (.aload_n 1, 1) := by decide +kernel
theorem d_Machine_start_32 : decode prog_6_method_3_code 32 = .ok (.invokeinterface 90 2, 5) := by decide +kernel
theorem d_Machine_start_37 : decode prog_6_method_3_code 37 = .ok (.pop, 1) := by decide +kernel
theorem d_Machine_start_38 : decode prog_6_method_3_code 38 = .ok (.iconst 1, 1) := by decide +kernel
theorem d_Machine_start_39 : decode prog_6_method_3_code 39 = .ok (.ireturn, 1) := by decide +kernel
theorem d_Machine_finish_0 : decode prog_6_method_8_code 0 = .ok (.aload_n 1, 1) := by decide +kernel
theorem d_Machine_finish_1 : decode prog_6_method_8_code 1 = .ok (.getfield 141, 3) := by decide +kernel
theorem d_Machine_finish_4 : decode prog_6_method_8_code 4 = .ok (.ifnonnull 9, 3) := by decide +kernel
theorem d_Machine_finish_7 : decode prog_6_method_8_code 7 = .ok (.aload_n 0, 1) := by decide +kernel
theorem d_Machine_finish_8 : decode prog_6_method_8_code 8 = .ok (.iconst 2, 1) := by decide +kernel
theorem d_Machine_finish_9 : decode prog_6_method_8_code 9 = .ok (.invokevirtual 59, 3) := by decide +kernel
theorem d_Machine_finish_12 : decode prog_6_method_8_code 12 = .ok (.return_, 1) := by decide +kernel
theorem d_Machine_finish_13 : decode prog_6_method_8_code 13 = .ok (.aload_n 0, 1) := by decide +kernel
theorem d_Machine_finish_14 : decode prog_6_method_8_code 14 = .ok (.dup, 1) := by decide +kernel
theorem d_Machine_finish_15 : decode prog_6_method_8_code 15 = .ok (.getfield 48, 3) := by decide +kernel
theorem d_Machine_finish_18 : decode prog_6_method_8_code 18 = .ok (.iconst 1, 1) := by decide +kernel
theorem d_Machine_finish_19 : decode prog_6_method_8_code 19 = .ok (.isub, 1) := by decide +kernel
theorem d_Machine_finish_20 : decode prog_6_method_8_code 20 = .ok (.putfield 48, 3) := by decide +kernel
theorem d_Machine_finish_23 : decode prog_6_method_8_code 23 = .ok (.aload_n 1, 1) := by decide +kernel
theorem d_Machine_finish_24 : decode prog_6_method_8_code 24 = .ok (.getfield 141, 3) := by decide +kernel
theorem d_Machine_finish_27 : decode prog_6_method_8_code 27 = .ok (.dup, 1) := by decide +kernel
theorem d_Machine_finish_28 : decode prog_6_method_8_code 28 = .ok (.getfield 144, 3) := by decide +kernel
theorem d_Machine_finish_31 : decode prog_6_method_8_code 31 = .ok (.iconst 1, 1) := by decide +kernel
theorem d_Machine_finish_32 : decode prog_6_method_8_code 32 = .ok (.isub, 1) := by decide +kernel
theorem d_Machine_finish_33 : decode prog_6_method_8_code 33 = .ok (.putfield 144, 3) := by decide +kernel
theorem d_Machine_finish_36 : decode prog_6_method_8_code 36 = .ok (.aload_n 1, 1) := by decide +kernel
theorem d_Machine_finish_37 : decode prog_6_method_8_code 37 = .ok (.getfield 141, 3) := by decide +kernel
theorem d_Machine_finish_40 : decode prog_6_method_8_code 40 = .ok (.getfield 144, 3) := by decide +kernel
theorem d_Machine_finish_43 : decode prog_6_method_8_code 43 = .ok (.ifCond .ne 11, 3) := by decide +kernel
theorem d_Machine_finish_46 : decode prog_6_method_8_code 46 = .ok (.aload_n 0, 1) := by decide +kernel
theorem d_Machine_finish_47 : decode prog_6_method_8_code 47 = .ok (.aload_n 1, 1) := by decide +kernel
theorem d_Machine_finish_48 : decode prog_6_method_8_code 48 = .ok (.getfield 141, 3) := by decide +kernel
theorem d_Machine_finish_51 : decode prog_6_method_8_code 51 = .ok (.invokevirtual 147, 3) := by decide +kernel
theorem d_Machine_finish_54 : decode prog_6_method_8_code 54 = .ok (.return_, 1) := by decide +kernel
theorem d_Machine_isReady_0 : decode prog_6_method_18_code 0 = .ok (.iload_n 1, 1) := by decide +kernel
theorem d_Machine_isReady_1 : decode prog_6_method_18_code 1 = .ok (.iconst (-1), 1) := by decide +kernel
theorem d_Machine_isReady_2 : decode prog_6_method_18_code 2 = .ok (.if_icmp .ne 5, 3) := by decide +kernel
theorem d_Machine_isReady_5 : decode prog_6_method_18_code 5 = .ok (.iconst 1, 1) := by decide +kernel
theorem d_Machine_isReady_6 : decode prog_6_method_18_code 6 = .ok (.ireturn, 1) := by decide +kernel
theorem d_Machine_isReady_7 : decode prog_6_method_18_code 7 = .ok (.iload_n 1, 1) := by decide +kernel
theorem d_Machine_isReady_8 : decode prog_6_method_18_code 8 = .ok (.iconst 4, 1) := by decide +kernel
theorem d_Machine_isReady_9 : decode prog_6_method_18_code 9 = .ok (.if_icmp .ne 21, 3) := by decide +kernel
theorem d_Machine_isReady_12 : decode prog_6_method_18_code 12 = .ok (.aload_n 0, 1) := by decide +kernel
theorem d_Machine_isReady_13 : decode prog_6_method_18_code 13 = .ok (.getfield 24, 3) := by decide +kernel
theorem d_Machine_isReady_16 : decode prog_6_method_18_code 16 = .ok (.getfield 69, 3) := by decide +kernel
theorem d_Machine_isReady_19 : decode prog_6_method_18_code 19 = .ok (.ifCond .le 7, 3) := by decide +kernel
theorem d_Machine_isReady_22 : decode prog_6_method_18_code 22 = .ok (.iconst 1, 1) := by decide +kernel
theorem d_Machine_isReady_23 : decode prog_6_method_18_code 23 = .ok (.goto 24, 3) := by decide +kernel
theorem d_Machine_isReady_26 : decode prog_6_method_18_code 26 = .ok (.iconst 0, 1) := by decide +kernel
theorem d_Machine_isReady_27 : decode prog_6_method_18_code 27 = .ok (.goto 20, 3) := by decide +kernel
theorem d_Machine_isReady_30 : decode prog_6_method_18_code 30 = .ok (.aload_n 0, 1) := by decide +kernel
theorem d_Machine_isReady_31 : decode prog_6_method_18_code 31 = .ok (.getfield 17, 3) := by decide +kernel
theorem d_Machine_isReady_34 : decode prog_6_method_18_code 34 = .ok (.iload_n 1, 1) := by decide +kernel
theorem d_Machine_isReady_35 : decode prog_6_method_18_code 35 = .ok (.aaload, 1) := by decide +kernel
theorem d_Machine_isReady_36 : decode prog_6_method_18_code 36 = .ok (.getfield 99, 3) := by decide +kernel
theorem d_Machine_isReady_39 : decode prog_6_method_18_code 39 = .ok (.ifnull 7, 3) := by decide +kernel
theorem d_Machine_isReady_42 : decode prog_6_method_18_code 42 = .ok (.iconst 1, 1) := by decide +kernel
theorem d_Machine_isReady_43 : decode prog_6_method_18_code 43 = .ok (.goto 4, 3) := by decide +kernel
theorem d_Machine_isReady_46 : decode prog_6_method_18_code 46 = .ok (.iconst 0, 1) := by decide +kernel
theorem d_Machine_isReady_47 : decode prog_6_method_18_code 47 = .ok (.ireturn, 1) := by decide +kernel
theorem d_Machine_fetched_0 : decode prog_6_method_19_code 0 = .ok (.aload_n 0, 1) := by decide +kernel
theorem d_Machine_fetched_1 : decode prog_6_method_19_code 1 = .ok (.getfield 17, 3) := by decide +kernel
theorem d_Machine_fetched_4 : decode prog_6_method_19_code 4 = .ok (.iload_n 1, 1) := by decide +kernel
theorem d_Machine_fetched_5 : decode prog_6_method_19_code 5 = .ok (.aaload, 1) := by decide +kernel
theorem d_Machine_fetched_6 : decode prog_6_method_19_code 6 = .ok (.getfield 99, 3) := by decide +kernel
theorem d_Machine_fetched_9 : decode prog_6_method_19_code 9 = .ok (.astore_n 2, 1) := by decide +kernel
theorem d_Machine_fetched_10 : decode prog_6_method_19_code 10 = .ok (.iload_n 1, 1) := by decide +kernel
theorem d_Machine_fetched_11 : decode prog_6_method_19_code 11 = .ok (.iconst 4, 1) := by decide +kernel
theorem d_Machine_fetched_12 : decode prog_6_method_19_code 12 = .ok (.if_icmp .eq 7, 3) := by decide +kernel
theorem d_Machine_fetched_15 : decode prog_6_method_19_code 15 = .ok (.aload_n 2, 1) := by decide +kernel
theorem d_Machine_fetched_16 : decode prog_6_method_19_code 16 = .ok (.ifnonnull 11, 3) := by decide +kernel
theorem d_Machine_fetched_19 : decode prog_6_method_19_code 19 = .ok (.aload_n 0, 1) := by decide +kernel
theorem d_Machine_fetched_20 : decode prog_6_method_19_code 20 = .ok (.getfield 24, 3) := by decide +kernel
theorem d_Machine_fetched_23 : decode prog_6_method_19_code 23 = .ok (.invokevirtual 264, 3) := by decide +kernel
theorem d_Machine_fetched_26 : decode prog_6_method_19_code 26 = .ok (.ireturn, 1) := by decide +kernel
theorem d_Machine_fetched_27 : decode prog_6_method_19_code 27 = .ok (.aload_n 0, 1) := by decide +kernel
theorem d_Machine_fetched_28 : decode prog_6_method_19_code 28 = .ok (.getfield 17, 3) := by decide +kernel
theorem d_Machine_fetched_31 : decode prog_6_method_19_code 31 = .ok (.iload_n 1, 1) := by decide +kernel
theorem d_Machine_fetched_32 : decode prog_6_method_19_code 32 = .ok (.aaload, 1) := by decide +kernel
theorem d_Machine_fetched_33 : decode prog_6_method_19_code 33 = .ok (.aconst_null, 1) := by decide +kernel
theorem d_Machine_fetched_34 : decode prog_6_method_19_code 34 = .ok (.putfield 99, 3) := by decide +kernel
theorem d_Machine_fetched_37 : decode prog_6_method_19_code 37 = .ok (.aload_n 0, 1) := by decide +kernel
theorem d_Machine_fetched_38 : decode prog_6_method_19_code 38 = .ok (.aload_n 2, 1) := by decide +kernel
theorem d_Machine_fetched_39 : decode prog_6_method_19_code 39 = .ok (.invokevirtual 147, 3) := by decide +kernel
theorem d_Machine_fetched_42 : decode prog_6_method_19_code 42 = .ok (.aload_n 2, 1) := by decide +kernel
theorem d_Machine_fetched_43 : decode prog_6_method_19_code 43 = .ok (.getfield 249, 3) := by decide +kernel
theorem d_Machine_fetched_46 : decode prog_6_method_19_code 46 = .ok (.ireturn, 1) := by decide +kernel
theorem y_keepT {z : Nat → Nat} {ar : Nat → ClassId} {G : Nat → Nat} {C Gs : Nat → List Nat} {f f' : Nat → Option va_E} {t x w w2 : Nat} {m m2 : Option Nat} {a a2 a3 : Nat} {b r v b2 r2 v2 b3 r3 v3 : Int32} {u u2 u3 : Int64} (h : y_DY z ar G C Gs f') (ht : G t = 8) (hf : f t = some (.inr (8, y_Tf w m a b r v u))) (hx : f x = some (.inr (8, y_Tf w2 m2 a2 b2 r2 v2 u2))) (hL : f' = y_Lu f x (.inr (8, y_Tf w2 m2 a3 b3 r3 v3 u3))) : ∃ (a' : Nat) (b' r' v' : Int32) (u' : Int64), f' t = some (.inr (8, y_Tf w m a' b' r' v' u')) ∧ G a' = 7 := by
  have key : ∃ (a' : Nat) (b' r' v' : Int32) (u' : Int64), f' t = some (.inr (8, y_Tf w m a' b' r' v' u')) := by
    by_cases e : t = x
    · subst e
      rw [hf] at hx
      simp only [y_Tf, Option.some.injEq, Sum.inr.injEq, Prod.mk.injEq, List.cons.injEq, Value.ref.injEq, Value.int.injEq, Value.long.injEq, true_and, and_true] at hx
      obtain ⟨e1, e2, _⟩ := hx
      have e3 := y_rf_inj e2
      subst e1 e3
      exact ⟨a3, b3, r3, v3, u3, by rw [hL, y_Lu_s]⟩
    · exact ⟨a, b, r, v, u, by rw [hL, y_Lu_n e]; exact hf⟩
  obtain ⟨a', b', r', v', u', h1⟩ := key
  obtain ⟨w5, m5, a5, b5, r5, v5, u5, h2, _, _, h3⟩ := h.2.1 t ht
  rw [h1] at h2
  simp only [y_Tf, Option.some.injEq, Sum.inr.injEq, Prod.mk.injEq, List.cons.injEq, Value.ref.injEq, Value.int.injEq, Value.long.injEq, true_and, and_true] at h2
  obtain ⟨_, _, e3, _⟩ := h2
  subst e3
  exact ⟨a', b', r', v', u', h1, h3⟩
set_option maxHeartbeats 4000000 in
set_option maxRecDepth 100000 in
theorem c_M_close (l : Launch) (dC : Nat → ClassId) (dI : Nat → Nat → Nat) (ar : Nat → ClassId) (N0 : Nat) (z : Nat → Nat) (ad : Nat → Nat) (I : Nat → Int32) (T : Int64) (A : Nat → Nat → Int32) (O : Nat → Option Nat) (pl : va_W) (G : Nat → Nat) (C Gs : Nat → List Nat) (qn sn cq cs : Nat) (vv : Int32) (sz w0 : Nat) (hmi : y_MI z ar G C Gs I O (y_L pl) (qn, sn, cq, cs))  : Met l ({ cls := "ChannelMachine$Machine", name := "close", desc := "(I)V" } : Jvm.MethodName) ((Jvm.Cond.code ({ cls := "ChannelMachine$Machine", name := "close", desc := "(I)V" } : Jvm.MethodName) prog_6_method_4_code (3 : Nat) (Option.none : Option Jvm.ClassFile.FieldType)) :: x_T) ({ frames := 1, cells := 0, slots := 0, locals := 23 }) (y_Pc (dC, dI) ar N0 z (y_W ad ar I T A O pl) sz w0 [.ref (ad 4), .int vv]) (va_Qv (fun (u : (Nat → Int32) × Int64 × (Nat → Nat → Int32) × (Nat → Option Nat) × va_W × (Nat × Nat × Nat × Nat)) => y_MI z ar G C Gs u.1 u.2.2.2.1 (y_L u.2.2.2.2.1) u.2.2.2.2.2 ∧ u.2.2.2.2.2 = (0, 0, cq, cs) ∧ m_fr [7, 8, 12, 13, 14, 15] I u.1 ∧ u.1 7 = vv ∧ u.2.1 = T ∧ u.2.2.1 = A ∧ ∀ c, c < 6 → u.2.2.2.1 (3 + 3 * c) = none ∧ u.2.2.2.1 (4 + 3 * c) = none) (fun u t => va_P (dC, dI) y_cl (y_W ad ar u.1 u.2.1 u.2.2.1 u.2.2.2.1 u.2.2.2.2.1) t.heap ∧ va_D (va_A (y_W ad ar I T A O pl) sz) (y_W ad ar u.1 u.2.1 u.2.2.1 u.2.2.2.1 u.2.2.2.2.1) ∧ y_ac (cq + cs) sz w0 (u.2.2.2.2.2.2.2.1 + u.2.2.2.2.2.2.2.2) t.heap) (va_A (y_W ad ar I T A O pl) sz)) (0) (0) (va_A (y_W ad ar I T A O pl) sz) := by
  refine Met.ofW (cc := prog_6_method_4_code) (maxL := 3) (ret := none) (by decide) rfl ?_
  intro p e s m args below meth c s₁ B hml hv
  obtain ⟨rfl, hsz, hN0, hP, hU, hZ, hD0, hw0⟩ := hv
  have hK := hU.2.1
  have hx := B.exec
  have hb := B.bytes
  have hr := B.returns
  have hts : ∀ w ∈ x_T, w.before ([.ref (ad 4), .int vv] : List Value).toArray s = true := fun w h => atoms_spec (ws := (Jvm.Cond.code ({ cls := "ChannelMachine$Machine", name := "close", desc := "(I)V" } : Jvm.MethodName) prog_6_method_4_code (3 : Nat) (Option.none : Option Jvm.ClassFile.FieldType)) :: x_T) B.pre w (List.mem_cons_of_mem _ h)
  have hown : s.vm.findClass "ChannelMachine$Machine" = some m.cls := findClass_of_methodNamed B.named
  have hlocks := B.notSynchronized
  subst hsz
  subst hw0
  have hD := hD0.self (sz := s.heap.size)
  have hAN := x_AN hD0 hN0
  generalize hAe : va_A (y_W ad ar I T A O pl) s.heap.size = Bq at hD hAN ⊢
  have hA : ∀ q : Nat, s.heap.size ≤ q → Bq q := fun q h => by rw [← hAe]; exact Or.inr h
  have hS : va_S Bq s.heap s.heap [] := va_S.rf
  have hl := lv_entry ([.ref (ad 4), .int vv]) (n := 3) (Nat.le_of_ble_eq_true rfl)
  rw [lg_entry_eq]
  generalize (lg_sl ([.ref (ad 4), .int vv]) ++ List.replicate (3 - (lg_sl ([.ref (ad 4), .int vv])).length) Slot.unset).toArray = ls at hl ⊢
  have hl : lv_has ls 3 [(0, .ref (ad 4)), (1, .int vv)] := hl
  have hle := y_LS.le hmi.2.1.2
  have hcap := hmi.2.2.2.2.1
  dsimp only at hcap
  refine lv_aload_n hx hb d_Machine_close_0 rfl (lv_at hl 0 rfl) ?_
  refine lv_iload_n hx hb d_Machine_close_1 rfl (lv_at hl 1 rfl) ?_
  refine k_pi (C := "ChannelMachine$Machine") (F := F_Machine) (N := 11) hx hb hts i_Machine hown t_Machine t_Machine_ok n_Machine hK hP hD hS 4 7 (by decide) (by decide) rfl (by decide) (j := 7) (x := vv) rfl (hts _ k_163) (fun _ h9 => h9) rfl (by decide +kernel) d_Machine_close_2 (fun H locs hP hD hS => ?_)
  have hmi : y_MI z ar G C Gs (upd I 7 vv) O (y_L pl) (qn, sn, cq, cs) := hmi
  refine lv_aload_n hx hb d_Machine_close_5 rfl (lv_at hl 0 rfl) ?_
  refine lv_iconst (v := 0) hx hb d_Machine_close_6 (by decide) ?_
  refine k_pi (C := "ChannelMachine$Machine") (F := F_Machine) (N := 11) hx hb hts i_Machine hown t_Machine t_Machine_ok n_Machine hK hP hD hS 4 8 (by decide) (by decide) rfl (by decide) (j := 8) (x := 0) rfl (hts _ k_165) (fun _ h9 => h9) rfl (by decide +kernel) d_Machine_close_7 (fun H locs hP hD hS => ?_)
  have hmi : y_MI z ar G C Gs (upd (upd I 7 vv) 8 0) O (y_L pl) (qn, sn, cq, cs) := hmi
  refine lv_aload_n hx hb d_Machine_close_10 rfl (lv_at hl 0 rfl) ?_
  refine k_g (C := "ChannelMachine$Machine") (F := F_Machine) (N := 11) hx hb hts i_Machine hown hK hP 4 4 (by decide) (by decide) rfl (by decide) (d := (0, 11)) rfl (hts _ k_158) (fun _ h9 => h9) (v := .ref (ad 11)) rfl d_Machine_close_11 ?_
  have hFc := y_free hD hS hA
  refine va_callFv (va_runF (As := []) (rest := []) (hK.1 0 _ rfl).2 ⟨hx, hb, hml, hown, hts⟩ (c_L_clear_11 l dC dI ar N0 z ad (upd (upd I 7 vv) 8 0) T A O pl G C Gs qn sn cq cs H.size (y_hs H) hmi) (va_cwF 0 hts (x_goodF k_621 k_624 k_626 k_7 k_628) rfl rfl rfl hU.2.2.2.1 (by decide +kernel) ⟨Nat.le_of_ble_eq_true rfl, Nat.le_of_ble_eq_true rfl⟩) ⟨y_blind, va_recv hK hP (ci := 0) (q0 := 11) rfl (y_W_ob (by decide) (by decide)), fun U9 hU9 hW9 => y_pre hU9 hW9 hP hD hU hZ hS hAN hN0⟩ rfl rfl hl.1 rfl (lv_room (Nat.le_of_ble_eq_true rfl)) d_Machine_close_14 ⟨(by show 0 + (0) ≤ 0; omega), (by show 0 + (0) ≤ 0; omega)⟩) hS (fun q _ h => hFc q h) hFc (fun u t H1 locs ht hvm hw hB hz1 hk1 hS => ?_)
  obtain ⟨I1, T1, A1, O1, pl1, q1, s1, cq1, cs1⟩ := u
  dsimp only at hw hB
  rw [ht] at hB
  obtain ⟨hP, hD1, hac1⟩ := hB
  have hD : va_D Bq (y_W ad ar I1 T1 A1 O1 pl1) := hD1.weaken (fun _ q _ h => hFc q.1 h)
  generalize H1 = H at hP hS hac1 ⊢
  refine W.widen (k := 0) (n := 0) (by omega) (by omega) ?_
  obtain ⟨hmi, e5, fr1, e2, e3, e4⟩ := hw
  cases e5
  rw [e2, e3, e4] at hP hD
  rw [e4] at hmi
  have hP : va_P (dC, dI) y_cl (y_W ad ar I1 T A O pl1) H := hP
  have hD : va_D Bq (y_W ad ar I1 T A O pl1) := hD
  have hmi : y_MI z ar G C Gs I1 O (y_L pl1) (0, sn, cq, cs) := hmi
  have hbdr1 : y_bd (qn, sn, cq, cs) (0, sn, cq, cs) 0 0 := ⟨by dsimp only; omega, by dsimp only; omega, Or.inl rfl, Or.inl rfl⟩
  refine lv_aload_n hx hb d_Machine_close_19 rfl (lv_at hl 0 rfl) ?_
  refine k_g (C := "ChannelMachine$Machine") (F := F_Machine) (N := 11) hx hb hts i_Machine hown hK hP 4 5 (by decide) (by decide) rfl (by decide) (d := (0, 12)) rfl (hts _ k_160) (fun _ h9 => h9) (v := .ref (ad 12)) rfl d_Machine_close_20 ?_
  have hFc := y_free hD hS hA
  refine va_callFv (va_runF (As := []) (rest := []) (hK.1 0 _ rfl).2 ⟨hx, hb, hml, hown, hts⟩ (c_L_clear_12 l dC dI ar N0 z ad I1 T A O pl1 G C Gs 0 sn cq cs H.size (y_hs H) hmi) (va_cwF 0 hts (x_goodF k_621 k_624 k_626 k_7 k_628) rfl rfl rfl hU.2.2.2.1 (by decide +kernel) ⟨Nat.le_of_ble_eq_true rfl, Nat.le_of_ble_eq_true rfl⟩) ⟨y_blind, va_recv hK hP (ci := 0) (q0 := 12) rfl (y_W_ob (by decide) (by decide)), fun U9 hU9 hW9 => y_pre hU9 hW9 hP hD hU hZ hS hAN hN0⟩ rfl rfl hl.1 rfl (lv_room (Nat.le_of_ble_eq_true rfl)) d_Machine_close_23 ⟨(by show 0 + (0) ≤ 0; omega), (by show 0 + (0) ≤ 0; omega)⟩) hS (fun q _ h => hFc q h) hFc (fun u t H1 locs ht hvm hw hB hz1 hk1 hS => ?_)
  obtain ⟨I2, T2, A2, O2, pl2, q2, s2, cq2, cs2⟩ := u
  dsimp only at hw hB
  rw [ht] at hB
  obtain ⟨hP, hD1, hac2⟩ := hB
  have hD : va_D Bq (y_W ad ar I2 T2 A2 O2 pl2) := hD1.weaken (fun _ q _ h => hFc q.1 h)
  generalize H1 = H at hP hS hac2 ⊢
  refine W.widen (k := 0) (n := 0) (by omega) (by omega) ?_
  obtain ⟨hmi, e5, fr2, e2, e3, e4⟩ := hw
  cases e5
  rw [e2, e3, e4] at hP hD
  rw [e4] at hmi
  have hP : va_P (dC, dI) y_cl (y_W ad ar I2 T A O pl2) H := hP
  have hD : va_D Bq (y_W ad ar I2 T A O pl2) := hD
  have hmi : y_MI z ar G C Gs I2 O (y_L pl2) (0, 0, cq, cs) := hmi
  have hbdr2 : y_bd (0, sn, cq, cs) (0, 0, cq, cs) 0 0 := ⟨by dsimp only; omega, by dsimp only; omega, Or.inl rfl, Or.inl rfl⟩
  refine lv_iconst (v := 0) hx hb d_Machine_close_28 (by decide) ?_
  refine W.eq (g2 := F0 m 29 ls [.int (Int32.ofNat 0)]) rfl ?_
  refine lv_istore_n (lv' := [(2, .int (Int32.ofNat 0)), (0, .ref (ad 4)), (1, .int vv)]) hx hb d_Machine_close_29 rfl hl (by decide) rfl (fun ls hl => ?_)
  have hmi : y_MI z ar G C Gs I2 O (y_L pl2) (0, 0, cq, cs) := hmi
  have h7 : I2 7 = vv := (fr2 7 (by decide)).trans ((fr1 7 (by decide)).trans rfl)
  refine x_while (fun n H locs ls => ∃ (O1 : Nat → Option Nat) (i1 : Nat), n = 6 - i1 ∧ i1 ≤ 6 ∧ y_MI z ar G C Gs I2 O1 (y_L pl2) (0, 0, cq, cs) ∧ (∀ c, c < i1 → O1 (3 + 3 * c) = none ∧ O1 (4 + 3 * c) = none) ∧ va_P (dC, dI) y_cl (y_W ad ar I2 T A O1 pl2) H ∧ va_D Bq (y_W ad ar I2 T A O1 pl2) ∧ va_S Bq s.heap H locs ∧ lv_has ls 3 [(0, .ref (ad 4)), (2, .int (Int32.ofNat i1))]) (fun n ih H locs ls h9 => ?_) ⟨O, 0, rfl, Nat.zero_le _, hmi, fun c hc => absurd hc (Nat.not_lt_zero c), hP, hD, hS, lv_sub hl [1, 0] rfl⟩
  clear hmi hP hD hS hl
  obtain ⟨O1, i1, hn9, q9, hmi, hno, hP, hD, hS, hl⟩ := h9
  refine lv_iload_n hx hb d_Machine_close_30 rfl (lv_at hl 1 rfl) ?_
  refine lv_bipush (v := 6) hx hb d_Machine_close_31 (by decide) ?_
  refine lv_icmp_ge (tgt := 62) hx hb d_Machine_close_33 (by decide) (fun c_3 => ?_) (fun c_3 => ?_)
  · have c_3 : 6 ≤ i1 := (x_leN (a := 6) (b := i1) (by omega) (by omega)).mp c_3
    refine y_know (fun hy91 hy92 hy93 hy94 => ?_)
    have hac9 : y_ac (cq + cs) s.heap.size (y_hs s.heap) (cq + cs) H := ⟨by omega, by omega⟩
    refine W.widen (k := 0) (n := 0) (by omega) (by omega) ?_
    exact W.vret hx hb hr (fun t ht hW => ⟨⟨(I2, T, A, O1, pl2, (0, 0, cq, cs)), rfl, ⟨hmi, rfl, ((((m_fr.rf.up (by decide) _).up (by decide) _).tr fr1 (by decide)).tr fr2 (by decide)), h7, rfl, rfl, fun c hc => hno c (by omega)⟩, (by dsimp only; rw [ht]; exact ⟨hP, hD, hac9⟩)⟩, hS.F ht⟩) hS.2.2 d_Machine_close_62
  · have c_3 : ¬ 6 ≤ i1 := fun h9 => c_3 ((x_leN (a := 6) (b := i1) (by omega) (by omega)).mpr h9)
    refine lv_aload_n hx hb d_Machine_close_36 rfl (lv_at hl 0 rfl) ?_
    refine k_g (C := "ChannelMachine$Machine") (F := F_Machine) (N := 11) hx hb hts i_Machine hown hK hP 4 1 (by decide) (by decide) rfl (by decide) (d := (0, 6)) rfl (hts _ k_152) (fun _ h9 => h9) (v := .ref (ad 6)) rfl d_Machine_close_37 ?_
    refine lv_iload_n hx hb d_Machine_close_40 rfl (lv_at hl 1 rfl) ?_
    refine k_chl hx hb hK hP (n := i1) (by omega) d_Machine_close_41 ?_
    refine lv_null hx hb d_Machine_close_42 ?_
    refine k_poN (C := "ChannelMachine$Channel") (F := F_Channel) (N := 4) hx hb hts i_Channel hown t_Channel t_Channel_ok n_Channel hK hP hD hS (14 + i1) 0 (by omega) (y_cc (by omega)) (y_ccl (by omega)) (by decide) (j := (3 + 3 * i1)) (x := none) (ty := (.object "ChannelMachine$Task")) (y_dc0 (by omega)) (hU.1.2.1 _ kn_132) (fun _ h9 => h9) rfl (by decide +kernel) rfl rfl d_Machine_close_43 (fun H locs hP hD hS => ?_)
    have hmi : y_MI z ar G C Gs I2 (y_up O1 ((3 + 3 * i1)) none) (y_L pl2) (0, 0, cq, cs) := hmi.snd (c := i1) (by omega) (fun a ha => nomatch ha)
    refine lv_aload_n hx hb d_Machine_close_46 rfl (lv_at hl 0 rfl) ?_
    refine k_g (C := "ChannelMachine$Machine") (F := F_Machine) (N := 11) hx hb hts i_Machine hown hK hP 4 1 (by decide) (by decide) rfl (by decide) (d := (0, 6)) rfl (hts _ k_152) (fun _ h9 => h9) (v := .ref (ad 6)) rfl d_Machine_close_47 ?_
    refine lv_iload_n hx hb d_Machine_close_50 rfl (lv_at hl 1 rfl) ?_
    refine k_chl hx hb hK hP (n := i1) (by omega) d_Machine_close_51 ?_
    refine lv_null hx hb d_Machine_close_52 ?_
    refine k_poN (C := "ChannelMachine$Channel") (F := F_Channel) (N := 4) hx hb hts i_Channel hown t_Channel t_Channel_ok n_Channel hK hP hD hS (14 + i1) 1 (by omega) (y_cc (by omega)) (y_ccl (by omega)) (by decide) (j := (4 + 3 * i1)) (x := none) (ty := (.object "ChannelMachine$Task")) (y_dc1 (by omega)) (hU.1.2.1 _ kn_135) (fun _ h9 => h9) rfl (by decide +kernel) rfl rfl d_Machine_close_53 (fun H locs hP hD hS => ?_)
    have hmi : y_MI z ar G C Gs I2 (y_up (y_up O1 ((3 + 3 * i1)) none) ((4 + 3 * i1)) none) (y_L pl2) (0, 0, cq, cs) := hmi.rcv0 (c := i1) (by omega)
    refine lv_iinc (v := (Int32.ofNat (i1 + 1))) (lv' := [(2, .int (Int32.ofNat (i1 + 1))), (0, .ref (ad 4))]) hx hb d_Machine_close_56 hl (k := 1) rfl (x_incN i1) (by decide) rfl (fun ls hl => ?_)
    refine lv_goto (tgt := 30) hx hb d_Machine_close_59 (by decide) ?_
    refine ih (6 - (i1 + 1)) (by omega) H locs ls ⟨(y_up (y_up O1 ((3 + 3 * i1)) none) ((4 + 3 * i1)) none), i1 + 1, rfl, by omega, hmi, fun c hc => ?_, hP, hD, hS, lv_sub hl [1, 0] rfl⟩
    by_cases e9 : c = i1
    · subst e9; exact ⟨by rw [y_up_n (by omega), y_up_s], by rw [y_up_s]⟩
    · rw [y_up_n (by omega), y_up_n (by omega), y_up_n (by omega), y_up_n (by omega)]; exact hno c (by omega)
set_option maxHeartbeats 4000000 in
set_option maxRecDepth 100000 in
theorem c_M_host (l : Launch) (dC : Nat → ClassId) (dI : Nat → Nat → Nat) (ar : Nat → ClassId) (N0 : Nat) (z : Nat → Nat) (ad : Nat → Nat) (I : Nat → Int32) (T : Int64) (A : Nat → Nat → Int32) (O : Nat → Option Nat) (pl : va_W) (G : Nat → Nat) (C Gs : Nat → List Nat) (qn sn cq cs : Nat) (sz w0 : Nat) (hmi : y_MI z ar G C Gs I O (y_L pl) (qn, sn, cq, cs))  : Met l ({ cls := "ChannelMachine$Machine", name := "isHostAwaited", desc := "()Z" } : Jvm.MethodName) ((Jvm.Cond.code ({ cls := "ChannelMachine$Machine", name := "isHostAwaited", desc := "()Z" } : Jvm.MethodName) prog_6_method_6_code (1 : Nat) (Option.some Jvm.ClassFile.FieldType.boolean)) :: x_T) ({ frames := 0, cells := 0, slots := 0, locals := 0 }) (y_Pc (dC, dI) ar N0 z (y_W ad ar I T A O pl) sz w0 [.ref (ad 4)]) (va_Qi (fun (r : Int32) (u : (Nat → Int32) × Int64 × (Nat → Nat → Int32) × (Nat → Option Nat) × va_W × (Nat × Nat × Nat × Nat)) => u = (I, T, A, O, pl, qn, sn, cq, cs) ∧ (r = 0 ∨ r = 1)) (fun u t => va_P (dC, dI) y_cl (y_W ad ar u.1 u.2.1 u.2.2.1 u.2.2.2.1 u.2.2.2.2.1) t.heap ∧ va_D (va_A (y_W ad ar I T A O pl) sz) (y_W ad ar u.1 u.2.1 u.2.2.1 u.2.2.2.1 u.2.2.2.2.1) ∧ y_ac (cq + cs) sz w0 (u.2.2.2.2.2.2.2.1 + u.2.2.2.2.2.2.2.2) t.heap) (va_A (y_W ad ar I T A O pl) sz)) (0) (0) (va_A (y_W ad ar I T A O pl) sz) := by
  refine Met.ofW (cc := prog_6_method_6_code) (maxL := 1) (ret := (some .boolean)) (by decide) rfl ?_
  intro p e s m args below meth c s₁ B hml hv
  obtain ⟨rfl, hsz, hN0, hP, hU, hZ, hD0, hw0⟩ := hv
  have hK := hU.2.1
  have hx := B.exec
  have hb := B.bytes
  have hr := B.returns
  have hts : ∀ w ∈ x_T, w.before ([.ref (ad 4)] : List Value).toArray s = true := fun w h => atoms_spec (ws := (Jvm.Cond.code ({ cls := "ChannelMachine$Machine", name := "isHostAwaited", desc := "()Z" } : Jvm.MethodName) prog_6_method_6_code (1 : Nat) (Option.some Jvm.ClassFile.FieldType.boolean)) :: x_T) B.pre w (List.mem_cons_of_mem _ h)
  have hown : s.vm.findClass "ChannelMachine$Machine" = some m.cls := findClass_of_methodNamed B.named
  have hlocks := B.notSynchronized
  subst hsz
  subst hw0
  have hD := hD0.self (sz := s.heap.size)
  have hAN := x_AN hD0 hN0
  generalize hAe : va_A (y_W ad ar I T A O pl) s.heap.size = Bq at hD hAN ⊢
  have hA : ∀ q : Nat, s.heap.size ≤ q → Bq q := fun q h => by rw [← hAe]; exact Or.inr h
  have hS : va_S Bq s.heap s.heap [] := va_S.rf
  have hl := lv_entry ([.ref (ad 4)]) (n := 1) (Nat.le_of_ble_eq_true rfl)
  rw [lg_entry_eq]
  generalize (lg_sl ([.ref (ad 4)]) ++ List.replicate (1 - (lg_sl ([.ref (ad 4)])).length) Slot.unset).toArray = ls at hl ⊢
  have hl : lv_has ls 1 [(0, .ref (ad 4))] := hl
  refine lv_aload_n hx hb d_Machine_isHostAwaited_0 rfl (lv_at hl 0 rfl) ?_
  refine k_g (C := "ChannelMachine$Machine") (F := F_Machine) (N := 11) hx hb hts i_Machine hown hK hP 4 1 (by decide) (by decide) rfl (by decide) (d := (0, 6)) rfl (hts _ k_152) (fun _ h9 => h9) (v := .ref (ad 6)) rfl d_Machine_isHostAwaited_1 ?_
  refine lv_iconst (v := 4) hx hb d_Machine_isHostAwaited_4 (by decide) ?_
  refine W.eq (g2 := F0 m 5 ls [.int (Int32.ofNat 4), .ref (ad 6)]) rfl ?_
  refine k_chl hx hb hK hP (n := 4) (by omega) d_Machine_isHostAwaited_5 ?_
  refine W.eq (g2 := F0 m 6 ls [.ref (ad 18)]) rfl ?_
  refine k_gN (C := "ChannelMachine$Channel") (F := F_Channel) (N := 4) hx hb hts i_Channel hown hK hP 18 1 (by decide) (by decide) rfl (by decide) (d := (3, 16)) rfl (hU.1.2.1 _ kn_135) (fun _ h9 => h9) (v := va_rf (O 16)) rfl d_Machine_isHostAwaited_6 ?_
  rcases hOx1 : O 16 with _ | x1
  · refine W.eq (g2 := F0 m 9 ls [.null]) rfl ?_
    refine lv_ifnonnullN hx hb d_Machine_isHostAwaited_9 ?_
    refine lv_aload_n hx hb d_Machine_isHostAwaited_12 rfl (lv_at hl 0 rfl) ?_
    refine k_g (C := "ChannelMachine$Machine") (F := F_Machine) (N := 11) hx hb hts i_Machine hown hK hP 4 1 (by decide) (by decide) rfl (by decide) (d := (0, 6)) rfl (hts _ k_152) (fun _ h9 => h9) (v := .ref (ad 6)) rfl d_Machine_isHostAwaited_13 ?_
    refine lv_iconst (v := 5) hx hb d_Machine_isHostAwaited_16 (by decide) ?_
    refine W.eq (g2 := F0 m 17 ls [.int (Int32.ofNat 5), .ref (ad 6)]) rfl ?_
    refine k_chl hx hb hK hP (n := 5) (by omega) d_Machine_isHostAwaited_17 ?_
    refine W.eq (g2 := F0 m 18 ls [.ref (ad 19)]) rfl ?_
    refine k_gN (C := "ChannelMachine$Channel") (F := F_Channel) (N := 4) hx hb hts i_Channel hown hK hP 19 0 (by decide) (by decide) rfl (by decide) (d := (3, 18)) rfl (hU.1.2.1 _ kn_132) (fun _ h9 => h9) (v := va_rf (O 18)) rfl d_Machine_isHostAwaited_18 ?_
    rcases hOx2 : O 18 with _ | x2
    · refine W.eq (g2 := F0 m 21 ls [.null]) rfl ?_
      refine lv_ifnullN (tgt := 28) hx hb d_Machine_isHostAwaited_21 (by decide) ?_
      refine lv_iconst (v := 0) hx hb d_Machine_isHostAwaited_28 (by decide) ?_
      refine y_know (fun hy91 hy92 hy93 hy94 => ?_)
      have hac9 : y_ac (cq + cs) s.heap.size (y_hs s.heap) (cq + cs) s.heap := ⟨by omega, by omega⟩
      refine W.widen (k := 0) (n := 0) (by omega) (by omega) ?_
      exact W.zret (v := 0) hx hb hr (rfl) (fun t ht hW => ⟨⟨0, (I, T, A, O, pl, (qn, sn, cq, cs)), rfl, ⟨rfl, Or.inl rfl⟩, (by dsimp only; rw [ht]; exact ⟨hP, hD, hac9⟩)⟩, hS.F ht⟩) hS.2.2 d_Machine_isHostAwaited_29
    · refine W.eq (g2 := F0 m 21 ls [.ref x2]) rfl ?_
      have hx2 : G x2 = 8 := (hmi.2.2.2.2.2.1 5 (by omega)).1 x2 hOx2
      refine lv_ifnull hx hb d_Machine_isHostAwaited_21 ?_
      refine lv_iconst (v := 1) hx hb d_Machine_isHostAwaited_24 (by decide) ?_
      refine lv_goto (tgt := 29) hx hb d_Machine_isHostAwaited_25 (by decide) ?_
      refine y_know (fun hy91 hy92 hy93 hy94 => ?_)
      have hac9 : y_ac (cq + cs) s.heap.size (y_hs s.heap) (cq + cs) s.heap := ⟨by omega, by omega⟩
      refine W.widen (k := 0) (n := 0) (by omega) (by omega) ?_
      exact W.zret (v := 1) hx hb hr (rfl) (fun t ht hW => ⟨⟨1, (I, T, A, O, pl, (qn, sn, cq, cs)), rfl, ⟨rfl, Or.inr rfl⟩, (by dsimp only; rw [ht]; exact ⟨hP, hD, hac9⟩)⟩, hS.F ht⟩) hS.2.2 d_Machine_isHostAwaited_29
  · refine W.eq (g2 := F0 m 9 ls [.ref x1]) rfl ?_
    have hx1 : G x1 = 8 := (hmi.2.2.2.2.2.1 4 (by omega)).2.1 x1 hOx1
    refine lv_ifnonnull (tgt := 24) hx hb d_Machine_isHostAwaited_9 (by decide) ?_
    refine lv_iconst (v := 1) hx hb d_Machine_isHostAwaited_24 (by decide) ?_
    refine lv_goto (tgt := 29) hx hb d_Machine_isHostAwaited_25 (by decide) ?_
    refine y_know (fun hy91 hy92 hy93 hy94 => ?_)
    have hac9 : y_ac (cq + cs) s.heap.size (y_hs s.heap) (cq + cs) s.heap := ⟨by omega, by omega⟩
    refine W.widen (k := 0) (n := 0) (by omega) (by omega) ?_
    exact W.zret (v := 1) hx hb hr (rfl) (fun t ht hW => ⟨⟨1, (I, T, A, O, pl, (qn, sn, cq, cs)), rfl, ⟨rfl, Or.inr rfl⟩, (by dsimp only; rw [ht]; exact ⟨hP, hD, hac9⟩)⟩, hS.F ht⟩) hS.2.2 d_Machine_isHostAwaited_29
set_option maxHeartbeats 4000000 in
set_option maxRecDepth 100000 in
theorem c_M_pause (l : Launch) (dC : Nat → ClassId) (dI : Nat → Nat → Nat) (ar : Nat → ClassId) (N0 : Nat) (z : Nat → Nat) (ad : Nat → Nat) (I : Nat → Int32) (T : Int64) (A : Nat → Nat → Int32) (O : Nat → Option Nat) (pl : va_W) (G : Nat → Nat) (C Gs : Nat → List Nat) (qn sn cq cs : Nat) (sz w0 : Nat) (hmi : y_MI z ar G C Gs I O (y_L pl) (qn, sn, cq, cs))  : Met l ({ cls := "ChannelMachine$Machine", name := "pause", desc := "()V" } : Jvm.MethodName) ((Jvm.Cond.code ({ cls := "ChannelMachine$Machine", name := "pause", desc := "()V" } : Jvm.MethodName) prog_6_method_9_code (1 : Nat) (Option.none : Option Jvm.ClassFile.FieldType)) :: x_T) ({ frames := 3, cells := 0, slots := 0, locals := 106 }) (y_Pc (dC, dI) ar N0 z (y_W ad ar I T A O pl) sz w0 [.ref (ad 4)]) (va_Qv (fun (u : (Nat → Int32) × Int64 × (Nat → Nat → Int32) × (Nat → Option Nat) × va_W × (Nat × Nat × Nat × Nat)) => y_MI z ar G C Gs u.1 u.2.2.2.1 (y_L u.2.2.2.2.1) u.2.2.2.2.2 ∧ y_bd (qn, sn, cq, cs) u.2.2.2.2.2 0 0 ∧ m_fr [12, 13, 14, 15] I u.1) (fun u t => va_P (dC, dI) y_cl (y_W ad ar u.1 u.2.1 u.2.2.1 u.2.2.2.1 u.2.2.2.2.1) t.heap ∧ va_D (va_A (y_W ad ar I T A O pl) sz) (y_W ad ar u.1 u.2.1 u.2.2.1 u.2.2.2.1 u.2.2.2.2.1) ∧ y_ac (cq + cs) sz w0 (u.2.2.2.2.2.2.2.1 + u.2.2.2.2.2.2.2.2) t.heap) (va_A (y_W ad ar I T A O pl) sz)) (0) (0) (va_A (y_W ad ar I T A O pl) sz) := by
  refine Met.ofW (cc := prog_6_method_9_code) (maxL := 1) (ret := none) (by decide) rfl ?_
  intro p e s m args below meth c s₁ B hml hv
  obtain ⟨rfl, hsz, hN0, hP, hU, hZ, hD0, hw0⟩ := hv
  have hK := hU.2.1
  have hx := B.exec
  have hb := B.bytes
  have hr := B.returns
  have hts : ∀ w ∈ x_T, w.before ([.ref (ad 4)] : List Value).toArray s = true := fun w h => atoms_spec (ws := (Jvm.Cond.code ({ cls := "ChannelMachine$Machine", name := "pause", desc := "()V" } : Jvm.MethodName) prog_6_method_9_code (1 : Nat) (Option.none : Option Jvm.ClassFile.FieldType)) :: x_T) B.pre w (List.mem_cons_of_mem _ h)
  have hown : s.vm.findClass "ChannelMachine$Machine" = some m.cls := findClass_of_methodNamed B.named
  have hlocks := B.notSynchronized
  subst hsz
  subst hw0
  have hD := hD0.self (sz := s.heap.size)
  have hAN := x_AN hD0 hN0
  generalize hAe : va_A (y_W ad ar I T A O pl) s.heap.size = Bq at hD hAN ⊢
  have hA : ∀ q : Nat, s.heap.size ≤ q → Bq q := fun q h => by rw [← hAe]; exact Or.inr h
  have hS : va_S Bq s.heap s.heap [] := va_S.rf
  have hl := lv_entry ([.ref (ad 4)]) (n := 1) (Nat.le_of_ble_eq_true rfl)
  rw [lg_entry_eq]
  generalize (lg_sl ([.ref (ad 4)]) ++ List.replicate (1 - (lg_sl ([.ref (ad 4)])).length) Slot.unset).toArray = ls at hl ⊢
  have hl : lv_has ls 1 [(0, .ref (ad 4))] := hl
  refine lv_aload_n hx hb d_Machine_pause_0 rfl (lv_at hl 0 rfl) ?_
  refine k_g (C := "ChannelMachine$Machine") (F := F_Machine) (N := 11) hx hb hts i_Machine hown hK hP 4 4 (by decide) (by decide) rfl (by decide) (d := (0, 11)) rfl (hts _ k_158) (fun _ h9 => h9) (v := .ref (ad 11)) rfl d_Machine_pause_1 ?_
  have hFc := y_free hD hS hA
  refine va_callFi (va_runF (As := []) (rest := []) (hK.1 0 _ rfl).2 ⟨hx, hb, hml, hown, hts⟩ (c_L_isEmpty11 l dC dI ar N0 z ad I T A O pl G C Gs qn sn cq cs s.heap.size (y_hs s.heap) hmi) (va_cwF 0 hts (x_goodF k_727 k_730 k_732 k_7 k_734) rfl rfl rfl hU.2.2.2.2.2.1 (by decide +kernel) ⟨Nat.le_of_ble_eq_true rfl, Nat.le_of_ble_eq_true rfl⟩) ⟨y_blind, va_recv hK hP (ci := 0) (q0 := 11) rfl (y_W_ob (by decide) (by decide)), fun U9 hU9 hW9 => y_pre hU9 hW9 hP hD hU hZ hS hAN hN0⟩ rfl rfl hl.1 rfl (lv_room (Nat.le_of_ble_eq_true rfl)) d_Machine_pause_4 ⟨(by show 0 + (0) ≤ 0; omega), (by show 0 + (0) ≤ 0; omega)⟩) hS (fun q _ h => hFc q h) hFc (fun r_1 u t H1 locs ht hvm hw hB hz1 hk1 hS => ?_)
  obtain ⟨I2, T2, A2, O2, pl2, q2, s2, cq2, cs2⟩ := u
  dsimp only at hw hB
  rw [ht] at hB
  obtain ⟨hP, hD1, hac2⟩ := hB
  have hD : va_D Bq (y_W ad ar I2 T2 A2 O2 pl2) := hD1.weaken (fun _ q _ h => hFc q.1 h)
  generalize H1 = H at hP hS hac2 ⊢
  refine W.widen (k := 0) (n := 0) (by omega) (by omega) ?_
  obtain ⟨h9, hw⟩ := hw
  cases h9
  rcases hw with ⟨rfl, hemp⟩ | ⟨rfl, hemp⟩
  · refine lv_if_ne (tgt := 23) hx hb d_Machine_pause_9 (by decide) (fun _ => ?_) (fun c3 => absurd c3 (by decide))
    refine y_know (fun hy91 hy92 hy93 hy94 => ?_)
    have hac9 : y_ac (cq + cs) s.heap.size (y_hs s.heap) (cq + cs) H := ⟨by omega, by omega⟩
    refine W.widen (k := 0) (n := 0) (by omega) (by omega) ?_
    exact W.vret hx hb hr (fun t ht hW => ⟨⟨(I, T, A, O, pl, (qn, sn, cq, cs)), rfl, ⟨hmi, y_bd.rf, m_fr.rf⟩, (by dsimp only; rw [ht]; exact ⟨hP, hD, hac9⟩)⟩, hS.F ht⟩) hS.2.2 d_Machine_pause_23
  · refine lv_if_ne (tgt := 23) hx hb d_Machine_pause_9 (by decide) (fun c4 => absurd rfl c4) (fun _ => ?_)
    refine lv_aload_n hx hb d_Machine_pause_12 rfl (lv_at hl 0 rfl) ?_
    refine k_g (C := "ChannelMachine$Machine") (F := F_Machine) (N := 11) hx hb hts i_Machine hown hK hP 4 4 (by decide) (by decide) rfl (by decide) (d := (0, 11)) rfl (hts _ k_158) (fun _ h9 => h9) (v := .ref (ad 11)) rfl d_Machine_pause_13 ?_
    refine lv_iconst (v := 0) hx hb d_Machine_pause_16 (by decide) ?_
    refine W.eq (g2 := F0 m 17 ls [.int (Int32.ofNat 0), .ref (ad 11)]) rfl ?_
    have hFc := y_free hD hS hA
    refine va_callFq (va_runF (As := [.int (Int32.ofNat 0)]) (rest := []) (hK.1 0 _ rfl).2 ⟨hx, hb, hml, hown, hts⟩ (c_L_rem_11 l dC dI ar N0 z ad I T A O pl G C Gs qn sn cq cs 0 H.size (y_hs H) hmi (by omega)) (va_cwF 1 hts (x_goodF k_756 k_759 k_761 k_7 k_763) rfl rfl rfl hU.2.2.2.2.2.2.2.1 (by decide +kernel) ⟨Nat.le_of_ble_eq_true rfl, Nat.le_of_ble_eq_true rfl⟩) ⟨y_blind, va_recv hK hP (ci := 0) (q0 := 11) rfl (y_W_ob (by decide) (by decide)), fun U9 hU9 hW9 => y_pre hU9 hW9 hP hD hU hZ hS hAN hN0⟩ rfl rfl hl.1 rfl (lv_room (Nat.le_of_ble_eq_true rfl)) d_Machine_pause_17 ⟨(by show 0 + (0) ≤ 0; omega), (by show 0 + (0) ≤ 0; omega)⟩) hS (fun q _ h => hFc q h) hFc (fun r_5 u t H1 locs ht hvm hw hB hz1 hk1 hS => ?_)
    obtain ⟨I6, T6, A6, O6, pl6, q6, s6, cq6, cs6⟩ := u
    dsimp only at hw hB
    rw [ht] at hB
    obtain ⟨hP, hD1, hac6⟩ := hB
    have hD : va_D Bq (y_W ad ar I6 T6 A6 O6 pl6) := hD1.weaken (fun _ q _ h => hFc q.1 h)
    generalize H1 = H at hP hS hac6 ⊢
    refine W.widen (k := 0) (n := 0) (by omega) (by omega) ?_
    obtain ⟨hr, hmi, e5, fr6, e2, e3, e4⟩ := hw
    cases e5
    rw [e2, e3, e4] at hP hD
    rw [e4] at hmi
    have hP : va_P (dC, dI) y_cl (y_W ad ar I6 T A O pl6) H := hP
    have hD : va_D Bq (y_W ad ar I6 T A O pl6) := hD
    have hmi : y_MI z ar G C Gs I6 O (y_L pl6) (qn - 1, sn, cq, cs) := hmi
    have hbdr6 : y_bd (qn, sn, cq, cs) (qn - 1, sn, cq, cs) 0 0 := ⟨by dsimp only; omega, by dsimp only; omega, Or.inl rfl, Or.inl rfl⟩
    obtain ⟨t_7, rfl, ht_7⟩ := hr
    refine W.eq (g2 := F0 m 22 ls [.ref t_7]) rfl ?_
    refine lv_pop hx hb d_Machine_pause_22 rfl ?_
    refine y_know (fun hy91 hy92 hy93 hy94 => ?_)
    have hac9 : y_ac (cq + cs) s.heap.size (y_hs s.heap) (cq + cs) H := ⟨by omega, by omega⟩
    refine W.widen (k := 0) (n := 0) (by omega) (by omega) ?_
    exact W.vret hx hb hr (fun t ht hW => ⟨⟨(I6, T, A, O, pl6, (qn - 1, sn, cq, cs)), rfl, ⟨hmi, (y_bd.tr hbdr6 (y_bd.rf (a := 0) (b := 0)) (e := 0) (g := 0) (by decide) (by decide)), (m_fr.rf.tr fr6 (by decide))⟩, (by dsimp only; rw [ht]; exact ⟨hP, hD, hac9⟩)⟩, hS.F ht⟩) hS.2.2 d_Machine_pause_23
set_option maxHeartbeats 4000000 in
set_option maxRecDepth 100000 in
theorem c_M_resume (l : Launch) (dC : Nat → ClassId) (dI : Nat → Nat → Nat) (ar : Nat → ClassId) (N0 : Nat) (z : Nat → Nat) (ad : Nat → Nat) (I : Nat → Int32) (T : Int64) (A : Nat → Nat → Int32) (O : Nat → Option Nat) (pl : va_W) (G : Nat → Nat) (C Gs : Nat → List Nat) (qn sn cq cs : Nat) (tt : Nat) (sz w0 : Nat) (hmi : y_MI z ar G C Gs I O (y_L pl) (qn, sn, cq, cs)) (htt : G tt = 8) (hlim : qn ≤ 20000000) : Met l ({ cls := "ChannelMachine$Machine", name := "resume", desc := "(LChannelMachine$Task;)V" } : Jvm.MethodName) ((Jvm.Cond.code ({ cls := "ChannelMachine$Machine", name := "resume", desc := "(LChannelMachine$Task;)V" } : Jvm.MethodName) prog_6_method_10_code (2 : Nat) (Option.none : Option Jvm.ClassFile.FieldType)) :: x_T) ({ frames := 7, cells := y_gc qn cq, slots := y_gs qn cq, locals := 191 }) (y_Pc (dC, dI) ar N0 z (y_W ad ar I T A O pl) sz w0 [.ref (ad 4), .ref tt]) (va_Qv (fun (u : (Nat → Int32) × Int64 × (Nat → Nat → Int32) × (Nat → Option Nat) × va_W × (Nat × Nat × Nat × Nat)) => y_MI z ar G C Gs u.1 u.2.2.2.1 (y_L u.2.2.2.2.1) u.2.2.2.2.2 ∧ y_bd (qn, sn, cq, cs) u.2.2.2.2.2 1 0 ∧ m_fr [12, 13, 14, 15] I u.1) (fun u t => va_P (dC, dI) y_cl (y_W ad ar u.1 u.2.1 u.2.2.1 u.2.2.2.1 u.2.2.2.2.1) t.heap ∧ va_D (va_A (y_W ad ar I T A O pl) sz) (y_W ad ar u.1 u.2.1 u.2.2.1 u.2.2.2.1 u.2.2.2.2.1) ∧ y_ac (cq + cs) sz w0 (u.2.2.2.2.2.2.2.1 + u.2.2.2.2.2.2.2.2) t.heap) (va_A (y_W ad ar I T A O pl) sz)) (y_gc qn cq) (y_gs qn cq) (va_A (y_W ad ar I T A O pl) sz) := by
  refine Met.ofW (cc := prog_6_method_10_code) (maxL := 2) (ret := none) (by decide) rfl ?_
  intro p e s m args below meth c s₁ B hml hv
  obtain ⟨rfl, hsz, hN0, hP, hU, hZ, hD0, hw0⟩ := hv
  have hK := hU.2.1
  have hx := B.exec
  have hb := B.bytes
  have hr := B.returns
  have hts : ∀ w ∈ x_T, w.before ([.ref (ad 4), .ref tt] : List Value).toArray s = true := fun w h => atoms_spec (ws := (Jvm.Cond.code ({ cls := "ChannelMachine$Machine", name := "resume", desc := "(LChannelMachine$Task;)V" } : Jvm.MethodName) prog_6_method_10_code (2 : Nat) (Option.none : Option Jvm.ClassFile.FieldType)) :: x_T) B.pre w (List.mem_cons_of_mem _ h)
  have hown : s.vm.findClass "ChannelMachine$Machine" = some m.cls := findClass_of_methodNamed B.named
  have hlocks := B.notSynchronized
  subst hsz
  subst hw0
  have hD := hD0.self (sz := s.heap.size)
  have hAN := x_AN hD0 hN0
  generalize hAe : va_A (y_W ad ar I T A O pl) s.heap.size = Bq at hD hAN ⊢
  have hA : ∀ q : Nat, s.heap.size ≤ q → Bq q := fun q h => by rw [← hAe]; exact Or.inr h
  have hS : va_S Bq s.heap s.heap [] := va_S.rf
  have hl := lv_entry ([.ref (ad 4), .ref tt]) (n := 2) (Nat.le_of_ble_eq_true rfl)
  rw [lg_entry_eq]
  generalize (lg_sl ([.ref (ad 4), .ref tt]) ++ List.replicate (2 - (lg_sl ([.ref (ad 4), .ref tt])).length) Slot.unset).toArray = ls at hl ⊢
  have hl : lv_has ls 2 [(0, .ref (ad 4)), (1, .ref tt)] := hl
  have hle := y_LS.le hmi.2.1.2
  dsimp only at hle
  have hcap := hmi.2.2.2.2.1
  dsimp only at hcap
  have hgg := y_gg qn cq
  refine lv_aload_n hx hb d_Machine_resume_0 rfl (lv_at hl 1 rfl) ?_
  obtain ⟨w1, m1, a1, b1, r1, v1, u1, hf1, hw1, hm1, ha1⟩ := hmi.1.2.1 tt htt
  have hFc := y_free hD hS hA
  refine va_callv (va_runV (As := []) (rest := []) ⟨hx, hb, hml, hown, hts⟩ (c_T_goOn l dC dI ar N0 z ad I T A O pl G C Gs qn sn cq cs tt s.heap.size (y_hs s.heap) hmi htt) (cwV 0 hts (x_goodV k_777 k_778 k_779 k_18 k_780) rfl rfl rfl (by decide +kernel) ⟨Nat.le_of_ble_eq_true rfl, Nat.le_of_ble_eq_true rfl⟩) ⟨y_blind, (by obtain ⟨q9, hq9⟩ := y_L_at hf1; exact va_recv hK hP (ci := 8) (q0 := 20 + q9) rfl (by rw [y_W_pl]; exact hq9)), fun U9 hU9 hW9 => y_pre hU9 hW9 hP hD hU hZ hS hAN hN0⟩ rfl rfl hl.1 rfl (lv_room (Nat.le_of_ble_eq_true rfl)) d_Machine_resume_1 ⟨(by show 0 + (0) ≤ y_gc qn cq; omega), (by show 0 + (0) ≤ y_gs qn cq; omega)⟩) hS (fun q _ h => hFc q h) hFc (fun u t H1 locs ht hvm hw hB hz1 hk1 hS => ?_)
  obtain ⟨I2, T2, A2, O2, pl2, q2, s2, cq2, cs2⟩ := u
  dsimp only at hw hB
  rw [ht] at hB
  obtain ⟨hP, hD1, hac2⟩ := hB
  have hD : va_D Bq (y_W ad ar I2 T2 A2 O2 pl2) := hD1.weaken (fun _ q _ h => hFc q.1 h)
  generalize H1 = H at hP hS hac2 ⊢
  refine W.widen (k := 0) (n := 0) (by omega) (by omega) ?_
  obtain ⟨e1, e2, e3, e4, e5, hmi⟩ := hw
  cases e5
  rw [e1, e2, e3, e4] at hP hD
  rw [e1, e4] at hmi
  have hmi : y_MI z ar G C Gs I O (y_L pl2) (qn, sn, cq, cs) := hmi
  refine lv_aload_n hx hb d_Machine_resume_4 rfl (lv_at hl 0 rfl) ?_
  refine k_g (C := "ChannelMachine$Machine") (F := F_Machine) (N := 11) hx hb hts i_Machine hown hK hP 4 4 (by decide) (by decide) rfl (by decide) (d := (0, 11)) rfl (hts _ k_158) (fun _ h9 => h9) (v := .ref (ad 11)) rfl d_Machine_resume_5 ?_
  refine lv_aload_n hx hb d_Machine_resume_8 rfl (lv_at hl 1 rfl) ?_
  have hgg3 := y_gg qn cq
  refine y_know (fun hya1 hya2 hya3 hya4 => ?_)
  have hFc := y_free hD hS hA
  refine va_callFi (va_runF (As := [.ref tt]) (rest := []) (hK.1 0 _ rfl).2 ⟨hx, hb, hml, hown, hts⟩ (c_L_add_11 l dC dI ar N0 z ad I T A O pl2 G C Gs qn sn cq cs tt H.size (y_hs H) hmi htt (by omega)) (va_cwF 1 hts (x_goodF k_649 k_652 k_654 k_7 k_656) rfl rfl rfl hU.2.2.2.2.1 (by decide +kernel) ⟨Nat.le_of_ble_eq_true rfl, Nat.le_of_ble_eq_true rfl⟩) ⟨y_blind, va_recv hK hP (ci := 0) (q0 := 11) rfl (y_W_ob (by decide) (by decide)), fun U9 hU9 hW9 => y_pre hU9 hW9 hP hD hU hZ hS hAN hN0⟩ rfl rfl hl.1 rfl (lv_room (Nat.le_of_ble_eq_true rfl)) d_Machine_resume_9 ⟨(by show 0 + (y_gc qn cq) ≤ y_gc qn cq; omega), (by show 0 + (y_gs qn cq) ≤ y_gs qn cq; omega)⟩) hS (fun q _ h => hFc q h) hFc (fun r_4 u t H1 locs ht hvm hw hB hz1 hk1 hS => ?_)
  obtain ⟨I5, T5, A5, O5, pl5, q5, s5, cq5, cs5⟩ := u
  dsimp only at hw hB
  rw [ht] at hB
  obtain ⟨hP, hD1, hac5⟩ := hB
  have hD : va_D Bq (y_W ad ar I5 T5 A5 O5 pl5) := hD1.weaken (fun _ q _ h => hFc q.1 h)
  generalize H1 = H at hP hS hac5 ⊢
  obtain ⟨hmi, hbd5, fr5, e2, e3⟩ := hw
  rw [e2, e3] at hP hD
  have hP : va_P (dC, dI) y_cl (y_W ad ar I5 T A O5 pl5) H := hP
  have hD : va_D Bq (y_W ad ar I5 T A O5 pl5) := hD
  unfold y_ac at hac5
  have hb5 := hbd5
  unfold y_bd at hb5
  dsimp only at hb5 hac5
  refine lv_pop hx hb d_Machine_resume_14 rfl ?_
  refine y_know (fun hy91 hy92 hy93 hy94 => ?_)
  have hac9 : y_ac (cq + cs) s.heap.size (y_hs s.heap) (cq5 + cs5) H := ⟨by omega, by omega⟩
  refine W.widen (k := y_gc qn cq) (n := y_gs qn cq) (by omega) (by omega) ?_
  exact W.vret hx hb hr (fun t ht hW => ⟨⟨(I5, T, A, O5, pl5, (q5, s5, cq5, cs5)), rfl, ⟨hmi, (y_bd.tr hbd5 (y_bd.rf (a := 0) (b := 0)) (e := 1) (g := 0) (by decide) (by decide)), (m_fr.rf.tr fr5 (by decide))⟩, (by dsimp only; rw [ht]; exact ⟨hP, hD, hac9⟩)⟩, hS.F ht⟩) hS.2.2 d_Machine_resume_15
set_option maxHeartbeats 4000000 in
set_option maxRecDepth 100000 in
theorem c_M_assign (l : Launch) (dC : Nat → ClassId) (dI : Nat → Nat → Nat) (ar : Nat → ClassId) (N0 : Nat) (z : Nat → Nat) (ad : Nat → Nat) (I : Nat → Int32) (T : Int64) (A : Nat → Nat → Int32) (O : Nat → Option Nat) (pl : va_W) (G : Nat → Nat) (C Gs : Nat → List Nat) (qn sn cq cs : Nat) (vv yv : Int32) (sz w0 : Nat) (hmi : y_MI z ar G C Gs I O (y_L pl) (qn, sn, cq, cs))  : Met l ({ cls := "ChannelMachine$Machine", name := "assign", desc := "(II)V" } : Jvm.MethodName) ((Jvm.Cond.code ({ cls := "ChannelMachine$Machine", name := "assign", desc := "(II)V" } : Jvm.MethodName) prog_6_method_13_code (3 : Nat) (Option.none : Option Jvm.ClassFile.FieldType)) :: x_T) ({ frames := 0, cells := 0, slots := 0, locals := 0 }) (y_Pc (dC, dI) ar N0 z (y_W ad ar I T A O pl) sz w0 [.ref (ad 4), .int vv, .int yv]) (va_Qv (fun (u : (Nat → Int32) × Int64 × (Nat → Nat → Int32) × (Nat → Option Nat) × va_W × (Nat × Nat × Nat × Nat)) => u.1 = I ∧ u.2.1 = T ∧ u.2.2.2.1 = O ∧ u.2.2.2.2.1 = pl ∧ u.2.2.2.2.2 = (qn, sn, cq, cs)) (fun u t => va_P (dC, dI) y_cl (y_W ad ar u.1 u.2.1 u.2.2.1 u.2.2.2.1 u.2.2.2.2.1) t.heap ∧ va_D (va_A (y_W ad ar I T A O pl) sz) (y_W ad ar u.1 u.2.1 u.2.2.1 u.2.2.2.1 u.2.2.2.2.1) ∧ y_ac (cq + cs) sz w0 (u.2.2.2.2.2.2.2.1 + u.2.2.2.2.2.2.2.2) t.heap) (va_A (y_W ad ar I T A O pl) sz)) (0) (0) (va_A (y_W ad ar I T A O pl) sz) := by
  refine Met.ofW (cc := prog_6_method_13_code) (maxL := 3) (ret := none) (by decide) rfl ?_
  intro p e s m args below meth c s₁ B hml hv
  obtain ⟨rfl, hsz, hN0, hP, hU, hZ, hD0, hw0⟩ := hv
  have hK := hU.2.1
  have hx := B.exec
  have hb := B.bytes
  have hr := B.returns
  have hts : ∀ w ∈ x_T, w.before ([.ref (ad 4), .int vv, .int yv] : List Value).toArray s = true := fun w h => atoms_spec (ws := (Jvm.Cond.code ({ cls := "ChannelMachine$Machine", name := "assign", desc := "(II)V" } : Jvm.MethodName) prog_6_method_13_code (3 : Nat) (Option.none : Option Jvm.ClassFile.FieldType)) :: x_T) B.pre w (List.mem_cons_of_mem _ h)
  have hown : s.vm.findClass "ChannelMachine$Machine" = some m.cls := findClass_of_methodNamed B.named
  have hlocks := B.notSynchronized
  subst hsz
  subst hw0
  have hD := hD0.self (sz := s.heap.size)
  have hAN := x_AN hD0 hN0
  generalize hAe : va_A (y_W ad ar I T A O pl) s.heap.size = Bq at hD hAN ⊢
  have hA : ∀ q : Nat, s.heap.size ≤ q → Bq q := fun q h => by rw [← hAe]; exact Or.inr h
  have hS : va_S Bq s.heap s.heap [] := va_S.rf
  have hl := lv_entry ([.ref (ad 4), .int vv, .int yv]) (n := 3) (Nat.le_of_ble_eq_true rfl)
  rw [lg_entry_eq]
  generalize (lg_sl ([.ref (ad 4), .int vv, .int yv]) ++ List.replicate (3 - (lg_sl ([.ref (ad 4), .int vv, .int yv])).length) Slot.unset).toArray = ls at hl ⊢
  have hl : lv_has ls 3 [(0, .ref (ad 4)), (1, .int vv), (2, .int yv)] := hl
  refine lv_iload_n hx hb d_Machine_assign_0 rfl (lv_at hl 1 rfl) ?_
  refine lv_if_lt (tgt := 17) hx hb d_Machine_assign_1 (by decide) (fun c1 => ?_) (fun c1 => ?_)
  · refine y_know (fun hy91 hy92 hy93 hy94 => ?_)
    have hac9 : y_ac (cq + cs) s.heap.size (y_hs s.heap) (cq + cs) s.heap := ⟨by omega, by omega⟩
    refine W.widen (k := 0) (n := 0) (by omega) (by omega) ?_
    exact W.vret hx hb hr (fun t ht hW => ⟨⟨(I, T, A, O, pl, (qn, sn, cq, cs)), rfl, ⟨rfl, rfl, rfl, rfl, rfl⟩, (by dsimp only; rw [ht]; exact ⟨hP, hD, hac9⟩)⟩, hS.F ht⟩) hS.2.2 d_Machine_assign_17
  · refine lv_iload_n hx hb d_Machine_assign_4 rfl (lv_at hl 1 rfl) ?_
    refine lv_bipush (v := 6) hx hb d_Machine_assign_5 (by decide) ?_
    refine lv_icmp_ge (tgt := 17) hx hb d_Machine_assign_7 (by decide) (fun c2 => ?_) (fun c2 => ?_)
    · refine y_know (fun hy91 hy92 hy93 hy94 => ?_)
      have hac9 : y_ac (cq + cs) s.heap.size (y_hs s.heap) (cq + cs) s.heap := ⟨by omega, by omega⟩
      refine W.widen (k := 0) (n := 0) (by omega) (by omega) ?_
      exact W.vret hx hb hr (fun t ht hW => ⟨⟨(I, T, A, O, pl, (qn, sn, cq, cs)), rfl, ⟨rfl, rfl, rfl, rfl, rfl⟩, (by dsimp only; rw [ht]; exact ⟨hP, hD, hac9⟩)⟩, hS.F ht⟩) hS.2.2 d_Machine_assign_17
    · refine lv_aload_n hx hb d_Machine_assign_10 rfl (lv_at hl 0 rfl) ?_
      refine k_g (C := "ChannelMachine$Machine") (F := F_Machine) (N := 11) hx hb hts i_Machine hown hK hP 4 0 (by decide) (by decide) rfl (by decide) (d := (0, 5)) rfl (hts _ k_150) (fun _ h9 => h9) (v := .ref (ad 5)) rfl d_Machine_assign_11 ?_
      refine lv_iload_n hx hb d_Machine_assign_14 rfl (lv_at hl 1 rfl) ?_
      refine lv_iload_n hx hb d_Machine_assign_15 rfl (lv_at hl 2 rfl) ?_
      refine k_st hx hb hK hP hD hS 5 (by decide) (by decide) (by decide) (by decide) (j := vv) (x := yv) (x_in (b := 6) (by decide) c1 (by have h9 := c2; rw [x_le] at h9; rw [x_lt]; omega)) d_Machine_assign_16 (fun H locs hP hD hS => ?_)
      generalize m_up A 5 _ = A3 at hP hD
      refine y_know (fun hy91 hy92 hy93 hy94 => ?_)
      have hac9 : y_ac (cq + cs) s.heap.size (y_hs s.heap) (cq + cs) H := ⟨by omega, by omega⟩
      refine W.widen (k := 0) (n := 0) (by omega) (by omega) ?_
      exact W.vret hx hb hr (fun t ht hW => ⟨⟨(I, T, A3, O, pl, (qn, sn, cq, cs)), rfl, ⟨rfl, rfl, rfl, rfl, rfl⟩, (by dsimp only; rw [ht]; exact ⟨hP, hD, hac9⟩)⟩, hS.F ht⟩) hS.2.2 d_Machine_assign_17
set_option maxHeartbeats 4000000 in
set_option maxRecDepth 100000 in
theorem c_M_start (l : Launch) (dC : Nat → ClassId) (dI : Nat → Nat → Nat) (ar : Nat → ClassId) (N0 : Nat) (z : Nat → Nat) (ad : Nat → Nat) (I : Nat → Int32) (T : Int64) (A : Nat → Nat → Int32) (O : Nat → Option Nat) (pl : va_W) (G : Nat → Nat) (C Gs : Nat → List Nat) (qn sn cq cs : Nat) (tt : Nat) (sz w0 : Nat) (hmi : y_MI z ar G C Gs I O (y_L pl) (qn, sn, cq, cs)) (htt : G tt = 8) (hlim : qn ≤ 20000000) : Met l ({ cls := "ChannelMachine$Machine", name := "start", desc := "(LChannelMachine$Task;)Z" } : Jvm.MethodName) ((Jvm.Cond.code ({ cls := "ChannelMachine$Machine", name := "start", desc := "(LChannelMachine$Task;)Z" } : Jvm.MethodName) prog_6_method_3_code (2 : Nat) (Option.some Jvm.ClassFile.FieldType.boolean)) :: x_T) ({ frames := 7, cells := y_gc qn cq, slots := y_gs qn cq, locals := 191 }) (y_Pc (dC, dI) ar N0 z (y_W ad ar I T A O pl) sz w0 [.ref (ad 4), .ref tt]) (va_Qi (fun (r : Int32) (u : (Nat → Int32) × Int64 × (Nat → Nat → Int32) × (Nat → Option Nat) × va_W × (Nat × Nat × Nat × Nat)) => y_MI z ar G C Gs u.1 u.2.2.2.1 (y_L u.2.2.2.2.1) u.2.2.2.2.2 ∧ y_bd (qn, sn, cq, cs) u.2.2.2.2.2 1 0 ∧ m_fr [8, 12, 13, 14, 15] I u.1 ∧ (r = 0 ∨ r = 1)) (fun u t => va_P (dC, dI) y_cl (y_W ad ar u.1 u.2.1 u.2.2.1 u.2.2.2.1 u.2.2.2.2.1) t.heap ∧ va_D (va_A (y_W ad ar I T A O pl) sz) (y_W ad ar u.1 u.2.1 u.2.2.1 u.2.2.2.1 u.2.2.2.2.1) ∧ y_ac (cq + cs) sz w0 (u.2.2.2.2.2.2.2.1 + u.2.2.2.2.2.2.2.2) t.heap) (va_A (y_W ad ar I T A O pl) sz)) (y_gc qn cq) (y_gs qn cq) (va_A (y_W ad ar I T A O pl) sz) := by
  refine Met.ofW (cc := prog_6_method_3_code) (maxL := 2) (ret := (some .boolean)) (by decide) rfl ?_
  intro p e s m args below meth c s₁ B hml hv
  obtain ⟨rfl, hsz, hN0, hP, hU, hZ, hD0, hw0⟩ := hv
  have hK := hU.2.1
  have hx := B.exec
  have hb := B.bytes
  have hr := B.returns
  have hts : ∀ w ∈ x_T, w.before ([.ref (ad 4), .ref tt] : List Value).toArray s = true := fun w h => atoms_spec (ws := (Jvm.Cond.code ({ cls := "ChannelMachine$Machine", name := "start", desc := "(LChannelMachine$Task;)Z" } : Jvm.MethodName) prog_6_method_3_code (2 : Nat) (Option.some Jvm.ClassFile.FieldType.boolean)) :: x_T) B.pre w (List.mem_cons_of_mem _ h)
  have hown : s.vm.findClass "ChannelMachine$Machine" = some m.cls := findClass_of_methodNamed B.named
  have hlocks := B.notSynchronized
  subst hsz
  subst hw0
  have hD := hD0.self (sz := s.heap.size)
  have hAN := x_AN hD0 hN0
  generalize hAe : va_A (y_W ad ar I T A O pl) s.heap.size = Bq at hD hAN ⊢
  have hA : ∀ q : Nat, s.heap.size ≤ q → Bq q := fun q h => by rw [← hAe]; exact Or.inr h
  have hS : va_S Bq s.heap s.heap [] := va_S.rf
  have hl := lv_entry ([.ref (ad 4), .ref tt]) (n := 2) (Nat.le_of_ble_eq_true rfl)
  rw [lg_entry_eq]
  generalize (lg_sl ([.ref (ad 4), .ref tt]) ++ List.replicate (2 - (lg_sl ([.ref (ad 4), .ref tt])).length) Slot.unset).toArray = ls at hl ⊢
  have hl : lv_has ls 2 [(0, .ref (ad 4)), (1, .ref tt)] := hl
  have hle := y_LS.le hmi.2.1.2
  dsimp only at hle
  have hcap := hmi.2.2.2.2.1
  dsimp only at hcap
  have hgg := y_gg qn cq
  refine lv_aload_n hx hb d_Machine_start_0 rfl (lv_at hl 1 rfl) ?_
  refine lv_aload_n hx hb d_Machine_start_1 rfl (lv_at hl 1 rfl) ?_
  obtain ⟨w1, m1, a1, b1, r1, v1, u1, hf1, hw1, hm1, ha1⟩ := hmi.1.2.1 tt htt
  refine d_gN (C := "ChannelMachine$Task") (F := F_Task) (N := 7) hx hb hts i_Task hown hK hP hf1 0 rfl (by decide) (hU.1.2.1 _ kn_450) (fun _ h9 => h9) (v := .ref w1) rfl d_Machine_start_2 ?_
  have hFc := y_free hD hS hA
  refine va_callv (va_runV (As := [.ref w1]) (rest := []) ⟨hx, hb, hml, hown, hts⟩ (c_T_enter l dC dI ar N0 z ad I T A O pl G C Gs qn sn cq cs tt w1 s.heap.size (y_hs s.heap) hmi htt hw1) (cwV 1 hts (x_goodV k_636 k_637 k_638 k_18 k_639) rfl rfl rfl (by decide +kernel) ⟨Nat.le_of_ble_eq_true rfl, Nat.le_of_ble_eq_true rfl⟩) ⟨y_blind, (by obtain ⟨q9, hq9⟩ := y_L_at hf1; exact va_recv hK hP (ci := 8) (q0 := 20 + q9) rfl (by rw [y_W_pl]; exact hq9)), fun U9 hU9 hW9 => y_pre hU9 hW9 hP hD hU hZ hS hAN hN0⟩ rfl rfl hl.1 rfl (lv_room (Nat.le_of_ble_eq_true rfl)) d_Machine_start_5 ⟨(by show 0 + (0) ≤ y_gc qn cq; omega), (by show 0 + (0) ≤ y_gs qn cq; omega)⟩) hS (fun q _ h => hFc q h) hFc (fun u t H1 locs ht hvm hw hB hz1 hk1 hS => ?_)
  obtain ⟨I2, T2, A2, O2, pl2, q2, s2, cq2, cs2⟩ := u
  dsimp only at hw hB
  rw [ht] at hB
  obtain ⟨hP, hD1, hac2⟩ := hB
  have hD : va_D Bq (y_W ad ar I2 T2 A2 O2 pl2) := hD1.weaken (fun _ q _ h => hFc q.1 h)
  generalize H1 = H at hP hS hac2 ⊢
  refine W.widen (k := 0) (n := 0) (by omega) (by omega) ?_
  obtain ⟨e1, e2, e3, e4, e5, hmi⟩ := hw
  cases e5
  rw [e1, e2, e3, e4] at hP hD
  rw [e1, e4] at hmi
  have hmi : y_MI z ar G C Gs I O (y_L pl2) (qn, sn, cq, cs) := hmi
  refine lv_aload_n hx hb d_Machine_start_8 rfl (lv_at hl 1 rfl) ?_
  obtain ⟨w3, m3, a3, b3, r3, v3, u3, hf3, hw3, hm3, ha3⟩ := hmi.1.2.1 tt htt
  have hFc := y_free hD hS hA
  refine va_calli (va_runV (As := []) (rest := []) ⟨hx, hb, hml, hown, hts⟩ (c_T_findNext l dC dI ar N0 z ad I T A O pl2 G C Gs qn sn cq cs tt H.size (y_hs H) hmi htt) (cwV 0 hts (x_goodV k_640 k_641 k_642 k_18 k_643) rfl rfl rfl (by decide +kernel) ⟨Nat.le_of_ble_eq_true rfl, Nat.le_of_ble_eq_true rfl⟩) ⟨y_blind, (by obtain ⟨q9, hq9⟩ := y_L_at hf3; exact va_recv hK hP (ci := 8) (q0 := 20 + q9) rfl (by rw [y_W_pl]; exact hq9)), fun U9 hU9 hW9 => y_pre hU9 hW9 hP hD hU hZ hS hAN hN0⟩ rfl rfl hl.1 rfl (lv_room (Nat.le_of_ble_eq_true rfl)) d_Machine_start_9 ⟨(by show 0 + (0) ≤ y_gc qn cq; omega), (by show 0 + (0) ≤ y_gs qn cq; omega)⟩) hS (fun q _ h => hFc q h) hFc (fun r_4 u t H1 locs ht hvm hw hB hz1 hk1 hS => ?_)
  obtain ⟨I5, T5, A5, O5, pl5, q5, s5, cq5, cs5⟩ := u
  dsimp only at hw hB
  rw [ht] at hB
  obtain ⟨hP, hD1, hac5⟩ := hB
  have hD : va_D Bq (y_W ad ar I5 T5 A5 O5 pl5) := hD1.weaken (fun _ q _ h => hFc q.1 h)
  generalize H1 = H at hP hS hac5 ⊢
  refine W.widen (k := 0) (n := 0) (by omega) (by omega) ?_
  obtain ⟨e1, e2, e3, e4, e5, hmi, hr9⟩ := hw
  cases e5
  rw [e1, e2, e3, e4] at hP hD
  rw [e1, e4] at hmi
  have hmi : y_MI z ar G C Gs I O (y_L pl5) (qn, sn, cq, cs) := hmi
  rcases hr9 with rfl | rfl | rfl
  · refine lv_if_eq (tgt := 17) hx hb d_Machine_start_12 (by decide) (fun _ => ?_) (fun c6 => absurd (by decide) c6)
    refine lv_aload_n hx hb d_Machine_start_17 rfl (lv_at hl 0 rfl) ?_
    refine lv_dup hx hb d_Machine_start_18 rfl ?_
    refine k_g (C := "ChannelMachine$Machine") (F := F_Machine) (N := 11) hx hb hts i_Machine hown hK hP 4 8 (by decide) (by decide) rfl (by decide) (d := (1, 8)) rfl (hts _ k_165) (fun _ h9 => h9) (v := .int (I 8)) rfl d_Machine_start_19 ?_
    refine lv_iconst (v := 1) hx hb d_Machine_start_22 (by decide) ?_
    refine lv_iadd hx hb d_Machine_start_23 ?_
    refine k_pi (C := "ChannelMachine$Machine") (F := F_Machine) (N := 11) hx hb hts i_Machine hown t_Machine t_Machine_ok n_Machine hK hP hD hS 4 8 (by decide) (by decide) rfl (by decide) (j := 8) (x := ((I 8) + 1)) rfl (hts _ k_165) (fun _ h9 => h9) rfl (by decide +kernel) d_Machine_start_24 (fun H locs hP hD hS => ?_)
    have hmi : y_MI z ar G C Gs (upd I 8 ((I 8) + 1)) O (y_L pl5) (qn, sn, cq, cs) := hmi
    refine lv_aload_n hx hb d_Machine_start_27 rfl (lv_at hl 0 rfl) ?_
    refine k_g (C := "ChannelMachine$Machine") (F := F_Machine) (N := 11) hx hb hts i_Machine hown hK hP 4 4 (by decide) (by decide) rfl (by decide) (d := (0, 11)) rfl (hts _ k_158) (fun _ h9 => h9) (v := .ref (ad 11)) rfl d_Machine_start_28 ?_
    refine lv_aload_n hx hb d_Machine_start_31 rfl (lv_at hl 1 rfl) ?_
    have hgg7 := y_gg qn cq
    refine y_know (fun hya1 hya2 hya3 hya4 => ?_)
    have hFc := y_free hD hS hA
    refine va_callFi (va_runF (As := [.ref tt]) (rest := []) (hK.1 0 _ rfl).2 ⟨hx, hb, hml, hown, hts⟩ (c_L_add_11 l dC dI ar N0 z ad (upd I 8 ((I 8) + 1)) T A O pl5 G C Gs qn sn cq cs tt H.size (y_hs H) hmi htt (by omega)) (va_cwF 1 hts (x_goodF k_649 k_652 k_654 k_7 k_656) rfl rfl rfl hU.2.2.2.2.1 (by decide +kernel) ⟨Nat.le_of_ble_eq_true rfl, Nat.le_of_ble_eq_true rfl⟩) ⟨y_blind, va_recv hK hP (ci := 0) (q0 := 11) rfl (y_W_ob (by decide) (by decide)), fun U9 hU9 hW9 => y_pre hU9 hW9 hP hD hU hZ hS hAN hN0⟩ rfl rfl hl.1 rfl (lv_room (Nat.le_of_ble_eq_true rfl)) d_Machine_start_32 ⟨(by show 0 + (y_gc qn cq) ≤ y_gc qn cq; omega), (by show 0 + (y_gs qn cq) ≤ y_gs qn cq; omega)⟩) hS (fun q _ h => hFc q h) hFc (fun r_8 u t H1 locs ht hvm hw hB hz1 hk1 hS => ?_)
    obtain ⟨I9, T9, A9, O9, pl9, q9, s9, cq9, cs9⟩ := u
    dsimp only at hw hB
    rw [ht] at hB
    obtain ⟨hP, hD1, hac9⟩ := hB
    have hD : va_D Bq (y_W ad ar I9 T9 A9 O9 pl9) := hD1.weaken (fun _ q _ h => hFc q.1 h)
    generalize H1 = H at hP hS hac9 ⊢
    obtain ⟨hmi, hbd9, fr9, e2, e3⟩ := hw
    rw [e2, e3] at hP hD
    have hP : va_P (dC, dI) y_cl (y_W ad ar I9 T A O9 pl9) H := hP
    have hD : va_D Bq (y_W ad ar I9 T A O9 pl9) := hD
    unfold y_ac at hac9
    have hb9 := hbd9
    unfold y_bd at hb9
    dsimp only at hb9 hac9
    refine lv_pop hx hb d_Machine_start_37 rfl ?_
    refine lv_iconst (v := 1) hx hb d_Machine_start_38 (by decide) ?_
    refine y_know (fun hy91 hy92 hy93 hy94 => ?_)
    have hac9 : y_ac (cq + cs) s.heap.size (y_hs s.heap) (cq9 + cs9) H := ⟨by omega, by omega⟩
    refine W.widen (k := y_gc qn cq) (n := y_gs qn cq) (by omega) (by omega) ?_
    exact W.zret (v := 1) hx hb hr (rfl) (fun t ht hW => ⟨⟨1, (I9, T, A, O9, pl9, (q9, s9, cq9, cs9)), rfl, ⟨hmi, (y_bd.tr hbd9 (y_bd.rf (a := 0) (b := 0)) (e := 1) (g := 0) (by decide) (by decide)), ((m_fr.rf.up (by decide) _).tr fr9 (by decide)), Or.inr rfl⟩, (by dsimp only; rw [ht]; exact ⟨hP, hD, hac9⟩)⟩, hS.F ht⟩) hS.2.2 d_Machine_start_39
  · refine lv_if_eq (tgt := 17) hx hb d_Machine_start_12 (by decide) (fun c10 => absurd c10 (by decide)) (fun _ => ?_)
    refine lv_iconst (v := 0) hx hb d_Machine_start_15 (by decide) ?_
    refine y_know (fun hy91 hy92 hy93 hy94 => ?_)
    have hac9 : y_ac (cq + cs) s.heap.size (y_hs s.heap) (cq + cs) H := ⟨by omega, by omega⟩
    refine W.widen (k := y_gc qn cq) (n := y_gs qn cq) (by omega) (by omega) ?_
    exact W.zret (v := 0) hx hb hr (rfl) (fun t ht hW => ⟨⟨0, (I, T, A, O, pl5, (qn, sn, cq, cs)), rfl, ⟨hmi, y_bd.rf, m_fr.rf, Or.inl rfl⟩, (by dsimp only; rw [ht]; exact ⟨hP, hD, hac9⟩)⟩, hS.F ht⟩) hS.2.2 d_Machine_start_16
  · refine lv_if_eq (tgt := 17) hx hb d_Machine_start_12 (by decide) (fun c11 => absurd c11 (by decide)) (fun _ => ?_)
    refine lv_iconst (v := 0) hx hb d_Machine_start_15 (by decide) ?_
    refine y_know (fun hy91 hy92 hy93 hy94 => ?_)
    have hac9 : y_ac (cq + cs) s.heap.size (y_hs s.heap) (cq + cs) H := ⟨by omega, by omega⟩
    refine W.widen (k := y_gc qn cq) (n := y_gs qn cq) (by omega) (by omega) ?_
    exact W.zret (v := 0) hx hb hr (rfl) (fun t ht hW => ⟨⟨0, (I, T, A, O, pl5, (qn, sn, cq, cs)), rfl, ⟨hmi, y_bd.rf, m_fr.rf, Or.inl rfl⟩, (by dsimp only; rw [ht]; exact ⟨hP, hD, hac9⟩)⟩, hS.F ht⟩) hS.2.2 d_Machine_start_16
set_option maxHeartbeats 4000000 in
set_option maxRecDepth 100000 in
theorem c_M_finish (l : Launch) (dC : Nat → ClassId) (dI : Nat → Nat → Nat) (ar : Nat → ClassId) (N0 : Nat) (z : Nat → Nat) (ad : Nat → Nat) (I : Nat → Int32) (T : Int64) (A : Nat → Nat → Int32) (O : Nat → Option Nat) (pl : va_W) (G : Nat → Nat) (C Gs : Nat → List Nat) (qn sn cq cs : Nat) (tt : Nat) (sz w0 : Nat) (hmi : y_MI z ar G C Gs I O (y_L pl) (qn, sn, cq, cs)) (htt : G tt = 8) (hlim : qn ≤ 20000000) : Met l ({ cls := "ChannelMachine$Machine", name := "finish", desc := "(LChannelMachine$Task;)V" } : Jvm.MethodName) ((Jvm.Cond.code ({ cls := "ChannelMachine$Machine", name := "finish", desc := "(LChannelMachine$Task;)V" } : Jvm.MethodName) prog_6_method_8_code (2 : Nat) (Option.none : Option Jvm.ClassFile.FieldType)) :: x_T) ({ frames := 8, cells := y_gc qn cq, slots := y_gs qn cq, locals := 212 }) (y_Pc (dC, dI) ar N0 z (y_W ad ar I T A O pl) sz w0 [.ref (ad 4), .ref tt]) (va_Qv (fun (u : (Nat → Int32) × Int64 × (Nat → Nat → Int32) × (Nat → Option Nat) × va_W × (Nat × Nat × Nat × Nat)) => y_MI z ar G C Gs u.1 u.2.2.2.1 (y_L u.2.2.2.2.1) u.2.2.2.2.2 ∧ y_bd (qn, sn, cq, cs) u.2.2.2.2.2 1 0 ∧ m_fr [7, 8, 12, 13, 14, 15] I u.1) (fun u t => va_P (dC, dI) y_cl (y_W ad ar u.1 u.2.1 u.2.2.1 u.2.2.2.1 u.2.2.2.2.1) t.heap ∧ va_D (va_A (y_W ad ar I T A O pl) sz) (y_W ad ar u.1 u.2.1 u.2.2.1 u.2.2.2.1 u.2.2.2.2.1) ∧ y_ac (cq + cs) sz w0 (u.2.2.2.2.2.2.2.1 + u.2.2.2.2.2.2.2.2) t.heap) (va_A (y_W ad ar I T A O pl) sz)) (y_gc qn cq) (y_gs qn cq) (va_A (y_W ad ar I T A O pl) sz) := by
  refine Met.ofW (cc := prog_6_method_8_code) (maxL := 2) (ret := none) (by decide) rfl ?_
  intro p e s m args below meth c s₁ B hml hv
  obtain ⟨rfl, hsz, hN0, hP, hU, hZ, hD0, hw0⟩ := hv
  have hK := hU.2.1
  have hx := B.exec
  have hb := B.bytes
  have hr := B.returns
  have hts : ∀ w ∈ x_T, w.before ([.ref (ad 4), .ref tt] : List Value).toArray s = true := fun w h => atoms_spec (ws := (Jvm.Cond.code ({ cls := "ChannelMachine$Machine", name := "finish", desc := "(LChannelMachine$Task;)V" } : Jvm.MethodName) prog_6_method_8_code (2 : Nat) (Option.none : Option Jvm.ClassFile.FieldType)) :: x_T) B.pre w (List.mem_cons_of_mem _ h)
  have hown : s.vm.findClass "ChannelMachine$Machine" = some m.cls := findClass_of_methodNamed B.named
  have hlocks := B.notSynchronized
  subst hsz
  subst hw0
  have hD := hD0.self (sz := s.heap.size)
  have hAN := x_AN hD0 hN0
  generalize hAe : va_A (y_W ad ar I T A O pl) s.heap.size = Bq at hD hAN ⊢
  have hA : ∀ q : Nat, s.heap.size ≤ q → Bq q := fun q h => by rw [← hAe]; exact Or.inr h
  have hS : va_S Bq s.heap s.heap [] := va_S.rf
  have hl := lv_entry ([.ref (ad 4), .ref tt]) (n := 2) (Nat.le_of_ble_eq_true rfl)
  rw [lg_entry_eq]
  generalize (lg_sl ([.ref (ad 4), .ref tt]) ++ List.replicate (2 - (lg_sl ([.ref (ad 4), .ref tt])).length) Slot.unset).toArray = ls at hl ⊢
  have hl : lv_has ls 2 [(0, .ref (ad 4)), (1, .ref tt)] := hl
  have hle := y_LS.le hmi.2.1.2
  dsimp only at hle
  have hcap := hmi.2.2.2.2.1
  dsimp only at hcap
  have hgg := y_gg qn cq
  refine lv_aload_n hx hb d_Machine_finish_0 rfl (lv_at hl 1 rfl) ?_
  obtain ⟨w1, m1, a1, b1, r1, v1, u1, hf1, hw1, hm1, ha1⟩ := hmi.1.2.1 tt htt
  refine d_gN (C := "ChannelMachine$Task") (F := F_Task) (N := 7) hx hb hts i_Task hown hK hP hf1 1 rfl (by decide) (hU.1.2.1 _ kn_452) (fun _ h9 => h9) (v := va_rf m1) rfl d_Machine_finish_1 ?_
  rcases m1 with _ | x2
  · refine W.eq (g2 := F0 m 4 ls [.null]) rfl ?_
    refine lv_ifnonnullN hx hb d_Machine_finish_4 ?_
    refine lv_aload_n hx hb d_Machine_finish_7 rfl (lv_at hl 0 rfl) ?_
    refine lv_iconst (v := 2) hx hb d_Machine_finish_8 (by decide) ?_
    have hFc := y_free hD hS hA
    refine va_callv (va_runV (As := [.int 2]) (rest := []) ⟨hx, hb, hml, hown, hts⟩ (c_M_close l dC dI ar N0 z ad I T A O pl G C Gs qn sn cq cs (2) s.heap.size (y_hs s.heap) hmi) (cwV 1 hts (x_goodV k_616 k_618 kp_20 k_3 k_619) rfl rfl rfl (by decide +kernel) ⟨Nat.le_of_ble_eq_true rfl, Nat.le_of_ble_eq_true rfl⟩) ⟨y_blind, va_recv hK hP (ci := 2) (q0 := 4) rfl (y_W_ob (by decide) (by decide)), fun U9 hU9 hW9 => y_pre hU9 hW9 hP hD hU hZ hS hAN hN0⟩ rfl rfl hl.1 rfl (lv_room (Nat.le_of_ble_eq_true rfl)) d_Machine_finish_9 ⟨(by show 0 + (0) ≤ y_gc qn cq; omega), (by show 0 + (0) ≤ y_gs qn cq; omega)⟩) hS (fun q _ h => hFc q h) hFc (fun u t H1 locs ht hvm hw hB hz1 hk1 hS => ?_)
    obtain ⟨I3, T3, A3, O3, pl3, q3, s3, cq3, cs3⟩ := u
    dsimp only at hw hB
    rw [ht] at hB
    obtain ⟨hP, hD1, hac3⟩ := hB
    have hD : va_D Bq (y_W ad ar I3 T3 A3 O3 pl3) := hD1.weaken (fun _ q _ h => hFc q.1 h)
    generalize H1 = H at hP hS hac3 ⊢
    refine W.widen (k := 0) (n := 0) (by omega) (by omega) ?_
    obtain ⟨hmi, e5, fr3, h73, e2, e3, hcl3⟩ := hw
    cases e5
    rw [e2, e3] at hP hD
    have hP : va_P (dC, dI) y_cl (y_W ad ar I3 T A O3 pl3) H := hP
    have hD : va_D Bq (y_W ad ar I3 T A O3 pl3) := hD
    have hmi : y_MI z ar G C Gs I3 O3 (y_L pl3) (0, 0, cq, cs) := hmi
    have hbdr3 : y_bd (qn, sn, cq, cs) (0, 0, cq, cs) 0 0 := ⟨by dsimp only; omega, by dsimp only; omega, Or.inl rfl, Or.inl rfl⟩
    refine y_know (fun hy91 hy92 hy93 hy94 => ?_)
    have hac9 : y_ac (cq + cs) s.heap.size (y_hs s.heap) (cq + cs) H := ⟨by omega, by omega⟩
    refine W.widen (k := y_gc qn cq) (n := y_gs qn cq) (by omega) (by omega) ?_
    exact W.vret hx hb hr (fun t ht hW => ⟨⟨(I3, T, A, O3, pl3, (0, 0, cq, cs)), rfl, ⟨hmi, (y_bd.tr hbdr3 (y_bd.rf (a := 0) (b := 0)) (e := 1) (g := 0) (by decide) (by decide)), (m_fr.rf.tr fr3 (by decide))⟩, (by dsimp only; rw [ht]; exact ⟨hP, hD, hac9⟩)⟩, hS.F ht⟩) hS.2.2 d_Machine_finish_12
  · have hx2 := hm1 x2 rfl
    refine W.eq (g2 := F0 m 4 ls [.ref x2]) rfl ?_
    refine lv_ifnonnull (tgt := 13) hx hb d_Machine_finish_4 (by decide) ?_
    refine lv_aload_n hx hb d_Machine_finish_13 rfl (lv_at hl 0 rfl) ?_
    refine lv_dup hx hb d_Machine_finish_14 rfl ?_
    refine k_g (C := "ChannelMachine$Machine") (F := F_Machine) (N := 11) hx hb hts i_Machine hown hK hP 4 8 (by decide) (by decide) rfl (by decide) (d := (1, 8)) rfl (hts _ k_165) (fun _ h9 => h9) (v := .int (I 8)) rfl d_Machine_finish_15 ?_
    refine lv_iconst (v := 1) hx hb d_Machine_finish_18 (by decide) ?_
    refine lv_isub hx hb d_Machine_finish_19 ?_
    refine k_pi (C := "ChannelMachine$Machine") (F := F_Machine) (N := 11) hx hb hts i_Machine hown t_Machine t_Machine_ok n_Machine hK hP hD hS 4 8 (by decide) (by decide) rfl (by decide) (j := 8) (x := ((I 8) - 1)) rfl (hts _ k_165) (fun _ h9 => h9) rfl (by decide +kernel) d_Machine_finish_20 (fun H locs hP hD hS => ?_)
    have hmi : y_MI z ar G C Gs (upd I 8 ((I 8) - 1)) O (y_L pl) (qn, sn, cq, cs) := hmi
    refine lv_aload_n hx hb d_Machine_finish_23 rfl (lv_at hl 1 rfl) ?_
    refine d_gN (C := "ChannelMachine$Task") (F := F_Task) (N := 7) hx hb hts i_Task hown hK hP hf1 1 rfl (by decide) (hU.1.2.1 _ kn_452) (fun _ h9 => h9) (v := .ref x2) rfl d_Machine_finish_24 ?_
    refine lv_dup hx hb d_Machine_finish_27 rfl ?_
    obtain ⟨w4, m4, a4, b4, r4, v4, u4, hf4, hw4, hm4, ha4⟩ := hmi.1.2.1 x2 hx2
    refine d_gN (C := "ChannelMachine$Task") (F := F_Task) (N := 7) hx hb hts i_Task hown hK hP hf4 4 rfl (by decide) (hU.1.2.1 _ kn_457) (fun _ h9 => h9) (v := .int r4) rfl d_Machine_finish_28 ?_
    refine lv_iconst (v := 1) hx hb d_Machine_finish_31 (by decide) ?_
    refine lv_isub hx hb d_Machine_finish_32 ?_
    refine d_pN (C := "ChannelMachine$Task") (F := F_Task) (N := 7) hx hb hts i_Task hown t_Task t_Task_ok n_Task hK hP hD hS hf4 4 rfl (by decide) (hU.1.2.1 _ kn_457) (fun _ h9 => h9) rfl (ty := .int) (v := .int (r4 - 1)) (by decide +kernel) rfl rfl (Nat.le_of_ble_eq_true rfl) d_Machine_finish_33 (fun pl5 H locs hL hP hD hS => ?_)
    have hmi := y_MI.task hmi (t := x2) (w := w4) (m := m4) (a := a4) (b := b4) (r := (r4 - 1)) (v := v4) (u := u4) hx2 hw4 hm4 ha4
    have hfo4 := hf4
    have hf4 : y_L pl5 x2 = some (.inr (8, y_Tf w4 m4 a4 b4 (r4 - 1) v4 u4)) := by rw [hL]; exact y_Lu_s
    have hmi : y_MI z ar G C Gs (upd I 8 ((I 8) - 1)) O (y_L pl5) (qn, sn, cq, cs) := by rw [hL]; exact hmi
    obtain ⟨a6, b6, r6, v6, u6, hf1, ha6⟩ := y_keepT hmi.1 htt hf1 hfo4 hL
    clear hL
    refine lv_aload_n hx hb d_Machine_finish_36 rfl (lv_at hl 1 rfl) ?_
    refine d_gN (C := "ChannelMachine$Task") (F := F_Task) (N := 7) hx hb hts i_Task hown hK hP hf1 1 rfl (by decide) (hU.1.2.1 _ kn_452) (fun _ h9 => h9) (v := .ref x2) rfl d_Machine_finish_37 ?_
    refine d_gN (C := "ChannelMachine$Task") (F := F_Task) (N := 7) hx hb hts i_Task hown hK hP hf4 4 rfl (by decide) (hU.1.2.1 _ kn_457) (fun _ h9 => h9) (v := .int (r4 - 1)) rfl d_Machine_finish_40 ?_
    refine lv_if_ne (tgt := 54) hx hb d_Machine_finish_43 (by decide) (fun c7 => ?_) (fun c7 => ?_)
    · refine y_know (fun hy91 hy92 hy93 hy94 => ?_)
      have hac9 : y_ac (cq + cs) s.heap.size (y_hs s.heap) (cq + cs) H := ⟨by omega, by omega⟩
      refine W.widen (k := y_gc qn cq) (n := y_gs qn cq) (by omega) (by omega) ?_
      exact W.vret hx hb hr (fun t ht hW => ⟨⟨((upd I 8 ((I 8) - 1)), T, A, O, pl5, (qn, sn, cq, cs)), rfl, ⟨hmi, y_bd.rf, (m_fr.rf.up (by decide) _)⟩, (by dsimp only; rw [ht]; exact ⟨hP, hD, hac9⟩)⟩, hS.F ht⟩) hS.2.2 d_Machine_finish_54
    · refine lv_aload_n hx hb d_Machine_finish_46 rfl (lv_at hl 0 rfl) ?_
      refine lv_aload_n hx hb d_Machine_finish_47 rfl (lv_at hl 1 rfl) ?_
      refine d_gN (C := "ChannelMachine$Task") (F := F_Task) (N := 7) hx hb hts i_Task hown hK hP hf1 1 rfl (by decide) (hU.1.2.1 _ kn_452) (fun _ h9 => h9) (v := .ref x2) rfl d_Machine_finish_48 ?_
      have hgg8 := y_gg qn cq
      refine y_know (fun hya1 hya2 hya3 hya4 => ?_)
      have hFc := y_free hD hS hA
      refine va_callv (va_runV (As := [.ref x2]) (rest := []) ⟨hx, hb, hml, hown, hts⟩ (c_M_resume l dC dI ar N0 z ad (upd I 8 ((I 8) - 1)) T A O pl5 G C Gs qn sn cq cs x2 H.size (y_hs H) hmi hx2 (by omega)) (cwV 1 hts (x_goodV k_773 k_775 kp_28 k_3 k_776) rfl rfl rfl (by decide +kernel) ⟨Nat.le_of_ble_eq_true rfl, Nat.le_of_ble_eq_true rfl⟩) ⟨y_blind, va_recv hK hP (ci := 2) (q0 := 4) rfl (y_W_ob (by decide) (by decide)), fun U9 hU9 hW9 => y_pre hU9 hW9 hP hD hU hZ hS hAN hN0⟩ rfl rfl hl.1 rfl (lv_room (Nat.le_of_ble_eq_true rfl)) d_Machine_finish_51 ⟨(by show 0 + (y_gc qn cq) ≤ y_gc qn cq; omega), (by show 0 + (y_gs qn cq) ≤ y_gs qn cq; omega)⟩) hS (fun q _ h => hFc q h) hFc (fun u t H1 locs ht hvm hw hB hz1 hk1 hS => ?_)
      obtain ⟨I9, T9, A9, O9, pl9, q9, s9, cq9, cs9⟩ := u
      dsimp only at hw hB
      rw [ht] at hB
      obtain ⟨hP, hD1, hac9⟩ := hB
      have hD : va_D Bq (y_W ad ar I9 T9 A9 O9 pl9) := hD1.weaken (fun _ q _ h => hFc q.1 h)
      generalize H1 = H at hP hS hac9 ⊢
      obtain ⟨hmi, hbd9, fr9⟩ := hw
      unfold y_ac at hac9
      have hb9 := hbd9
      unfold y_bd at hb9
      dsimp only at hb9 hac9
      refine y_know (fun hy91 hy92 hy93 hy94 => ?_)
      have hac9 : y_ac (cq + cs) s.heap.size (y_hs s.heap) (cq9 + cs9) H := ⟨by omega, by omega⟩
      refine W.widen (k := y_gc qn cq) (n := y_gs qn cq) (by omega) (by omega) ?_
      exact W.vret hx hb hr (fun t ht hW => ⟨⟨(I9, T9, A9, O9, pl9, (q9, s9, cq9, cs9)), rfl, ⟨hmi, (y_bd.tr hbd9 (y_bd.rf (a := 0) (b := 0)) (e := 1) (g := 0) (by decide) (by decide)), ((m_fr.rf.up (by decide) _).tr fr9 (by decide))⟩, (by dsimp only; rw [ht]; exact ⟨hP, hD, hac9⟩)⟩, hS.F ht⟩) hS.2.2 d_Machine_finish_54
set_option maxHeartbeats 4000000 in
set_option maxRecDepth 100000 in
theorem c_M_isReady (l : Launch) (dC : Nat → ClassId) (dI : Nat → Nat → Nat) (ar : Nat → ClassId) (N0 : Nat) (z : Nat → Nat) (ad : Nat → Nat) (I : Nat → Int32) (T : Int64) (A : Nat → Nat → Int32) (O : Nat → Option Nat) (pl : va_W) (G : Nat → Nat) (C Gs : Nat → List Nat) (qn sn cq cs : Nat) (cv : Int32) (sz w0 : Nat) (hmi : y_MI z ar G C Gs I O (y_L pl) (qn, sn, cq, cs)) (hcv : cv = -1 ∨ ∃ c9 : Nat, c9 < 6 ∧ cv = Int32.ofNat c9) : Met l ({ cls := "ChannelMachine$Machine", name := "isReady", desc := "(I)Z" } : Jvm.MethodName) ((Jvm.Cond.code ({ cls := "ChannelMachine$Machine", name := "isReady", desc := "(I)Z" } : Jvm.MethodName) prog_6_method_18_code (2 : Nat) (Option.some Jvm.ClassFile.FieldType.boolean)) :: x_T) ({ frames := 0, cells := 0, slots := 0, locals := 0 }) (y_Pc (dC, dI) ar N0 z (y_W ad ar I T A O pl) sz w0 [.ref (ad 4), .int cv]) (va_Qi (fun (r : Int32) (u : (Nat → Int32) × Int64 × (Nat → Nat → Int32) × (Nat → Option Nat) × va_W × (Nat × Nat × Nat × Nat)) => u = (I, T, A, O, pl, qn, sn, cq, cs) ∧ (r = 1 ∨ (r = 0 ∧ ¬ cv = -1))) (fun u t => va_P (dC, dI) y_cl (y_W ad ar u.1 u.2.1 u.2.2.1 u.2.2.2.1 u.2.2.2.2.1) t.heap ∧ va_D (va_A (y_W ad ar I T A O pl) sz) (y_W ad ar u.1 u.2.1 u.2.2.1 u.2.2.2.1 u.2.2.2.2.1) ∧ y_ac (cq + cs) sz w0 (u.2.2.2.2.2.2.2.1 + u.2.2.2.2.2.2.2.2) t.heap) (va_A (y_W ad ar I T A O pl) sz)) (0) (0) (va_A (y_W ad ar I T A O pl) sz) := by
  refine Met.ofW (cc := prog_6_method_18_code) (maxL := 2) (ret := (some .boolean)) (by decide) rfl ?_
  intro p e s m args below meth c s₁ B hml hv
  obtain ⟨rfl, hsz, hN0, hP, hU, hZ, hD0, hw0⟩ := hv
  have hK := hU.2.1
  have hx := B.exec
  have hb := B.bytes
  have hr := B.returns
  have hts : ∀ w ∈ x_T, w.before ([.ref (ad 4), .int cv] : List Value).toArray s = true := fun w h => atoms_spec (ws := (Jvm.Cond.code ({ cls := "ChannelMachine$Machine", name := "isReady", desc := "(I)Z" } : Jvm.MethodName) prog_6_method_18_code (2 : Nat) (Option.some Jvm.ClassFile.FieldType.boolean)) :: x_T) B.pre w (List.mem_cons_of_mem _ h)
  have hown : s.vm.findClass "ChannelMachine$Machine" = some m.cls := findClass_of_methodNamed B.named
  have hlocks := B.notSynchronized
  subst hsz
  subst hw0
  have hD := hD0.self (sz := s.heap.size)
  have hAN := x_AN hD0 hN0
  generalize hAe : va_A (y_W ad ar I T A O pl) s.heap.size = Bq at hD hAN ⊢
  have hA : ∀ q : Nat, s.heap.size ≤ q → Bq q := fun q h => by rw [← hAe]; exact Or.inr h
  have hS : va_S Bq s.heap s.heap [] := va_S.rf
  have hl := lv_entry ([.ref (ad 4), .int cv]) (n := 2) (Nat.le_of_ble_eq_true rfl)
  rw [lg_entry_eq]
  generalize (lg_sl ([.ref (ad 4), .int cv]) ++ List.replicate (2 - (lg_sl ([.ref (ad 4), .int cv])).length) Slot.unset).toArray = ls at hl ⊢
  have hl : lv_has ls 2 [(0, .ref (ad 4)), (1, .int cv)] := hl
  obtain ⟨gn, hgn, hg9⟩ := hmi.2.2.2.2.2.2.1
  rcases hcv with rfl | ⟨c9, hc9, rfl⟩
  · have hl : lv_has ls 2 [(0, .ref (ad 4)), (1, .int (-1))] := hl
    refine lv_iload_n hx hb d_Machine_isReady_0 rfl (lv_at hl 1 rfl) ?_
    refine lv_iconst (v := (-1)) hx hb d_Machine_isReady_1 (by decide) ?_
    refine lv_icmp_ne (tgt := 7) hx hb d_Machine_isReady_2 (by decide) (fun c1 => absurd rfl c1) (fun _ => ?_)
    refine lv_iconst (v := 1) hx hb d_Machine_isReady_5 (by decide) ?_
    refine y_know (fun hy91 hy92 hy93 hy94 => ?_)
    have hac9 : y_ac (cq + cs) s.heap.size (y_hs s.heap) (cq + cs) s.heap := ⟨by omega, by omega⟩
    refine W.widen (k := 0) (n := 0) (by omega) (by omega) ?_
    exact W.zret (v := 1) hx hb hr (rfl) (fun t ht hW => ⟨⟨1, (I, T, A, O, pl, (qn, sn, cq, cs)), rfl, ⟨rfl, Or.inl rfl⟩, (by dsimp only; rw [ht]; exact ⟨hP, hD, hac9⟩)⟩, hS.F ht⟩) hS.2.2 d_Machine_isReady_6
  · have hl : lv_has ls 2 [(0, .ref (ad 4)), (1, .int (Int32.ofNat c9))] := hl
    refine lv_iload_n hx hb d_Machine_isReady_0 rfl (lv_at hl 1 rfl) ?_
    refine lv_iconst (v := (-1)) hx hb d_Machine_isReady_1 (by decide) ?_
    refine lv_icmp_ne (tgt := 7) hx hb d_Machine_isReady_2 (by decide) (fun _ => ?_) (fun h9 => absurd h9 (x_n1 (by omega)))
    refine lv_iload_n hx hb d_Machine_isReady_7 rfl (lv_at hl 1 rfl) ?_
    refine lv_iconst (v := 4) hx hb d_Machine_isReady_8 (by decide) ?_
    refine lv_icmp_ne (tgt := 30) hx hb d_Machine_isReady_9 (by decide) (fun c_2 => ?_) (fun c_2 => ?_)
    · have c_2 : ¬ c9 = 4 := fun h9 => c_2 ((x_eqN (a := c9) (b := 4) (by omega) (by omega)).mpr h9)
      refine lv_aload_n hx hb d_Machine_isReady_30 rfl (lv_at hl 0 rfl) ?_
      refine k_g (C := "ChannelMachine$Machine") (F := F_Machine) (N := 11) hx hb hts i_Machine hown hK hP 4 1 (by decide) (by decide) rfl (by decide) (d := (0, 6)) rfl (hts _ k_152) (fun _ h9 => h9) (v := .ref (ad 6)) rfl d_Machine_isReady_31 ?_
      refine lv_iload_n hx hb d_Machine_isReady_34 rfl (lv_at hl 1 rfl) ?_
      refine k_chl hx hb hK hP (n := c9) (by omega) d_Machine_isReady_35 ?_
      refine k_gN (C := "ChannelMachine$Channel") (F := F_Channel) (N := 4) hx hb hts i_Channel hown hK hP (14 + c9) 0 (by omega) (y_cc (by omega)) (y_ccl (by omega)) (by decide) (d := (3, (3 + 3 * c9))) (y_dc0 (by omega)) (hU.1.2.1 _ kn_132) (fun _ h9 => h9) (v := va_rf (O ((3 + 3 * c9)))) rfl d_Machine_isReady_36 ?_
      rcases hOx3 : O ((3 + 3 * c9)) with _ | x3
      · refine W.eq (g2 := F0 m 39 ls [.null]) rfl ?_
        refine lv_ifnullN (tgt := 46) hx hb d_Machine_isReady_39 (by decide) ?_
        refine lv_iconst (v := 0) hx hb d_Machine_isReady_46 (by decide) ?_
        refine y_know (fun hy91 hy92 hy93 hy94 => ?_)
        have hac9 : y_ac (cq + cs) s.heap.size (y_hs s.heap) (cq + cs) s.heap := ⟨by omega, by omega⟩
        refine W.widen (k := 0) (n := 0) (by omega) (by omega) ?_
        exact W.zret (v := 0) hx hb hr (rfl) (fun t ht hW => ⟨⟨0, (I, T, A, O, pl, (qn, sn, cq, cs)), rfl, ⟨rfl, Or.inr ⟨rfl, x_n1 (by omega)⟩⟩, (by dsimp only; rw [ht]; exact ⟨hP, hD, hac9⟩)⟩, hS.F ht⟩) hS.2.2 d_Machine_isReady_47
      · refine W.eq (g2 := F0 m 39 ls [.ref x3]) rfl ?_
        have hx3 : G x3 = 8 := (hmi.2.2.2.2.2.1 c9 (by omega)).1 x3 hOx3
        refine lv_ifnull hx hb d_Machine_isReady_39 ?_
        refine lv_iconst (v := 1) hx hb d_Machine_isReady_42 (by decide) ?_
        refine lv_goto (tgt := 47) hx hb d_Machine_isReady_43 (by decide) ?_
        refine y_know (fun hy91 hy92 hy93 hy94 => ?_)
        have hac9 : y_ac (cq + cs) s.heap.size (y_hs s.heap) (cq + cs) s.heap := ⟨by omega, by omega⟩
        refine W.widen (k := 0) (n := 0) (by omega) (by omega) ?_
        exact W.zret (v := 1) hx hb hr (rfl) (fun t ht hW => ⟨⟨1, (I, T, A, O, pl, (qn, sn, cq, cs)), rfl, ⟨rfl, Or.inl rfl⟩, (by dsimp only; rw [ht]; exact ⟨hP, hD, hac9⟩)⟩, hS.F ht⟩) hS.2.2 d_Machine_isReady_47
    · have c_2 : c9 = 4 := (x_eqN (a := c9) (b := 4) (by omega) (by omega)).mp c_2
      refine lv_aload_n hx hb d_Machine_isReady_12 rfl (lv_at hl 0 rfl) ?_
      refine k_g (C := "ChannelMachine$Machine") (F := F_Machine) (N := 11) hx hb hts i_Machine hown hK hP 4 2 (by decide) (by decide) rfl (by decide) (d := (0, 7)) rfl (hts _ k_154) (fun _ h9 => h9) (v := .ref (ad 7)) rfl d_Machine_isReady_13 ?_
      refine k_gN (C := "ChannelMachine$Row") (F := F_Row) (N := 2) hx hb hts i_Row hown hK hP 7 1 (by decide) (by decide) rfl (by decide) (d := (1, 10)) rfl (hU.1.2.1 _ kn_93) (fun _ h9 => h9) (v := .int (Int32.ofNat gn)) (congrArg Value.int hg9) d_Machine_isReady_16 ?_
      refine lv_if_le (tgt := 26) hx hb d_Machine_isReady_19 (by decide) (fun c_4 => ?_) (fun c_4 => ?_)
      · have c_4 : gn ≤ 0 := (x_leN (a := gn) (b := 0) (by omega) (by omega)).mp c_4
        refine lv_iconst (v := 0) hx hb d_Machine_isReady_26 (by decide) ?_
        refine lv_goto (tgt := 47) hx hb d_Machine_isReady_27 (by decide) ?_
        refine y_know (fun hy91 hy92 hy93 hy94 => ?_)
        have hac9 : y_ac (cq + cs) s.heap.size (y_hs s.heap) (cq + cs) s.heap := ⟨by omega, by omega⟩
        refine W.widen (k := 0) (n := 0) (by omega) (by omega) ?_
        exact W.zret (v := 0) hx hb hr (rfl) (fun t ht hW => ⟨⟨0, (I, T, A, O, pl, (qn, sn, cq, cs)), rfl, ⟨rfl, Or.inr ⟨rfl, x_n1 (by omega)⟩⟩, (by dsimp only; rw [ht]; exact ⟨hP, hD, hac9⟩)⟩, hS.F ht⟩) hS.2.2 d_Machine_isReady_47
      · have c_4 : ¬ gn ≤ 0 := fun h9 => c_4 ((x_leN (a := gn) (b := 0) (by omega) (by omega)).mpr h9)
        refine lv_iconst (v := 1) hx hb d_Machine_isReady_22 (by decide) ?_
        refine lv_goto (tgt := 47) hx hb d_Machine_isReady_23 (by decide) ?_
        refine y_know (fun hy91 hy92 hy93 hy94 => ?_)
        have hac9 : y_ac (cq + cs) s.heap.size (y_hs s.heap) (cq + cs) s.heap := ⟨by omega, by omega⟩
        refine W.widen (k := 0) (n := 0) (by omega) (by omega) ?_
        exact W.zret (v := 1) hx hb hr (rfl) (fun t ht hW => ⟨⟨1, (I, T, A, O, pl, (qn, sn, cq, cs)), rfl, ⟨rfl, Or.inl rfl⟩, (by dsimp only; rw [ht]; exact ⟨hP, hD, hac9⟩)⟩, hS.F ht⟩) hS.2.2 d_Machine_isReady_47
set_option maxHeartbeats 4000000 in
set_option maxRecDepth 100000 in
theorem c_M_fetched (l : Launch) (dC : Nat → ClassId) (dI : Nat → Nat → Nat) (ar : Nat → ClassId) (N0 : Nat) (z : Nat → Nat) (ad : Nat → Nat) (I : Nat → Int32) (T : Int64) (A : Nat → Nat → Int32) (O : Nat → Option Nat) (pl : va_W) (G : Nat → Nat) (C Gs : Nat → List Nat) (qn sn cq cs : Nat) (c9 : Nat) (sz w0 : Nat) (hmi : y_MI z ar G C Gs I O (y_L pl) (qn, sn, cq, cs)) (hc9 : c9 < 6) (hlim : qn ≤ 20000000) : Met l ({ cls := "ChannelMachine$Machine", name := "fetched", desc := "(I)I" } : Jvm.MethodName) ((Jvm.Cond.code ({ cls := "ChannelMachine$Machine", name := "fetched", desc := "(I)I" } : Jvm.MethodName) prog_6_method_19_code (3 : Nat) (Option.some Jvm.ClassFile.FieldType.int)) :: x_T) ({ frames := 8, cells := y_gc qn cq, slots := y_gs qn cq, locals := 212 }) (y_Pc (dC, dI) ar N0 z (y_W ad ar I T A O pl) sz w0 [.ref (ad 4), .int (Int32.ofNat c9)]) (va_Qi (fun (r : Int32) (u : (Nat → Int32) × Int64 × (Nat → Nat → Int32) × (Nat → Option Nat) × va_W × (Nat × Nat × Nat × Nat)) => y_MI z ar G C Gs u.1 u.2.2.2.1 (y_L u.2.2.2.2.1) u.2.2.2.2.2 ∧ y_bd (qn, sn, cq, cs) u.2.2.2.2.2 1 0 ∧ m_fr [10, 11, 12, 13, 14, 15] I u.1) (fun u t => va_P (dC, dI) y_cl (y_W ad ar u.1 u.2.1 u.2.2.1 u.2.2.2.1 u.2.2.2.2.1) t.heap ∧ va_D (va_A (y_W ad ar I T A O pl) sz) (y_W ad ar u.1 u.2.1 u.2.2.1 u.2.2.2.1 u.2.2.2.2.1) ∧ y_ac (cq + cs) sz w0 (u.2.2.2.2.2.2.2.1 + u.2.2.2.2.2.2.2.2) t.heap) (va_A (y_W ad ar I T A O pl) sz)) (y_gc qn cq) (y_gs qn cq) (va_A (y_W ad ar I T A O pl) sz) := by
  refine Met.ofW (cc := prog_6_method_19_code) (maxL := 3) (ret := (some .int)) (by decide) rfl ?_
  intro p e s m args below meth c s₁ B hml hv
  obtain ⟨rfl, hsz, hN0, hP, hU, hZ, hD0, hw0⟩ := hv
  have hK := hU.2.1
  have hx := B.exec
  have hb := B.bytes
  have hr := B.returns
  have hts : ∀ w ∈ x_T, w.before ([.ref (ad 4), .int (Int32.ofNat c9)] : List Value).toArray s = true := fun w h => atoms_spec (ws := (Jvm.Cond.code ({ cls := "ChannelMachine$Machine", name := "fetched", desc := "(I)I" } : Jvm.MethodName) prog_6_method_19_code (3 : Nat) (Option.some Jvm.ClassFile.FieldType.int)) :: x_T) B.pre w (List.mem_cons_of_mem _ h)
  have hown : s.vm.findClass "ChannelMachine$Machine" = some m.cls := findClass_of_methodNamed B.named
  have hlocks := B.notSynchronized
  subst hsz
  subst hw0
  have hD := hD0.self (sz := s.heap.size)
  have hAN := x_AN hD0 hN0
  generalize hAe : va_A (y_W ad ar I T A O pl) s.heap.size = Bq at hD hAN ⊢
  have hA : ∀ q : Nat, s.heap.size ≤ q → Bq q := fun q h => by rw [← hAe]; exact Or.inr h
  have hS : va_S Bq s.heap s.heap [] := va_S.rf
  have hl := lv_entry ([.ref (ad 4), .int (Int32.ofNat c9)]) (n := 3) (Nat.le_of_ble_eq_true rfl)
  rw [lg_entry_eq]
  generalize (lg_sl ([.ref (ad 4), .int (Int32.ofNat c9)]) ++ List.replicate (3 - (lg_sl ([.ref (ad 4), .int (Int32.ofNat c9)])).length) Slot.unset).toArray = ls at hl ⊢
  have hl : lv_has ls 3 [(0, .ref (ad 4)), (1, .int (Int32.ofNat c9))] := hl
  have hle := y_LS.le hmi.2.1.2
  dsimp only at hle
  have hcap := hmi.2.2.2.2.1
  dsimp only at hcap
  have hgg := y_gg qn cq
  refine lv_aload_n hx hb d_Machine_fetched_0 rfl (lv_at hl 0 rfl) ?_
  refine k_g (C := "ChannelMachine$Machine") (F := F_Machine) (N := 11) hx hb hts i_Machine hown hK hP 4 1 (by decide) (by decide) rfl (by decide) (d := (0, 6)) rfl (hts _ k_152) (fun _ h9 => h9) (v := .ref (ad 6)) rfl d_Machine_fetched_1 ?_
  refine lv_iload_n hx hb d_Machine_fetched_4 rfl (lv_at hl 1 rfl) ?_
  refine k_chl hx hb hK hP (n := c9) (by omega) d_Machine_fetched_5 ?_
  refine k_gN (C := "ChannelMachine$Channel") (F := F_Channel) (N := 4) hx hb hts i_Channel hown hK hP (14 + c9) 0 (by omega) (y_cc (by omega)) (y_ccl (by omega)) (by decide) (d := (3, (3 + 3 * c9))) (y_dc0 (by omega)) (hU.1.2.1 _ kn_132) (fun _ h9 => h9) (v := va_rf (O ((3 + 3 * c9)))) rfl d_Machine_fetched_6 ?_
  rcases hOx1 : O ((3 + 3 * c9)) with _ | x1
  · refine W.eq (g2 := F0 m 9 ls [.null]) rfl ?_
    refine lv_astore_nN (lv' := [(2, .null), (0, .ref (ad 4)), (1, .int (Int32.ofNat c9))]) hx hb d_Machine_fetched_9 rfl hl (by decide) rfl (fun ls hl => ?_)
    refine lv_iload_n hx hb d_Machine_fetched_10 rfl (lv_at hl 2 rfl) ?_
    refine lv_iconst (v := 4) hx hb d_Machine_fetched_11 (by decide) ?_
    refine lv_icmp_eq (tgt := 19) hx hb d_Machine_fetched_12 (by decide) (fun c_2 => ?_) (fun c_2 => ?_)
    · have c_2 : c9 = 4 := (x_eqN (a := c9) (b := 4) (by omega) (by omega)).mp c_2
      refine lv_aload_n hx hb d_Machine_fetched_19 rfl (lv_at hl 1 rfl) ?_
      refine k_g (C := "ChannelMachine$Machine") (F := F_Machine) (N := 11) hx hb hts i_Machine hown hK hP 4 2 (by decide) (by decide) rfl (by decide) (d := (0, 7)) rfl (hts _ k_154) (fun _ h9 => h9) (v := .ref (ad 7)) rfl d_Machine_fetched_20 ?_
      have hFc := y_free hD hS hA
      refine va_calli (va_runV (As := []) (rest := []) ⟨hx, hb, hml, hown, hts⟩ (c_R_removeFirst7 l dC dI ar N0 z ad I T A O pl G C Gs qn sn cq cs s.heap.size (y_hs s.heap) hmi) (cwV 0 hts (x_goodV k_862 k_863 k_864 k_4 k_865) rfl rfl rfl (by decide +kernel) ⟨Nat.le_of_ble_eq_true rfl, Nat.le_of_ble_eq_true rfl⟩) ⟨y_blind, va_recv hK hP (ci := 4) (q0 := 7) rfl (y_W_ob (by decide) (by decide)), fun U9 hU9 hW9 => y_pre hU9 hW9 hP hD hU hZ hS hAN hN0⟩ rfl rfl hl.1 rfl (lv_room (Nat.le_of_ble_eq_true rfl)) d_Machine_fetched_23 ⟨(by show 0 + (0) ≤ y_gc qn cq; omega), (by show 0 + (0) ≤ y_gs qn cq; omega)⟩) hS (fun q _ h => hFc q h) hFc (fun r_3 u t H1 locs ht hvm hw hB hz1 hk1 hS => ?_)
      obtain ⟨I4, T4, A4, O4, pl4, q4, s4, cq4, cs4⟩ := u
      dsimp only at hw hB
      rw [ht] at hB
      obtain ⟨hP, hD1, hac4⟩ := hB
      have hD : va_D Bq (y_W ad ar I4 T4 A4 O4 pl4) := hD1.weaken (fun _ q _ h => hFc q.1 h)
      generalize H1 = H at hP hS hac4 ⊢
      refine W.widen (k := 0) (n := 0) (by omega) (by omega) ?_
      obtain ⟨hmi, hbd4, fr4⟩ := hw
      have hb4 := hbd4
      unfold y_bd at hb4
      unfold y_ac at hac4
      dsimp only at hb4 hac4
      refine y_know (fun hy91 hy92 hy93 hy94 => ?_)
      have hac9 : y_ac (cq + cs) s.heap.size (y_hs s.heap) (cq4 + cs4) H := ⟨by omega, by omega⟩
      refine W.widen (k := y_gc qn cq) (n := y_gs qn cq) (by omega) (by omega) ?_
      exact W.iret (v := r_3) hx hb hr (fun t ht hW => ⟨⟨r_3, (I4, T4, A4, O4, pl4, (q4, s4, cq4, cs4)), rfl, ⟨hmi, (y_bd.tr hbd4 (y_bd.rf (a := 0) (b := 0)) (e := 1) (g := 0) (by decide) (by decide)), (m_fr.rf.tr fr4 (by decide))⟩, (by dsimp only; rw [ht]; exact ⟨hP, hD, hac9⟩)⟩, hS.F ht⟩) hS.2.2 d_Machine_fetched_26
    · have c_2 : ¬ c9 = 4 := fun h9 => c_2 ((x_eqN (a := c9) (b := 4) (by omega) (by omega)).mpr h9)
      refine lv_aload_nN hx hb d_Machine_fetched_15 rfl (lv_at hl 0 rfl) ?_
      refine lv_ifnonnullN hx hb d_Machine_fetched_16 ?_
      refine lv_aload_n hx hb d_Machine_fetched_19 rfl (lv_at hl 1 rfl) ?_
      refine k_g (C := "ChannelMachine$Machine") (F := F_Machine) (N := 11) hx hb hts i_Machine hown hK hP 4 2 (by decide) (by decide) rfl (by decide) (d := (0, 7)) rfl (hts _ k_154) (fun _ h9 => h9) (v := .ref (ad 7)) rfl d_Machine_fetched_20 ?_
      have hFc := y_free hD hS hA
      refine va_calli (va_runV (As := []) (rest := []) ⟨hx, hb, hml, hown, hts⟩ (c_R_removeFirst7 l dC dI ar N0 z ad I T A O pl G C Gs qn sn cq cs s.heap.size (y_hs s.heap) hmi) (cwV 0 hts (x_goodV k_862 k_863 k_864 k_4 k_865) rfl rfl rfl (by decide +kernel) ⟨Nat.le_of_ble_eq_true rfl, Nat.le_of_ble_eq_true rfl⟩) ⟨y_blind, va_recv hK hP (ci := 4) (q0 := 7) rfl (y_W_ob (by decide) (by decide)), fun U9 hU9 hW9 => y_pre hU9 hW9 hP hD hU hZ hS hAN hN0⟩ rfl rfl hl.1 rfl (lv_room (Nat.le_of_ble_eq_true rfl)) d_Machine_fetched_23 ⟨(by show 0 + (0) ≤ y_gc qn cq; omega), (by show 0 + (0) ≤ y_gs qn cq; omega)⟩) hS (fun q _ h => hFc q h) hFc (fun r_5 u t H1 locs ht hvm hw hB hz1 hk1 hS => ?_)
      obtain ⟨I6, T6, A6, O6, pl6, q6, s6, cq6, cs6⟩ := u
      dsimp only at hw hB
      rw [ht] at hB
      obtain ⟨hP, hD1, hac6⟩ := hB
      have hD : va_D Bq (y_W ad ar I6 T6 A6 O6 pl6) := hD1.weaken (fun _ q _ h => hFc q.1 h)
      generalize H1 = H at hP hS hac6 ⊢
      refine W.widen (k := 0) (n := 0) (by omega) (by omega) ?_
      obtain ⟨hmi, hbd6, fr6⟩ := hw
      have hb6 := hbd6
      unfold y_bd at hb6
      unfold y_ac at hac6
      dsimp only at hb6 hac6
      refine y_know (fun hy91 hy92 hy93 hy94 => ?_)
      have hac9 : y_ac (cq + cs) s.heap.size (y_hs s.heap) (cq6 + cs6) H := ⟨by omega, by omega⟩
      refine W.widen (k := y_gc qn cq) (n := y_gs qn cq) (by omega) (by omega) ?_
      exact W.iret (v := r_5) hx hb hr (fun t ht hW => ⟨⟨r_5, (I6, T6, A6, O6, pl6, (q6, s6, cq6, cs6)), rfl, ⟨hmi, (y_bd.tr hbd6 (y_bd.rf (a := 0) (b := 0)) (e := 1) (g := 0) (by decide) (by decide)), (m_fr.rf.tr fr6 (by decide))⟩, (by dsimp only; rw [ht]; exact ⟨hP, hD, hac9⟩)⟩, hS.F ht⟩) hS.2.2 d_Machine_fetched_26
  · refine W.eq (g2 := F0 m 9 ls [.ref x1]) rfl ?_
    have hx1 : G x1 = 8 := (hmi.2.2.2.2.2.1 c9 (by omega)).1 x1 hOx1
    refine lv_astore_n (lv' := [(2, .ref x1), (0, .ref (ad 4)), (1, .int (Int32.ofNat c9))]) hx hb d_Machine_fetched_9 rfl hl (by decide) rfl (fun ls hl => ?_)
    refine lv_iload_n hx hb d_Machine_fetched_10 rfl (lv_at hl 2 rfl) ?_
    refine lv_iconst (v := 4) hx hb d_Machine_fetched_11 (by decide) ?_
    refine lv_icmp_eq (tgt := 19) hx hb d_Machine_fetched_12 (by decide) (fun c_7 => ?_) (fun c_7 => ?_)
    · have c_7 : c9 = 4 := (x_eqN (a := c9) (b := 4) (by omega) (by omega)).mp c_7
      refine lv_aload_n hx hb d_Machine_fetched_19 rfl (lv_at hl 1 rfl) ?_
      refine k_g (C := "ChannelMachine$Machine") (F := F_Machine) (N := 11) hx hb hts i_Machine hown hK hP 4 2 (by decide) (by decide) rfl (by decide) (d := (0, 7)) rfl (hts _ k_154) (fun _ h9 => h9) (v := .ref (ad 7)) rfl d_Machine_fetched_20 ?_
      have hFc := y_free hD hS hA
      refine va_calli (va_runV (As := []) (rest := []) ⟨hx, hb, hml, hown, hts⟩ (c_R_removeFirst7 l dC dI ar N0 z ad I T A O pl G C Gs qn sn cq cs s.heap.size (y_hs s.heap) hmi) (cwV 0 hts (x_goodV k_862 k_863 k_864 k_4 k_865) rfl rfl rfl (by decide +kernel) ⟨Nat.le_of_ble_eq_true rfl, Nat.le_of_ble_eq_true rfl⟩) ⟨y_blind, va_recv hK hP (ci := 4) (q0 := 7) rfl (y_W_ob (by decide) (by decide)), fun U9 hU9 hW9 => y_pre hU9 hW9 hP hD hU hZ hS hAN hN0⟩ rfl rfl hl.1 rfl (lv_room (Nat.le_of_ble_eq_true rfl)) d_Machine_fetched_23 ⟨(by show 0 + (0) ≤ y_gc qn cq; omega), (by show 0 + (0) ≤ y_gs qn cq; omega)⟩) hS (fun q _ h => hFc q h) hFc (fun r_8 u t H1 locs ht hvm hw hB hz1 hk1 hS => ?_)
      obtain ⟨I9, T9, A9, O9, pl9, q9, s9, cq9, cs9⟩ := u
      dsimp only at hw hB
      rw [ht] at hB
      obtain ⟨hP, hD1, hac9⟩ := hB
      have hD : va_D Bq (y_W ad ar I9 T9 A9 O9 pl9) := hD1.weaken (fun _ q _ h => hFc q.1 h)
      generalize H1 = H at hP hS hac9 ⊢
      refine W.widen (k := 0) (n := 0) (by omega) (by omega) ?_
      obtain ⟨hmi, hbd9, fr9⟩ := hw
      have hb9 := hbd9
      unfold y_bd at hb9
      unfold y_ac at hac9
      dsimp only at hb9 hac9
      refine y_know (fun hy91 hy92 hy93 hy94 => ?_)
      have hac9 : y_ac (cq + cs) s.heap.size (y_hs s.heap) (cq9 + cs9) H := ⟨by omega, by omega⟩
      refine W.widen (k := y_gc qn cq) (n := y_gs qn cq) (by omega) (by omega) ?_
      exact W.iret (v := r_8) hx hb hr (fun t ht hW => ⟨⟨r_8, (I9, T9, A9, O9, pl9, (q9, s9, cq9, cs9)), rfl, ⟨hmi, (y_bd.tr hbd9 (y_bd.rf (a := 0) (b := 0)) (e := 1) (g := 0) (by decide) (by decide)), (m_fr.rf.tr fr9 (by decide))⟩, (by dsimp only; rw [ht]; exact ⟨hP, hD, hac9⟩)⟩, hS.F ht⟩) hS.2.2 d_Machine_fetched_26
    · have c_7 : ¬ c9 = 4 := fun h9 => c_7 ((x_eqN (a := c9) (b := 4) (by omega) (by omega)).mpr h9)
      refine lv_aload_n hx hb d_Machine_fetched_15 rfl (lv_at hl 0 rfl) ?_
      refine lv_ifnonnull (tgt := 27) hx hb d_Machine_fetched_16 (by decide) ?_
      refine lv_aload_n hx hb d_Machine_fetched_27 rfl (lv_at hl 1 rfl) ?_
      refine k_g (C := "ChannelMachine$Machine") (F := F_Machine) (N := 11) hx hb hts i_Machine hown hK hP 4 1 (by decide) (by decide) rfl (by decide) (d := (0, 6)) rfl (hts _ k_152) (fun _ h9 => h9) (v := .ref (ad 6)) rfl d_Machine_fetched_28 ?_
      refine lv_iload_n hx hb d_Machine_fetched_31 rfl (lv_at hl 2 rfl) ?_
      refine k_chl hx hb hK hP (n := c9) (by omega) d_Machine_fetched_32 ?_
      refine lv_null hx hb d_Machine_fetched_33 ?_
      refine k_poN (C := "ChannelMachine$Channel") (F := F_Channel) (N := 4) hx hb hts i_Channel hown t_Channel t_Channel_ok n_Channel hK hP hD hS (14 + c9) 0 (by omega) (y_cc (by omega)) (y_ccl (by omega)) (by decide) (j := (3 + 3 * c9)) (x := none) (ty := (.object "ChannelMachine$Task")) (y_dc0 (by omega)) (hU.1.2.1 _ kn_132) (fun _ h9 => h9) rfl (by decide +kernel) rfl rfl d_Machine_fetched_34 (fun H locs hP hD hS => ?_)
      have hmi : y_MI z ar G C Gs I (y_up O ((3 + 3 * c9)) none) (y_L pl) (qn, sn, cq, cs) := hmi.snd (c := c9) (by omega) (fun a ha => nomatch ha)
      refine lv_aload_n hx hb d_Machine_fetched_37 rfl (lv_at hl 1 rfl) ?_
      refine lv_aload_n hx hb d_Machine_fetched_38 rfl (lv_at hl 0 rfl) ?_
      have hgg10 := y_gg qn cq
      refine y_know (fun hya1 hya2 hya3 hya4 => ?_)
      have hFc := y_free hD hS hA
      refine va_callv (va_runV (As := [.ref x1]) (rest := []) ⟨hx, hb, hml, hown, hts⟩ (c_M_resume l dC dI ar N0 z ad I T A (y_up O ((3 + 3 * c9)) none) pl G C Gs qn sn cq cs x1 H.size (y_hs H) hmi hx1 (by omega)) (cwV 1 hts (x_goodV k_773 k_775 kp_28 k_3 k_776) rfl rfl rfl (by decide +kernel) ⟨Nat.le_of_ble_eq_true rfl, Nat.le_of_ble_eq_true rfl⟩) ⟨y_blind, va_recv hK hP (ci := 2) (q0 := 4) rfl (y_W_ob (by decide) (by decide)), fun U9 hU9 hW9 => y_pre hU9 hW9 hP hD hU hZ hS hAN hN0⟩ rfl rfl hl.1 rfl (lv_room (Nat.le_of_ble_eq_true rfl)) d_Machine_fetched_39 ⟨(by show 0 + (y_gc qn cq) ≤ y_gc qn cq; omega), (by show 0 + (y_gs qn cq) ≤ y_gs qn cq; omega)⟩) hS (fun q _ h => hFc q h) hFc (fun u t H1 locs ht hvm hw hB hz1 hk1 hS => ?_)
      obtain ⟨I11, T11, A11, O11, pl11, q11, s11, cq11, cs11⟩ := u
      dsimp only at hw hB
      rw [ht] at hB
      obtain ⟨hP, hD1, hac11⟩ := hB
      have hD : va_D Bq (y_W ad ar I11 T11 A11 O11 pl11) := hD1.weaken (fun _ q _ h => hFc q.1 h)
      generalize H1 = H at hP hS hac11 ⊢
      obtain ⟨hmi, hbd11, fr11⟩ := hw
      unfold y_ac at hac11
      have hb11 := hbd11
      unfold y_bd at hb11
      dsimp only at hb11 hac11
      refine lv_aload_n hx hb d_Machine_fetched_42 rfl (lv_at hl 0 rfl) ?_
      obtain ⟨w12, m12, a12, b12, r12, v12, u12, hf12, hw12, hm12, ha12⟩ := hmi.1.2.1 x1 hx1
      refine d_gN (C := "ChannelMachine$Task") (F := F_Task) (N := 7) hx hb hts i_Task hown hK hP hf12 5 rfl (by decide) (hU.1.2.1 _ kn_459) (fun _ h9 => h9) (v := .int v12) rfl d_Machine_fetched_43 ?_
      refine y_know (fun hy91 hy92 hy93 hy94 => ?_)
      have hac9 : y_ac (cq + cs) s.heap.size (y_hs s.heap) (cq11 + cs11) H := ⟨by omega, by omega⟩
      refine W.widen (k := y_gc qn cq) (n := y_gs qn cq) (by omega) (by omega) ?_
      exact W.iret (v := v12) hx hb hr (fun t ht hW => ⟨⟨v12, (I11, T11, A11, O11, pl11, (q11, s11, cq11, cs11)), rfl, ⟨hmi, (y_bd.tr hbd11 (y_bd.rf (a := 0) (b := 0)) (e := 1) (g := 0) (by decide) (by decide)), (m_fr.rf.tr fr11 (by decide))⟩, (by dsimp only; rw [ht]; exact ⟨hP, hD, hac9⟩)⟩, hS.F ht⟩) hS.2.2 d_Machine_fetched_46
