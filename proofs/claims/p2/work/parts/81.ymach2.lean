-- ===== 81.ymach2: deliver, settle, delay, accept, handOut of the machine, by program =====
theorem k_725 : (Jvm.Cond.constant "ChannelMachine$Machine" (109 : Nat) (1000000 : Int32)) ∈ x_T := x_at 725 (by decide +kernel) (by decide +kernel)
theorem k_736 : (Jvm.Cond.methodLink "ChannelMachine$Machine" (114 : Nat) ({ cls := "java/util/List", name := "get", desc := "(I)Ljava/lang/Object;" } : Jvm.MethodName)) ∈ x_T := x_at 736 (by decide +kernel) (by decide +kernel)
theorem k_739 : (Jvm.Cond.selects "java/util/ArrayList" ({ cls := "java/util/List", name := "get", desc := "(I)Ljava/lang/Object;" } : Jvm.MethodName) ({ cls := "java/util/ArrayList", name := "get", desc := "(I)Ljava/lang/Object;" } : Jvm.MethodName)) ∈ x_T := x_at 739 (by decide +kernel) (by decide +kernel)
theorem k_741 : (Jvm.Cond.instanceMethod ({ cls := "java/util/ArrayList", name := "get", desc := "(I)Ljava/lang/Object;" } : Jvm.MethodName)) ∈ x_T := x_at 741 (by decide +kernel) (by decide +kernel)
theorem k_743 : (Jvm.Cond.code ({ cls := "java/util/ArrayList", name := "get", desc := "(I)Ljava/lang/Object;" } : Jvm.MethodName) prog_28_method_20_code (2 : Nat) (Option.some (Jvm.ClassFile.FieldType.object "java/lang/Object"))) ∈ x_T := x_at 743 (by decide +kernel) (by decide +kernel)
theorem k_754 : (Jvm.Cond.classLink "ChannelMachine$Machine" (77 : Nat) "ChannelMachine$Task") ∈ x_T := x_at 754 (by decide +kernel) (by decide +kernel)
theorem k_769 : (Jvm.Cond.methodLink "ChannelMachine$Machine" (138 : Nat) ({ cls := "ChannelMachine$Machine", name := "finish", desc := "(LChannelMachine$Task;)V" } : Jvm.MethodName)) ∈ x_T := x_at 769 (by decide +kernel) (by decide +kernel)
theorem k_771 : (Jvm.Cond.instanceMethod ({ cls := "ChannelMachine$Machine", name := "finish", desc := "(LChannelMachine$Task;)V" } : Jvm.MethodName)) ∈ x_T := x_at 771 (by decide +kernel) (by decide +kernel)
theorem k_772 : (Jvm.Cond.code ({ cls := "ChannelMachine$Machine", name := "finish", desc := "(LChannelMachine$Task;)V" } : Jvm.MethodName) prog_6_method_8_code (2 : Nat) (Option.none : Option Jvm.ClassFile.FieldType)) ∈ x_T := x_at 772 (by decide +kernel) (by decide +kernel)
theorem k_787 : (Jvm.Cond.methodLink "ChannelMachine$Machine" (183 : Nat) ({ cls := "ChannelMachine$Machine", name := "pause", desc := "()V" } : Jvm.MethodName)) ∈ x_T := x_at 787 (by decide +kernel) (by decide +kernel)
theorem k_789 : (Jvm.Cond.instanceMethod ({ cls := "ChannelMachine$Machine", name := "pause", desc := "()V" } : Jvm.MethodName)) ∈ x_T := x_at 789 (by decide +kernel) (by decide +kernel)
theorem k_790 : (Jvm.Cond.code ({ cls := "ChannelMachine$Machine", name := "pause", desc := "()V" } : Jvm.MethodName) prog_6_method_9_code (1 : Nat) (Option.none : Option Jvm.ClassFile.FieldType)) ∈ x_T := x_at 790 (by decide +kernel) (by decide +kernel)
theorem k_815 : (Jvm.Cond.methodLink "ChannelMachine$Machine" (196 : Nat) ({ cls := "ChannelMachine$Machine", name := "assign", desc := "(II)V" } : Jvm.MethodName)) ∈ x_T := x_at 815 (by decide +kernel) (by decide +kernel)
theorem k_817 : (Jvm.Cond.instanceMethod ({ cls := "ChannelMachine$Machine", name := "assign", desc := "(II)V" } : Jvm.MethodName)) ∈ x_T := x_at 817 (by decide +kernel) (by decide +kernel)
theorem k_818 : (Jvm.Cond.code ({ cls := "ChannelMachine$Machine", name := "assign", desc := "(II)V" } : Jvm.MethodName) prog_6_method_13_code (3 : Nat) (Option.none : Option Jvm.ClassFile.FieldType)) ∈ x_T := x_at 818 (by decide +kernel) (by decide +kernel)
theorem k_835 : (Jvm.Cond.methodLink "ChannelMachine$Machine" (239 : Nat) ({ cls := "ChannelMachine$Row", name := "addLast", desc := "(I)V" } : Jvm.MethodName)) ∈ x_T := x_at 835 (by decide +kernel) (by decide +kernel)
theorem k_836 : (Jvm.Cond.instanceMethod ({ cls := "ChannelMachine$Row", name := "addLast", desc := "(I)V" } : Jvm.MethodName)) ∈ x_T := x_at 836 (by decide +kernel) (by decide +kernel)
theorem k_837 : (Jvm.Cond.selects "ChannelMachine$Row" ({ cls := "ChannelMachine$Row", name := "addLast", desc := "(I)V" } : Jvm.MethodName) ({ cls := "ChannelMachine$Row", name := "addLast", desc := "(I)V" } : Jvm.MethodName)) ∈ x_T := x_at 837 (by decide +kernel) (by decide +kernel)
theorem k_838 : (Jvm.Cond.code ({ cls := "ChannelMachine$Row", name := "addLast", desc := "(I)V" } : Jvm.MethodName) prog_9_method_3_code (2 : Nat) (Option.none : Option Jvm.ClassFile.FieldType)) ∈ x_T := x_at 838 (by decide +kernel) (by decide +kernel)
theorem k_839 : (Jvm.Cond.methodLink "ChannelMachine$Machine" (242 : Nat) ({ cls := "ChannelMachine$Machine", name := "deliver", desc := "(LChannelMachine$Channel;I)V" } : Jvm.MethodName)) ∈ x_T := x_at 839 (by decide +kernel) (by decide +kernel)
theorem k_841 : (Jvm.Cond.instanceMethod ({ cls := "ChannelMachine$Machine", name := "deliver", desc := "(LChannelMachine$Channel;I)V" } : Jvm.MethodName)) ∈ x_T := x_at 841 (by decide +kernel) (by decide +kernel)
theorem k_842 : (Jvm.Cond.code ({ cls := "ChannelMachine$Machine", name := "deliver", desc := "(LChannelMachine$Channel;I)V" } : Jvm.MethodName) prog_6_method_21_code (6 : Nat) (Option.none : Option Jvm.ClassFile.FieldType)) ∈ x_T := x_at 842 (by decide +kernel) (by decide +kernel)
theorem kn_138 : (Jvm.Cond.fieldLinkNest "ChannelMachine$Machine" (267 : Nat) "ChannelMachine$Channel" "variable" "I" "ChannelMachine") ∈ x_nest := x_nest_at 138 (by decide +kernel) (by decide +kernel)
theorem kn_140 : (Jvm.Cond.fieldLinkNest "ChannelMachine$Machine" (268 : Nat) "ChannelMachine$Channel" "follow" "LChannelMachine$Process;" "ChannelMachine") ∈ x_nest := x_nest_at 140 (by decide +kernel) (by decide +kernel)
theorem kn_461 : (Jvm.Cond.fieldLinkNest "ChannelMachine$Machine" (153 : Nat) "ChannelMachine$Task" "until" "J" "ChannelMachine") ∈ x_nest := x_nest_at 461 (by decide +kernel) (by decide +kernel)
theorem kn_1292 : (Jvm.Cond.castable "ChannelMachine$Task" "ChannelMachine$Task") ∈ x_nest := x_nest_at 1292 (by decide +kernel) (by decide +kernel)
theorem kp_27 : (Jvm.Cond.selects "ChannelMachine$Machine" ({ cls := "ChannelMachine$Machine", name := "finish", desc := "(LChannelMachine$Task;)V" } : Jvm.MethodName) ({ cls := "ChannelMachine$Machine", name := "finish", desc := "(LChannelMachine$Task;)V" } : Jvm.MethodName)) ∈ x_T := x_sel (q := (({ cls := "ChannelMachine$Machine", name := "finish", desc := "(LChannelMachine$Task;)V" } : Jvm.MethodName), 11)) 27 (by decide +kernel) (by decide +kernel)
theorem kp_30 : (Jvm.Cond.selects "ChannelMachine$Machine" ({ cls := "ChannelMachine$Machine", name := "pause", desc := "()V" } : Jvm.MethodName) ({ cls := "ChannelMachine$Machine", name := "pause", desc := "()V" } : Jvm.MethodName)) ∈ x_T := x_sel (q := (({ cls := "ChannelMachine$Machine", name := "pause", desc := "()V" } : Jvm.MethodName), 11)) 30 (by decide +kernel) (by decide +kernel)
theorem kp_33 : (Jvm.Cond.selects "ChannelMachine$Machine" ({ cls := "ChannelMachine$Machine", name := "assign", desc := "(II)V" } : Jvm.MethodName) ({ cls := "ChannelMachine$Machine", name := "assign", desc := "(II)V" } : Jvm.MethodName)) ∈ x_T := x_sel (q := (({ cls := "ChannelMachine$Machine", name := "assign", desc := "(II)V" } : Jvm.MethodName), 11)) 33 (by decide +kernel) (by decide +kernel)
theorem kp_37 : (Jvm.Cond.selects "ChannelMachine$Machine" ({ cls := "ChannelMachine$Machine", name := "deliver", desc := "(LChannelMachine$Channel;I)V" } : Jvm.MethodName) ({ cls := "ChannelMachine$Machine", name := "deliver", desc := "(LChannelMachine$Channel;I)V" } : Jvm.MethodName)) ∈ x_T := x_sel (q := (({ cls := "ChannelMachine$Machine", name := "deliver", desc := "(LChannelMachine$Channel;I)V" } : Jvm.MethodName), 11)) 37 (by decide +kernel) (by decide +kernel)
theorem d_Machine_deliver_0 : decode prog_6_method_21_code 0 = .ok (.aload_n 1, 1) := by decide +kernel
theorem d_Machine_deliver_1 : decode prog_6_method_21_code 1 = .ok (.getfield 103, 3) := by decide +kernel
theorem d_Machine_deliver_4 : decode prog_6_method_21_code 4 = .ok (.astore_n 3, 1) := by decide +kernel
theorem d_Machine_deliver_5 : decode prog_6_method_21_code 5 = .ok (.aload_n 1, 1) := by decide +kernel
theorem d_Machine_deliver_6 : decode prog_6_method_21_code 6 = .ok (.getfield 268, 3) := by decide +kernel
theorem d_Machine_deliver_9 : decode prog_6_method_21_code 9 = .ok (.astore 4, 2) := by decide +kernel
theorem d_Machine_deliver_11 : decode prog_6_method_21_code 11 = .ok (.aload_n 0, 1) := by decide +kernel
theorem d_Machine_deliver_12 : decode prog_6_method_21_code 12 = .ok (.aload_n 1, 1) := by decide +kernel
theorem d_Machine_deliver_13 : decode prog_6_method_21_code 13 = .ok (.getfield 267, 3) := by decide +kernel
theorem d_Machine_deliver_16 : decode prog_6_method_21_code 16 = .ok (.iload_n 2, 1) := by decide +kernel
theorem d_Machine_deliver_17 : decode prog_6_method_21_code 17 = .ok (.invokevirtual 196, 3) := by decide +kernel
theorem d_Machine_deliver_20 : decode prog_6_method_21_code 20 = .ok (.iconst 0, 1) := by decide +kernel
theorem d_Machine_deliver_21 : decode prog_6_method_21_code 21 = .ok (.istore 5, 2) := by decide +kernel
theorem d_Machine_deliver_23 : decode prog_6_method_21_code 23 = .ok (.iload 5, 2) := by decide +kernel
theorem d_Machine_deliver_25 : decode prog_6_method_21_code 25 = .ok (.bipush 6, 2) := by decide +kernel
theorem d_Machine_deliver_27 : decode prog_6_method_21_code 27 = .ok (.if_icmp .ge 34, 3) := by decide +kernel
theorem d_Machine_deliver_30 : decode prog_6_method_21_code 30 = .ok (.aload_n 0, 1) := by decide +kernel
theorem d_Machine_deliver_31 : decode prog_6_method_21_code 31 = .ok (.getfield 17, 3) := by decide +kernel
theorem d_Machine_deliver_34 : decode prog_6_method_21_code 34 = .ok (.iload 5, 2) := by decide +kernel
theorem d_Machine_deliver_36 : decode prog_6_method_21_code 36 = .ok (.aaload, 1) := by decide +kernel
theorem d_Machine_deliver_37 : decode prog_6_method_21_code 37 = .ok (.getfield 103, 3) := by decide +kernel
theorem d_Machine_deliver_40 : decode prog_6_method_21_code 40 = .ok (.aload_n 3, 1) := by decide +kernel
theorem d_Machine_deliver_41 : decode prog_6_method_21_code 41 = .ok (.if_acmp .ne 14, 3) := by decide +kernel
theorem d_Machine_deliver_44 : decode prog_6_method_21_code 44 = .ok (.aload_n 0, 1) := by decide +kernel
theorem d_Machine_deliver_45 : decode prog_6_method_21_code 45 = .ok (.getfield 17, 3) := by decide +kernel
theorem d_Machine_deliver_48 : decode prog_6_method_21_code 48 = .ok (.iload 5, 2) := by decide +kernel
theorem d_Machine_deliver_50 : decode prog_6_method_21_code 50 = .ok (.aaload, 1) := by decide +kernel
theorem d_Machine_deliver_51 : decode prog_6_method_21_code 51 = .ok (.aconst_null, 1) := by decide +kernel
theorem d_Machine_deliver_52 : decode prog_6_method_21_code 52 = .ok (.putfield 103, 3) := by decide +kernel
theorem d_Machine_deliver_55 : decode prog_6_method_21_code 55 = .ok (.iinc 5 1, 3) := by decide +kernel
theorem d_Machine_deliver_58 : decode prog_6_method_21_code 58 = .ok (.goto (-35), 3) := by decide +kernel
theorem d_Machine_deliver_61 : decode prog_6_method_21_code 61 = .ok (.aload 4, 2) := by decide +kernel
theorem d_Machine_deliver_63 : decode prog_6_method_21_code 63 = .ok (.ifnonnull 10, 3) := by decide +kernel
theorem d_Machine_deliver_66 : decode prog_6_method_21_code 66 = .ok (.aload_n 3, 1) := by decide +kernel
theorem d_Machine_deliver_67 : decode prog_6_method_21_code 67 = .ok (.invokevirtual 150, 3) := by decide +kernel
theorem d_Machine_deliver_70 : decode prog_6_method_21_code 70 = .ok (.goto 9, 3) := by decide +kernel
theorem d_Machine_deliver_73 : decode prog_6_method_21_code 73 = .ok (.aload_n 3, 1) := by decide +kernel
theorem d_Machine_deliver_74 : decode prog_6_method_21_code 74 = .ok (.aload 4, 2) := by decide +kernel
theorem d_Machine_deliver_76 : decode prog_6_method_21_code 76 = .ok (.invokevirtual 82, 3) := by decide +kernel
theorem d_Machine_deliver_79 : decode prog_6_method_21_code 79 = .ok (.aload_n 0, 1) := by decide +kernel
theorem d_Machine_deliver_80 : decode prog_6_method_21_code 80 = .ok (.getfield 34, 3) := by decide +kernel
theorem d_Machine_deliver_83 : decode prog_6_method_21_code 83 = .ok (.aload_n 3, 1) := by decide +kernel
theorem d_Machine_deliver_84 : decode prog_6_method_21_code 84 = .ok (.invokeinterface 90 2, 5) := by decide +kernel
theorem d_Machine_deliver_89 : decode prog_6_method_21_code 89 = .ok (.pop, 1) := by decide +kernel
theorem d_Machine_deliver_90 : decode prog_6_method_21_code 90 = .ok (.return_, 1) := by decide +kernel
theorem d_Machine_settle_0 : decode prog_6_method_7_code 0 = .ok (.iconst 0, 1) := by decide +kernel
theorem d_Machine_settle_1 : decode prog_6_method_7_code 1 = .ok (.istore_n 1, 1) := by decide +kernel
theorem d_Machine_settle_2 : decode prog_6_method_7_code 2 = .ok (.iload_n 1, 1) := by decide +kernel
theorem d_Machine_settle_3 : decode prog_6_method_7_code 3 = .ok (.ldc 109, 2) := by decide +kernel
theorem d_Machine_settle_5 : decode prog_6_method_7_code 5 = .ok (.if_icmp .ge 80, 3) := by decide +kernel
theorem d_Machine_settle_8 : decode prog_6_method_7_code 8 = .ok (.aload_n 0, 1) := by decide +kernel
theorem d_Machine_settle_9 : decode prog_6_method_7_code 9 = .ok (.getfield 34, 3) := by decide +kernel
theorem d_Machine_settle_12 : decode prog_6_method_7_code 12 = .ok (.invokeinterface 110 1, 5) := by decide +kernel
theorem d_Machine_settle_17 : decode prog_6_method_7_code 17 = .ok (.ifCond .ne 68, 3) := by decide +kernel
theorem d_Machine_settle_20 : decode prog_6_method_7_code 20 = .ok (.aload_n 0, 1) := by decide +kernel
theorem d_Machine_settle_21 : decode prog_6_method_7_code 21 = .ok (.getfield 34, 3) := by decide +kernel
theorem d_Machine_settle_24 : decode prog_6_method_7_code 24 = .ok (.iconst 0, 1) := by decide +kernel
theorem d_Machine_settle_25 : decode prog_6_method_7_code 25 = .ok (.invokeinterface 114 2, 5) := by decide +kernel
theorem d_Machine_settle_30 : decode prog_6_method_7_code 30 = .ok (.checkcast 77, 3) := by decide +kernel
theorem d_Machine_settle_33 : decode prog_6_method_7_code 33 = .ok (.astore_n 2, 1) := by decide +kernel
theorem d_Machine_settle_34 : decode prog_6_method_7_code 34 = .ok (.aload_n 2, 1) := by decide +kernel
theorem d_Machine_settle_35 : decode prog_6_method_7_code 35 = .ok (.invokevirtual 86, 3) := by decide +kernel
theorem d_Machine_settle_38 : decode prog_6_method_7_code 38 = .ok (.istore_n 3, 1) := by decide +kernel
theorem d_Machine_settle_39 : decode prog_6_method_7_code 39 = .ok (.iload_n 3, 1) := by decide +kernel
theorem d_Machine_settle_40 : decode prog_6_method_7_code 40 = .ok (.ifCond .ne 4, 3) := by decide +kernel
theorem d_Machine_settle_43 : decode prog_6_method_7_code 43 = .ok (.return_, 1) := by decide +kernel
theorem d_Machine_settle_44 : decode prog_6_method_7_code 44 = .ok (.aload_n 0, 1) := by decide +kernel
theorem d_Machine_settle_45 : decode prog_6_method_7_code 45 = .ok (.getfield 34, 3) := by decide +kernel
theorem d_Machine_settle_48 : decode prog_6_method_7_code 48 = .ok (.iconst 0, 1) := by decide +kernel
theorem d_Machine_settle_49 : decode prog_6_method_7_code 49 = .ok (.invokeinterface 135 2, 5) := by decide +kernel
theorem d_Machine_settle_54 : decode prog_6_method_7_code 54 = .ok (.pop, 1) := by decide +kernel
theorem d_Machine_settle_55 : decode prog_6_method_7_code 55 = .ok (.iload_n 3, 1) := by decide +kernel
theorem d_Machine_settle_56 : decode prog_6_method_7_code 56 = .ok (.iconst 1, 1) := by decide +kernel
theorem d_Machine_settle_57 : decode prog_6_method_7_code 57 = .ok (.if_icmp .ne 17, 3) := by decide +kernel
theorem d_Machine_settle_60 : decode prog_6_method_7_code 60 = .ok (.aload_n 0, 1) := by decide +kernel
theorem d_Machine_settle_61 : decode prog_6_method_7_code 61 = .ok (.getfield 34, 3) := by decide +kernel
theorem d_Machine_settle_64 : decode prog_6_method_7_code 64 = .ok (.aload_n 2, 1) := by decide +kernel
theorem d_Machine_settle_65 : decode prog_6_method_7_code 65 = .ok (.invokeinterface 90 2, 5) := by decide +kernel
theorem d_Machine_settle_70 : decode prog_6_method_7_code 70 = .ok (.pop, 1) := by decide +kernel
theorem d_Machine_settle_71 : decode prog_6_method_7_code 71 = .ok (.goto 8, 3) := by decide +kernel
theorem d_Machine_settle_74 : decode prog_6_method_7_code 74 = .ok (.aload_n 0, 1) := by decide +kernel
theorem d_Machine_settle_75 : decode prog_6_method_7_code 75 = .ok (.aload_n 2, 1) := by decide +kernel
theorem d_Machine_settle_76 : decode prog_6_method_7_code 76 = .ok (.invokevirtual 138, 3) := by decide +kernel
theorem d_Machine_settle_79 : decode prog_6_method_7_code 79 = .ok (.iinc 1 1, 3) := by decide +kernel
theorem d_Machine_settle_82 : decode prog_6_method_7_code 82 = .ok (.goto (-80), 3) := by decide +kernel
theorem d_Machine_settle_85 : decode prog_6_method_7_code 85 = .ok (.return_, 1) := by decide +kernel
theorem d_Machine_delay_0 : decode prog_6_method_23_code 0 = .ok (.iload_n 2, 1) := by decide +kernel
theorem d_Machine_delay_1 : decode prog_6_method_23_code 1 = .ok (.ifCond .le 32, 3) := by decide +kernel
theorem d_Machine_delay_4 : decode prog_6_method_23_code 4 = .ok (.aload_n 1, 1) := by decide +kernel
theorem d_Machine_delay_5 : decode prog_6_method_23_code 5 = .ok (.aload_n 0, 1) := by decide +kernel
theorem d_Machine_delay_6 : decode prog_6_method_23_code 6 = .ok (.getfield 54, 3) := by decide +kernel
theorem d_Machine_delay_9 : decode prog_6_method_23_code 9 = .ok (.iload_n 2, 1) := by decide +kernel
theorem d_Machine_delay_10 : decode prog_6_method_23_code 10 = .ok (.i2l, 1) := by decide +kernel
theorem d_Machine_delay_11 : decode prog_6_method_23_code 11 = .ok (.ladd, 1) := by decide +kernel
theorem d_Machine_delay_12 : decode prog_6_method_23_code 12 = .ok (.putfield 153, 3) := by decide +kernel
theorem d_Machine_delay_15 : decode prog_6_method_23_code 15 = .ok (.aload_n 0, 1) := by decide +kernel
theorem d_Machine_delay_16 : decode prog_6_method_23_code 16 = .ok (.getfield 38, 3) := by decide +kernel
theorem d_Machine_delay_19 : decode prog_6_method_23_code 19 = .ok (.aload_n 1, 1) := by decide +kernel
theorem d_Machine_delay_20 : decode prog_6_method_23_code 20 = .ok (.invokeinterface 90 2, 5) := by decide +kernel
theorem d_Machine_delay_25 : decode prog_6_method_23_code 25 = .ok (.pop, 1) := by decide +kernel
theorem d_Machine_delay_26 : decode prog_6_method_23_code 26 = .ok (.aload_n 0, 1) := by decide +kernel
theorem d_Machine_delay_27 : decode prog_6_method_23_code 27 = .ok (.invokevirtual 183, 3) := by decide +kernel
theorem d_Machine_delay_30 : decode prog_6_method_23_code 30 = .ok (.goto 7, 3) := by decide +kernel
theorem d_Machine_delay_33 : decode prog_6_method_23_code 33 = .ok (.aload_n 1, 1) := by decide +kernel
theorem d_Machine_delay_34 : decode prog_6_method_23_code 34 = .ok (.invokevirtual 150, 3) := by decide +kernel
theorem d_Machine_delay_37 : decode prog_6_method_23_code 37 = .ok (.return_, 1) := by decide +kernel
theorem d_Machine_accept_0 : decode prog_6_method_28_code 0 = .ok (.aload_n 0, 1) := by decide +kernel
theorem d_Machine_accept_1 : decode prog_6_method_28_code 1 = .ok (.getfield 17, 3) := by decide +kernel
theorem d_Machine_accept_4 : decode prog_6_method_28_code 4 = .ok (.iconst 4, 1) := by decide +kernel
theorem d_Machine_accept_5 : decode prog_6_method_28_code 5 = .ok (.aaload, 1) := by decide +kernel
theorem d_Machine_accept_6 : decode prog_6_method_28_code 6 = .ok (.getfield 103, 3) := by decide +kernel
theorem d_Machine_accept_9 : decode prog_6_method_28_code 9 = .ok (.ifnull 17, 3) := by decide +kernel
theorem d_Machine_accept_12 : decode prog_6_method_28_code 12 = .ok (.aload_n 0, 1) := by decide +kernel
theorem d_Machine_accept_13 : decode prog_6_method_28_code 13 = .ok (.aload_n 0, 1) := by decide +kernel
theorem d_Machine_accept_14 : decode prog_6_method_28_code 14 = .ok (.getfield 17, 3) := by decide +kernel
theorem d_Machine_accept_17 : decode prog_6_method_28_code 17 = .ok (.iconst 4, 1) := by decide +kernel
theorem d_Machine_accept_18 : decode prog_6_method_28_code 18 = .ok (.aaload, 1) := by decide +kernel
theorem d_Machine_accept_19 : decode prog_6_method_28_code 19 = .ok (.iload_n 1, 1) := by decide +kernel
theorem d_Machine_accept_20 : decode prog_6_method_28_code 20 = .ok (.invokevirtual 242, 3) := by decide +kernel
theorem d_Machine_accept_23 : decode prog_6_method_28_code 23 = .ok (.goto 11, 3) := by decide +kernel
theorem d_Machine_accept_26 : decode prog_6_method_28_code 26 = .ok (.aload_n 0, 1) := by decide +kernel
theorem d_Machine_accept_27 : decode prog_6_method_28_code 27 = .ok (.getfield 24, 3) := by decide +kernel
theorem d_Machine_accept_30 : decode prog_6_method_28_code 30 = .ok (.iload_n 1, 1) := by decide +kernel
theorem d_Machine_accept_31 : decode prog_6_method_28_code 31 = .ok (.invokevirtual 239, 3) := by decide +kernel
theorem d_Machine_accept_34 : decode prog_6_method_28_code 34 = .ok (.return_, 1) := by decide +kernel
theorem d_Machine_handOut_0 : decode prog_6_method_29_code 0 = .ok (.aload_n 0, 1) := by decide +kernel
theorem d_Machine_handOut_1 : decode prog_6_method_29_code 1 = .ok (.getfield 28, 3) := by decide +kernel
theorem d_Machine_handOut_4 : decode prog_6_method_29_code 4 = .ok (.invokevirtual 264, 3) := by decide +kernel
theorem d_Machine_handOut_7 : decode prog_6_method_29_code 7 = .ok (.istore_n 1, 1) := by decide +kernel
theorem d_Machine_handOut_8 : decode prog_6_method_29_code 8 = .ok (.aload_n 0, 1) := by decide +kernel
theorem d_Machine_handOut_9 : decode prog_6_method_29_code 9 = .ok (.getfield 17, 3) := by decide +kernel
theorem d_Machine_handOut_12 : decode prog_6_method_29_code 12 = .ok (.iconst 5, 1) := by decide +kernel
theorem d_Machine_handOut_13 : decode prog_6_method_29_code 13 = .ok (.aaload, 1) := by decide +kernel
theorem d_Machine_handOut_14 : decode prog_6_method_29_code 14 = .ok (.getfield 99, 3) := by decide +kernel
theorem d_Machine_handOut_17 : decode prog_6_method_29_code 17 = .ok (.astore_n 2, 1) := by decide +kernel
theorem d_Machine_handOut_18 : decode prog_6_method_29_code 18 = .ok (.aload_n 2, 1) := by decide +kernel
theorem d_Machine_handOut_19 : decode prog_6_method_29_code 19 = .ok (.ifnull 29, 3) := by decide +kernel
theorem d_Machine_handOut_22 : decode prog_6_method_29_code 22 = .ok (.aload_n 0, 1) := by decide +kernel
theorem d_Machine_handOut_23 : decode prog_6_method_29_code 23 = .ok (.getfield 17, 3) := by decide +kernel
theorem d_Machine_handOut_26 : decode prog_6_method_29_code 26 = .ok (.iconst 5, 1) := by decide +kernel
theorem d_Machine_handOut_27 : decode prog_6_method_29_code 27 = .ok (.aaload, 1) := by decide +kernel
theorem d_Machine_handOut_28 : decode prog_6_method_29_code 28 = .ok (.aconst_null, 1) := by decide +kernel
theorem d_Machine_handOut_29 : decode prog_6_method_29_code 29 = .ok (.putfield 99, 3) := by decide +kernel
theorem d_Machine_handOut_32 : decode prog_6_method_29_code 32 = .ok (.aload_n 0, 1) := by decide +kernel
theorem d_Machine_handOut_33 : decode prog_6_method_29_code 33 = .ok (.getfield 28, 3) := by decide +kernel
theorem d_Machine_handOut_36 : decode prog_6_method_29_code 36 = .ok (.aload_n 2, 1) := by decide +kernel
theorem d_Machine_handOut_37 : decode prog_6_method_29_code 37 = .ok (.getfield 249, 3) := by decide +kernel
theorem d_Machine_handOut_40 : decode prog_6_method_29_code 40 = .ok (.invokevirtual 239, 3) := by decide +kernel
theorem d_Machine_handOut_43 : decode prog_6_method_29_code 43 = .ok (.aload_n 0, 1) := by decide +kernel
theorem d_Machine_handOut_44 : decode prog_6_method_29_code 44 = .ok (.aload_n 2, 1) := by decide +kernel
theorem d_Machine_handOut_45 : decode prog_6_method_29_code 45 = .ok (.invokevirtual 147, 3) := by decide +kernel
theorem d_Machine_handOut_48 : decode prog_6_method_29_code 48 = .ok (.iload_n 1, 1) := by decide +kernel
theorem d_Machine_handOut_49 : decode prog_6_method_29_code 49 = .ok (.ireturn, 1) := by decide +kernel
section XG
variable {p : Program} {l : Launch} {e : Env} {R : Room} {s : State} {m : MethodId} {args : Array Value} {below : List Frame} {meth : Method} {c : Code} {Q : State → Prop} {pc : Nat} {rest : List Value}
/-- a loop with a measure whose turns take room, by a number of its state -/
theorem x_whileG (cf sf : Nat → Nat) (Inv : Nat → Nat → Heap → List Loc → Array Slot → Prop)
    (step : ∀ n, (∀ n', n' < n → ∀ k H locs ls, Inv n' k H locs ls → W p l e R s m args below meth c H locs (cf k) (sf k) Q (F0 m pc ls rest)) → ∀ k H locs ls, Inv n k H locs ls → W p l e R s m args below meth c H locs (cf k) (sf k) Q (F0 m pc ls rest))
    {n k : Nat} {H : Heap} {locs : List Loc} {ls : Array Slot} (h0 : Inv n k H locs ls) : W p l e R s m args below meth c H locs (cf k) (sf k) Q (F0 m pc ls rest) := by
  have h : ∀ n, ∀ k H locs ls, Inv n k H locs ls → W p l e R s m args below meth c H locs (cf k) (sf k) Q (F0 m pc ls rest) := by
    intro n
    induction n using Nat.strongRecOn with
    | ind n ih => exact step n ih
  exact h n k H locs ls h0
end XG
set_option maxHeartbeats 4000000 in
set_option maxRecDepth 100000 in
theorem c_M_deliver (l : Launch) (dC : Nat → ClassId) (dI : Nat → Nat → Nat) (ar : Nat → ClassId) (N0 : Nat) (z : Nat → Nat) (ad : Nat → Nat) (I : Nat → Int32) (T : Int64) (A : Nat → Nat → Int32) (O : Nat → Option Nat) (pl : va_W) (G : Nat → Nat) (C Gs : Nat → List Nat) (qn sn cq cs : Nat) (c9 rr : Nat) (vv : Int32) (sz w0 : Nat) (hmi : y_MI z ar G C Gs I O (y_L pl) (qn, sn, cq, cs)) (hc9 : c9 < 6) (hrc : O (4 + 3 * c9) = some rr) (hlim : qn ≤ 20000000) : Met l ({ cls := "ChannelMachine$Machine", name := "deliver", desc := "(LChannelMachine$Channel;I)V" } : Jvm.MethodName) ((Jvm.Cond.code ({ cls := "ChannelMachine$Machine", name := "deliver", desc := "(LChannelMachine$Channel;I)V" } : Jvm.MethodName) prog_6_method_21_code (6 : Nat) (Option.none : Option Jvm.ClassFile.FieldType)) :: x_T) ({ frames := 7, cells := y_gc qn cq, slots := y_gs qn cq, locals := 191 }) (y_Pc (dC, dI) ar N0 z (y_W ad ar I T A O pl) sz w0 [.ref (ad 4), .ref (ad (14 + c9)), .int vv]) (va_Qv (fun (u : (Nat → Int32) × Int64 × (Nat → Nat → Int32) × (Nat → Option Nat) × va_W × (Nat × Nat × Nat × Nat)) => y_MI z ar G C Gs u.1 u.2.2.2.1 (y_L u.2.2.2.2.1) u.2.2.2.2.2 ∧ y_bd (qn, sn, cq, cs) u.2.2.2.2.2 1 0 ∧ m_fr [12, 13, 14, 15] I u.1) (fun u t => va_P (dC, dI) y_cl (y_W ad ar u.1 u.2.1 u.2.2.1 u.2.2.2.1 u.2.2.2.2.1) t.heap ∧ va_D (va_A (y_W ad ar I T A O pl) sz) (y_W ad ar u.1 u.2.1 u.2.2.1 u.2.2.2.1 u.2.2.2.2.1) ∧ y_ac (cq + cs) sz w0 (u.2.2.2.2.2.2.2.1 + u.2.2.2.2.2.2.2.2) t.heap) (va_A (y_W ad ar I T A O pl) sz)) (y_gc qn cq) (y_gs qn cq) (va_A (y_W ad ar I T A O pl) sz) := by
  refine Met.ofW (cc := prog_6_method_21_code) (maxL := 6) (ret := none) (by decide) rfl ?_
  intro p e s m args below meth c s₁ B hml hv
  obtain ⟨rfl, hsz, hN0, hP, hU, hZ, hD0, hw0⟩ := hv
  have hK := hU.2.1
  have hx := B.exec
  have hb := B.bytes
  have hr := B.returns
  have hts : ∀ w ∈ x_T, w.before ([.ref (ad 4), .ref (ad (14 + c9)), .int vv] : List Value).toArray s = true := fun w h => atoms_spec (ws := (Jvm.Cond.code ({ cls := "ChannelMachine$Machine", name := "deliver", desc := "(LChannelMachine$Channel;I)V" } : Jvm.MethodName) prog_6_method_21_code (6 : Nat) (Option.none : Option Jvm.ClassFile.FieldType)) :: x_T) B.pre w (List.mem_cons_of_mem _ h)
  have hown : s.vm.findClass "ChannelMachine$Machine" = some m.cls := findClass_of_methodNamed B.named
  have hlocks := B.notSynchronized
  subst hsz
  subst hw0
  have hD := hD0.self (sz := s.heap.size)
  have hAN := x_AN hD0 hN0
  generalize hAe : va_A (y_W ad ar I T A O pl) s.heap.size = Bq at hD hAN ⊢
  have hA : ∀ q : Nat, s.heap.size ≤ q → Bq q := fun q h => by rw [← hAe]; exact Or.inr h
  have hS : va_S Bq s.heap s.heap [] := va_S.rf
  have hl := lv_entry ([.ref (ad 4), .ref (ad (14 + c9)), .int vv]) (n := 6) (Nat.le_of_ble_eq_true rfl)
  rw [lg_entry_eq]
  generalize (lg_sl ([.ref (ad 4), .ref (ad (14 + c9)), .int vv]) ++ List.replicate (6 - (lg_sl ([.ref (ad 4), .ref (ad (14 + c9)), .int vv])).length) Slot.unset).toArray = ls at hl ⊢
  have hl : lv_has ls 6 [(0, .ref (ad 4)), (1, .ref (ad (14 + c9))), (2, .int vv)] := hl
  have hrr : G rr = 8 := (hmi.2.2.2.2.2.1 c9 (by omega)).2.1 rr hrc
  have hle := y_LS.le hmi.2.1.2
  dsimp only at hle
  have hcap := hmi.2.2.2.2.1
  dsimp only at hcap
  have hgg := y_gg qn cq
  refine lv_aload_n hx hb d_Machine_deliver_0 rfl (lv_at hl 1 rfl) ?_
  refine k_gN (C := "ChannelMachine$Channel") (F := F_Channel) (N := 4) hx hb hts i_Channel hown hK hP (14 + c9) 1 (by omega) (y_cc (by omega)) (y_ccl (by omega)) (by decide) (d := (3, (4 + 3 * c9))) (y_dc1 (by omega)) (hU.1.2.1 _ kn_135) (fun _ h9 => h9) (v := .ref rr) (by show va_rf (O (4 + 3 * c9)) = _; rw [hrc]; rfl) d_Machine_deliver_1 ?_
  refine lv_astore_n (lv' := [(3, .ref rr), (0, .ref (ad 4)), (1, .ref (ad (14 + c9))), (2, .int vv)]) hx hb d_Machine_deliver_4 rfl hl (by decide) rfl (fun ls hl => ?_)
  refine lv_aload_n hx hb d_Machine_deliver_5 rfl (lv_at hl 2 rfl) ?_
  refine k_gN (C := "ChannelMachine$Channel") (F := F_Channel) (N := 4) hx hb hts i_Channel hown hK hP (14 + c9) 3 (by omega) (y_cc (by omega)) (y_ccl (by omega)) (by decide) (d := (3, (5 + 3 * c9))) (y_dc3 (by omega)) (hU.1.2.1 _ kn_140) (fun _ h9 => h9) (v := va_rf (O ((5 + 3 * c9)))) rfl d_Machine_deliver_6 ?_
  rcases hOx1 : O ((5 + 3 * c9)) with _ | x1
  · refine W.eq (g2 := F0 m 9 ls [.null]) rfl ?_
    refine lv_astoreN (lv' := [(4, .null), (3, .ref rr), (0, .ref (ad 4)), (1, .ref (ad (14 + c9))), (2, .int vv)]) hx hb d_Machine_deliver_9 hl (by decide) rfl (fun ls hl => ?_)
    refine lv_aload_n hx hb d_Machine_deliver_11 rfl (lv_at hl 2 rfl) ?_
    refine lv_aload_n hx hb d_Machine_deliver_12 rfl (lv_at hl 3 rfl) ?_
    refine k_gN (C := "ChannelMachine$Channel") (F := F_Channel) (N := 4) hx hb hts i_Channel hown hK hP (14 + c9) 2 (by omega) (y_cc (by omega)) (y_ccl (by omega)) (by decide) (d := (1, (16 + c9))) (y_dc2 (by omega)) (hU.1.2.1 _ kn_138) (fun _ h9 => h9) (v := .int (I ((16 + c9)))) rfl d_Machine_deliver_13 ?_
    refine lv_iload_n hx hb d_Machine_deliver_16 rfl (lv_at hl 4 rfl) ?_
    have hFc := y_free hD hS hA
    refine va_callv (va_runV (As := [.int (I ((16 + c9))), .int vv]) (rest := []) ⟨hx, hb, hml, hown, hts⟩ (c_M_assign l dC dI ar N0 z ad I T A O pl G C Gs qn sn cq cs ((I ((16 + c9)))) (vv) s.heap.size (y_hs s.heap) hmi) (cwV 2 hts (x_goodV k_815 k_817 kp_33 k_3 k_818) rfl rfl rfl (by decide +kernel) ⟨Nat.le_of_ble_eq_true rfl, Nat.le_of_ble_eq_true rfl⟩) ⟨y_blind, va_recv hK hP (ci := 2) (q0 := 4) rfl (y_W_ob (by decide) (by decide)), fun U9 hU9 hW9 => y_pre hU9 hW9 hP hD hU hZ hS hAN hN0⟩ rfl rfl hl.1 rfl (lv_room (Nat.le_of_ble_eq_true rfl)) d_Machine_deliver_17 ⟨(by show 0 + (0) ≤ y_gc qn cq; omega), (by show 0 + (0) ≤ y_gs qn cq; omega)⟩) hS (fun q _ h => hFc q h) hFc (fun u t H1 locs ht hvm hw hB hz1 hk1 hS => ?_)
    obtain ⟨I2, T2, A2, O2, pl2, q2, s2, cq2, cs2⟩ := u
    dsimp only at hw hB
    rw [ht] at hB
    obtain ⟨hP, hD1, hac2⟩ := hB
    have hD : va_D Bq (y_W ad ar I2 T2 A2 O2 pl2) := hD1.weaken (fun _ q _ h => hFc q.1 h)
    generalize H1 = H at hP hS hac2 ⊢
    refine W.widen (k := 0) (n := 0) (by omega) (by omega) ?_
    obtain ⟨e1, e2, e3, e4, e5⟩ := hw
    cases e5
    rw [e1, e2, e3, e4] at hP hD
    refine lv_iconst (v := 0) hx hb d_Machine_deliver_20 (by decide) ?_
    refine W.eq (g2 := F0 m 21 ls [.int (Int32.ofNat 0)]) rfl ?_
    refine lv_istore (lv' := [(5, .int (Int32.ofNat 0)), (4, .null), (3, .ref rr), (0, .ref (ad 4)), (1, .ref (ad (14 + c9))), (2, .int vv)]) hx hb d_Machine_deliver_21 hl (by decide) rfl (fun ls hl => ?_)
    refine x_while (fun n H locs ls => ∃ (O1 : Nat → Option Nat) (i1 : Nat), n = 6 - i1 ∧ i1 ≤ 6 ∧ y_MI z ar G C Gs I O1 (y_L pl) (qn, sn, cq, cs) ∧ va_P (dC, dI) y_cl (y_W ad ar I T A2 O1 pl) H ∧ va_D Bq (y_W ad ar I T A2 O1 pl) ∧ va_S Bq s.heap H locs ∧ lv_has ls 6 [(0, .ref (ad 4)), (3, .ref rr), (4, .null), (5, .int (Int32.ofNat i1))]) (fun n ih H locs ls h9 => ?_) ⟨O, 0, rfl, Nat.zero_le _, hmi, hP, hD, hS, lv_sub hl [3, 2, 1, 0] rfl⟩
    clear hmi hP hD hS hl
    obtain ⟨O1, i1, hn9, q9, hmi, hP, hD, hS, hl⟩ := h9
    refine lv_iload hx hb d_Machine_deliver_23 (lv_at hl 3 rfl) ?_
    refine lv_bipush (v := 6) hx hb d_Machine_deliver_25 (by decide) ?_
    refine lv_icmp_ge (tgt := 61) hx hb d_Machine_deliver_27 (by decide) (fun c_3 => ?_) (fun c_3 => ?_)
    · have c_3 : 6 ≤ i1 := (x_leN (a := 6) (b := i1) (by omega) (by omega)).mp c_3
      refine lv_aloadN hx hb d_Machine_deliver_61 (lv_at hl 2 rfl) ?_
      refine lv_ifnonnullN hx hb d_Machine_deliver_63 ?_
      refine lv_aload_n hx hb d_Machine_deliver_66 rfl (lv_at hl 1 rfl) ?_
      obtain ⟨w4, m4, a4, b4, r4, v4, u4, hf4, hw4, hm4, ha4⟩ := hmi.1.2.1 rr hrr
      have hFc := y_free hD hS hA
      refine va_callv (va_runV (As := []) (rest := []) ⟨hx, hb, hml, hown, hts⟩ (c_T_goOn l dC dI ar N0 z ad I T A2 O1 pl G C Gs qn sn cq cs rr H.size (y_hs H) hmi hrr) (cwV 0 hts (x_goodV k_777 k_778 k_779 k_18 k_780) rfl rfl rfl (by decide +kernel) ⟨Nat.le_of_ble_eq_true rfl, Nat.le_of_ble_eq_true rfl⟩) ⟨y_blind, (by obtain ⟨q9, hq9⟩ := y_L_at hf4; exact va_recv hK hP (ci := 8) (q0 := 20 + q9) rfl (by rw [y_W_pl]; exact hq9)), fun U9 hU9 hW9 => y_pre hU9 hW9 hP hD hU hZ hS hAN hN0⟩ rfl rfl hl.1 rfl (lv_room (Nat.le_of_ble_eq_true rfl)) d_Machine_deliver_67 ⟨(by show 0 + (0) ≤ y_gc qn cq; omega), (by show 0 + (0) ≤ y_gs qn cq; omega)⟩) hS (fun q _ h => hFc q h) hFc (fun u t H1 locs ht hvm hw hB hz1 hk1 hS => ?_)
      obtain ⟨I5, T5, A5, O5, pl5, q5, s5, cq5, cs5⟩ := u
      dsimp only at hw hB
      rw [ht] at hB
      obtain ⟨hP, hD1, hac5⟩ := hB
      have hD : va_D Bq (y_W ad ar I5 T5 A5 O5 pl5) := hD1.weaken (fun _ q _ h => hFc q.1 h)
      generalize H1 = H at hP hS hac5 ⊢
      refine W.widen (k := 0) (n := 0) (by omega) (by omega) ?_
      obtain ⟨e1, e2, e3, e4, e5, hmi⟩ := hw
      cases e5
      rw [e1, e2, e3, e4] at hP hD
      rw [e1, e4] at hmi
      have hmi : y_MI z ar G C Gs I O1 (y_L pl5) (qn, sn, cq, cs) := hmi
      refine lv_goto (tgt := 79) hx hb d_Machine_deliver_70 (by decide) ?_
      refine lv_aload_n hx hb d_Machine_deliver_79 rfl (lv_at hl 0 rfl) ?_
      refine k_g (C := "ChannelMachine$Machine") (F := F_Machine) (N := 11) hx hb hts i_Machine hown hK hP 4 4 (by decide) (by decide) rfl (by decide) (d := (0, 11)) rfl (hts _ k_158) (fun _ h9 => h9) (v := .ref (ad 11)) rfl d_Machine_deliver_80 ?_
      refine lv_aload_n hx hb d_Machine_deliver_83 rfl (lv_at hl 1 rfl) ?_
      have hgg6 := y_gg qn cq
      refine y_know (fun hya1 hya2 hya3 hya4 => ?_)
      have hFc := y_free hD hS hA
      refine va_callFi (va_runF (As := [.ref rr]) (rest := []) (hK.1 0 _ rfl).2 ⟨hx, hb, hml, hown, hts⟩ (c_L_add_11 l dC dI ar N0 z ad I T A2 O1 pl5 G C Gs qn sn cq cs rr H.size (y_hs H) hmi hrr (by omega)) (va_cwF 1 hts (x_goodF k_649 k_652 k_654 k_7 k_656) rfl rfl rfl hU.2.2.2.2.1 (by decide +kernel) ⟨Nat.le_of_ble_eq_true rfl, Nat.le_of_ble_eq_true rfl⟩) ⟨y_blind, va_recv hK hP (ci := 0) (q0 := 11) rfl (y_W_ob (by decide) (by decide)), fun U9 hU9 hW9 => y_pre hU9 hW9 hP hD hU hZ hS hAN hN0⟩ rfl rfl hl.1 rfl (lv_room (Nat.le_of_ble_eq_true rfl)) d_Machine_deliver_84 ⟨(by show 0 + (y_gc qn cq) ≤ y_gc qn cq; omega), (by show 0 + (y_gs qn cq) ≤ y_gs qn cq; omega)⟩) hS (fun q _ h => hFc q h) hFc (fun r_7 u t H1 locs ht hvm hw hB hz1 hk1 hS => ?_)
      obtain ⟨I8, T8, A8, O8, pl8, q8, s8, cq8, cs8⟩ := u
      dsimp only at hw hB
      rw [ht] at hB
      obtain ⟨hP, hD1, hac8⟩ := hB
      have hD : va_D Bq (y_W ad ar I8 T8 A8 O8 pl8) := hD1.weaken (fun _ q _ h => hFc q.1 h)
      generalize H1 = H at hP hS hac8 ⊢
      obtain ⟨hmi, hbd8, fr8, e2, e3⟩ := hw
      rw [e2, e3] at hP hD
      have hP : va_P (dC, dI) y_cl (y_W ad ar I8 T A2 O8 pl8) H := hP
      have hD : va_D Bq (y_W ad ar I8 T A2 O8 pl8) := hD
      unfold y_ac at hac8
      have hb8 := hbd8
      unfold y_bd at hb8
      dsimp only at hb8 hac8
      refine lv_pop hx hb d_Machine_deliver_89 rfl ?_
      refine y_know (fun hy91 hy92 hy93 hy94 => ?_)
      have hac9 : y_ac (cq + cs) s.heap.size (y_hs s.heap) (cq8 + cs8) H := ⟨by omega, by omega⟩
      refine W.widen (k := y_gc qn cq) (n := y_gs qn cq) (by omega) (by omega) ?_
      exact W.vret hx hb hr (fun t ht hW => ⟨⟨(I8, T, A2, O8, pl8, (q8, s8, cq8, cs8)), rfl, ⟨hmi, (y_bd.tr hbd8 (y_bd.rf (a := 0) (b := 0)) (e := 1) (g := 0) (by decide) (by decide)), (m_fr.rf.tr fr8 (by decide))⟩, (by dsimp only; rw [ht]; exact ⟨hP, hD, hac9⟩)⟩, hS.F ht⟩) hS.2.2 d_Machine_deliver_90
    · have c_3 : ¬ 6 ≤ i1 := fun h9 => c_3 ((x_leN (a := 6) (b := i1) (by omega) (by omega)).mpr h9)
      refine lv_aload_n hx hb d_Machine_deliver_30 rfl (lv_at hl 0 rfl) ?_
      refine k_g (C := "ChannelMachine$Machine") (F := F_Machine) (N := 11) hx hb hts i_Machine hown hK hP 4 1 (by decide) (by decide) rfl (by decide) (d := (0, 6)) rfl (hts _ k_152) (fun _ h9 => h9) (v := .ref (ad 6)) rfl d_Machine_deliver_31 ?_
      refine lv_iload hx hb d_Machine_deliver_34 (lv_at hl 3 rfl) ?_
      refine k_chl hx hb hK hP (n := i1) (by omega) d_Machine_deliver_36 ?_
      refine k_gN (C := "ChannelMachine$Channel") (F := F_Channel) (N := 4) hx hb hts i_Channel hown hK hP (14 + i1) 1 (by omega) (y_cc (by omega)) (y_ccl (by omega)) (by decide) (d := (3, (4 + 3 * i1))) (y_dc1 (by omega)) (hU.1.2.1 _ kn_135) (fun _ h9 => h9) (v := va_rf (O1 ((4 + 3 * i1)))) rfl d_Machine_deliver_37 ?_
      rcases hOx9 : O1 ((4 + 3 * i1)) with _ | x9
      · refine W.eq (g2 := F0 m 40 ls [.null]) rfl ?_
        refine lv_aload_n hx hb d_Machine_deliver_40 rfl (lv_at hl 1 rfl) ?_
        refine lv_acmp_ne (rx := none) (ry := (some rr)) (tgt := 55) hx hb d_Machine_deliver_41 (by decide) (fun h_10 => ?_) (fun h_10 => ?_)
        · refine lv_iinc (v := (Int32.ofNat (i1 + 1))) (lv' := [(5, .int (Int32.ofNat (i1 + 1))), (0, .ref (ad 4)), (3, .ref rr), (4, .null)]) hx hb d_Machine_deliver_55 hl (k := 3) rfl (x_incN i1) (by decide) rfl (fun ls hl => ?_)
          refine lv_goto (tgt := 23) hx hb d_Machine_deliver_58 (by decide) ?_
          exact ih (6 - (i1 + 1)) (by omega) H locs ls ⟨O1, i1 + 1, rfl, by omega, hmi, hP, hD, hS, lv_sub hl [1, 2, 3, 0] rfl⟩
        · refine lv_aload_n hx hb d_Machine_deliver_44 rfl (lv_at hl 0 rfl) ?_
          refine k_g (C := "ChannelMachine$Machine") (F := F_Machine) (N := 11) hx hb hts i_Machine hown hK hP 4 1 (by decide) (by decide) rfl (by decide) (d := (0, 6)) rfl (hts _ k_152) (fun _ h9 => h9) (v := .ref (ad 6)) rfl d_Machine_deliver_45 ?_
          refine lv_iload hx hb d_Machine_deliver_48 (lv_at hl 3 rfl) ?_
          refine k_chl hx hb hK hP (n := i1) (by omega) d_Machine_deliver_50 ?_
          refine lv_null hx hb d_Machine_deliver_51 ?_
          refine k_poN (C := "ChannelMachine$Channel") (F := F_Channel) (N := 4) hx hb hts i_Channel hown t_Channel t_Channel_ok n_Channel hK hP hD hS (14 + i1) 1 (by omega) (y_cc (by omega)) (y_ccl (by omega)) (by decide) (j := (4 + 3 * i1)) (x := none) (ty := (.object "ChannelMachine$Task")) (y_dc1 (by omega)) (hU.1.2.1 _ kn_135) (fun _ h9 => h9) rfl (by decide +kernel) rfl rfl d_Machine_deliver_52 (fun H locs hP hD hS => ?_)
          have hmi : y_MI z ar G C Gs I (y_up O1 ((4 + 3 * i1)) none) (y_L pl) (qn, sn, cq, cs) := hmi.rcv0 (c := i1) (by omega)
          refine lv_iinc (v := (Int32.ofNat (i1 + 1))) (lv' := [(5, .int (Int32.ofNat (i1 + 1))), (0, .ref (ad 4)), (3, .ref rr), (4, .null)]) hx hb d_Machine_deliver_55 hl (k := 3) rfl (x_incN i1) (by decide) rfl (fun ls hl => ?_)
          refine lv_goto (tgt := 23) hx hb d_Machine_deliver_58 (by decide) ?_
          exact ih (6 - (i1 + 1)) (by omega) H locs ls ⟨(y_up O1 ((4 + 3 * i1)) none), i1 + 1, rfl, by omega, hmi, hP, hD, hS, lv_sub hl [1, 2, 3, 0] rfl⟩
      · refine W.eq (g2 := F0 m 40 ls [.ref x9]) rfl ?_
        have hx9 : G x9 = 8 := (hmi.2.2.2.2.2.1 i1 (by omega)).2.1 x9 hOx9
        refine lv_aload_n hx hb d_Machine_deliver_40 rfl (lv_at hl 1 rfl) ?_
        refine lv_acmp_ne (rx := (some x9)) (ry := (some rr)) (tgt := 55) hx hb d_Machine_deliver_41 (by decide) (fun h_11 => ?_) (fun h_11 => ?_)
        · refine lv_iinc (v := (Int32.ofNat (i1 + 1))) (lv' := [(5, .int (Int32.ofNat (i1 + 1))), (0, .ref (ad 4)), (3, .ref rr), (4, .null)]) hx hb d_Machine_deliver_55 hl (k := 3) rfl (x_incN i1) (by decide) rfl (fun ls hl => ?_)
          refine lv_goto (tgt := 23) hx hb d_Machine_deliver_58 (by decide) ?_
          exact ih (6 - (i1 + 1)) (by omega) H locs ls ⟨O1, i1 + 1, rfl, by omega, hmi, hP, hD, hS, lv_sub hl [1, 2, 3, 0] rfl⟩
        · refine lv_aload_n hx hb d_Machine_deliver_44 rfl (lv_at hl 0 rfl) ?_
          refine k_g (C := "ChannelMachine$Machine") (F := F_Machine) (N := 11) hx hb hts i_Machine hown hK hP 4 1 (by decide) (by decide) rfl (by decide) (d := (0, 6)) rfl (hts _ k_152) (fun _ h9 => h9) (v := .ref (ad 6)) rfl d_Machine_deliver_45 ?_
          refine lv_iload hx hb d_Machine_deliver_48 (lv_at hl 3 rfl) ?_
          refine k_chl hx hb hK hP (n := i1) (by omega) d_Machine_deliver_50 ?_
          refine lv_null hx hb d_Machine_deliver_51 ?_
          refine k_poN (C := "ChannelMachine$Channel") (F := F_Channel) (N := 4) hx hb hts i_Channel hown t_Channel t_Channel_ok n_Channel hK hP hD hS (14 + i1) 1 (by omega) (y_cc (by omega)) (y_ccl (by omega)) (by decide) (j := (4 + 3 * i1)) (x := none) (ty := (.object "ChannelMachine$Task")) (y_dc1 (by omega)) (hU.1.2.1 _ kn_135) (fun _ h9 => h9) rfl (by decide +kernel) rfl rfl d_Machine_deliver_52 (fun H locs hP hD hS => ?_)
          have hmi : y_MI z ar G C Gs I (y_up O1 ((4 + 3 * i1)) none) (y_L pl) (qn, sn, cq, cs) := hmi.rcv0 (c := i1) (by omega)
          refine lv_iinc (v := (Int32.ofNat (i1 + 1))) (lv' := [(5, .int (Int32.ofNat (i1 + 1))), (0, .ref (ad 4)), (3, .ref rr), (4, .null)]) hx hb d_Machine_deliver_55 hl (k := 3) rfl (x_incN i1) (by decide) rfl (fun ls hl => ?_)
          refine lv_goto (tgt := 23) hx hb d_Machine_deliver_58 (by decide) ?_
          exact ih (6 - (i1 + 1)) (by omega) H locs ls ⟨(y_up O1 ((4 + 3 * i1)) none), i1 + 1, rfl, by omega, hmi, hP, hD, hS, lv_sub hl [1, 2, 3, 0] rfl⟩
  · refine W.eq (g2 := F0 m 9 ls [.ref x1]) rfl ?_
    have hx1 : G x1 = 7 := (hmi.2.2.2.2.2.1 c9 (by omega)).2.2 (by rw [hrc]; exact nofun) x1 hOx1
    refine lv_astore (lv' := [(4, .ref x1), (3, .ref rr), (0, .ref (ad 4)), (1, .ref (ad (14 + c9))), (2, .int vv)]) hx hb d_Machine_deliver_9 hl (by decide) rfl (fun ls hl => ?_)
    refine lv_aload_n hx hb d_Machine_deliver_11 rfl (lv_at hl 2 rfl) ?_
    refine lv_aload_n hx hb d_Machine_deliver_12 rfl (lv_at hl 3 rfl) ?_
    refine k_gN (C := "ChannelMachine$Channel") (F := F_Channel) (N := 4) hx hb hts i_Channel hown hK hP (14 + c9) 2 (by omega) (y_cc (by omega)) (y_ccl (by omega)) (by decide) (d := (1, (16 + c9))) (y_dc2 (by omega)) (hU.1.2.1 _ kn_138) (fun _ h9 => h9) (v := .int (I ((16 + c9)))) rfl d_Machine_deliver_13 ?_
    refine lv_iload_n hx hb d_Machine_deliver_16 rfl (lv_at hl 4 rfl) ?_
    have hFc := y_free hD hS hA
    refine va_callv (va_runV (As := [.int (I ((16 + c9))), .int vv]) (rest := []) ⟨hx, hb, hml, hown, hts⟩ (c_M_assign l dC dI ar N0 z ad I T A O pl G C Gs qn sn cq cs ((I ((16 + c9)))) (vv) s.heap.size (y_hs s.heap) hmi) (cwV 2 hts (x_goodV k_815 k_817 kp_33 k_3 k_818) rfl rfl rfl (by decide +kernel) ⟨Nat.le_of_ble_eq_true rfl, Nat.le_of_ble_eq_true rfl⟩) ⟨y_blind, va_recv hK hP (ci := 2) (q0 := 4) rfl (y_W_ob (by decide) (by decide)), fun U9 hU9 hW9 => y_pre hU9 hW9 hP hD hU hZ hS hAN hN0⟩ rfl rfl hl.1 rfl (lv_room (Nat.le_of_ble_eq_true rfl)) d_Machine_deliver_17 ⟨(by show 0 + (0) ≤ y_gc qn cq; omega), (by show 0 + (0) ≤ y_gs qn cq; omega)⟩) hS (fun q _ h => hFc q h) hFc (fun u t H1 locs ht hvm hw hB hz1 hk1 hS => ?_)
    obtain ⟨I12, T12, A12, O12, pl12, q12, s12, cq12, cs12⟩ := u
    dsimp only at hw hB
    rw [ht] at hB
    obtain ⟨hP, hD1, hac12⟩ := hB
    have hD : va_D Bq (y_W ad ar I12 T12 A12 O12 pl12) := hD1.weaken (fun _ q _ h => hFc q.1 h)
    generalize H1 = H at hP hS hac12 ⊢
    refine W.widen (k := 0) (n := 0) (by omega) (by omega) ?_
    obtain ⟨e1, e2, e3, e4, e5⟩ := hw
    cases e5
    rw [e1, e2, e3, e4] at hP hD
    refine lv_iconst (v := 0) hx hb d_Machine_deliver_20 (by decide) ?_
    refine W.eq (g2 := F0 m 21 ls [.int (Int32.ofNat 0)]) rfl ?_
    refine lv_istore (lv' := [(5, .int (Int32.ofNat 0)), (4, .ref x1), (3, .ref rr), (0, .ref (ad 4)), (1, .ref (ad (14 + c9))), (2, .int vv)]) hx hb d_Machine_deliver_21 hl (by decide) rfl (fun ls hl => ?_)
    refine x_while (fun n H locs ls => ∃ (O1 : Nat → Option Nat) (i1 : Nat), n = 6 - i1 ∧ i1 ≤ 6 ∧ y_MI z ar G C Gs I O1 (y_L pl) (qn, sn, cq, cs) ∧ va_P (dC, dI) y_cl (y_W ad ar I T A12 O1 pl) H ∧ va_D Bq (y_W ad ar I T A12 O1 pl) ∧ va_S Bq s.heap H locs ∧ lv_has ls 6 [(0, .ref (ad 4)), (3, .ref rr), (4, .ref x1), (5, .int (Int32.ofNat i1))]) (fun n ih H locs ls h9 => ?_) ⟨O, 0, rfl, Nat.zero_le _, hmi, hP, hD, hS, lv_sub hl [3, 2, 1, 0] rfl⟩
    clear hmi hP hD hS hl
    obtain ⟨O1, i1, hn9, q9, hmi, hP, hD, hS, hl⟩ := h9
    refine lv_iload hx hb d_Machine_deliver_23 (lv_at hl 3 rfl) ?_
    refine lv_bipush (v := 6) hx hb d_Machine_deliver_25 (by decide) ?_
    refine lv_icmp_ge (tgt := 61) hx hb d_Machine_deliver_27 (by decide) (fun c_13 => ?_) (fun c_13 => ?_)
    · have c_13 : 6 ≤ i1 := (x_leN (a := 6) (b := i1) (by omega) (by omega)).mp c_13
      refine lv_aload hx hb d_Machine_deliver_61 (lv_at hl 2 rfl) ?_
      refine lv_ifnonnull (tgt := 73) hx hb d_Machine_deliver_63 (by decide) ?_
      refine lv_aload_n hx hb d_Machine_deliver_73 rfl (lv_at hl 1 rfl) ?_
      refine lv_aload hx hb d_Machine_deliver_74 (lv_at hl 2 rfl) ?_
      obtain ⟨w14, m14, a14, b14, r14, v14, u14, hf14, hw14, hm14, ha14⟩ := hmi.1.2.1 rr hrr
      have hFc := y_free hD hS hA
      refine va_callv (va_runV (As := [.ref x1]) (rest := []) ⟨hx, hb, hml, hown, hts⟩ (c_T_enter l dC dI ar N0 z ad I T A12 O1 pl G C Gs qn sn cq cs rr x1 H.size (y_hs H) hmi hrr hx1) (cwV 1 hts (x_goodV k_636 k_637 k_638 k_18 k_639) rfl rfl rfl (by decide +kernel) ⟨Nat.le_of_ble_eq_true rfl, Nat.le_of_ble_eq_true rfl⟩) ⟨y_blind, (by obtain ⟨q9, hq9⟩ := y_L_at hf14; exact va_recv hK hP (ci := 8) (q0 := 20 + q9) rfl (by rw [y_W_pl]; exact hq9)), fun U9 hU9 hW9 => y_pre hU9 hW9 hP hD hU hZ hS hAN hN0⟩ rfl rfl hl.1 rfl (lv_room (Nat.le_of_ble_eq_true rfl)) d_Machine_deliver_76 ⟨(by show 0 + (0) ≤ y_gc qn cq; omega), (by show 0 + (0) ≤ y_gs qn cq; omega)⟩) hS (fun q _ h => hFc q h) hFc (fun u t H1 locs ht hvm hw hB hz1 hk1 hS => ?_)
      obtain ⟨I15, T15, A15, O15, pl15, q15, s15, cq15, cs15⟩ := u
      dsimp only at hw hB
      rw [ht] at hB
      obtain ⟨hP, hD1, hac15⟩ := hB
      have hD : va_D Bq (y_W ad ar I15 T15 A15 O15 pl15) := hD1.weaken (fun _ q _ h => hFc q.1 h)
      generalize H1 = H at hP hS hac15 ⊢
      refine W.widen (k := 0) (n := 0) (by omega) (by omega) ?_
      obtain ⟨e1, e2, e3, e4, e5, hmi⟩ := hw
      cases e5
      rw [e1, e2, e3, e4] at hP hD
      rw [e1, e4] at hmi
      have hmi : y_MI z ar G C Gs I O1 (y_L pl15) (qn, sn, cq, cs) := hmi
      refine lv_aload_n hx hb d_Machine_deliver_79 rfl (lv_at hl 0 rfl) ?_
      refine k_g (C := "ChannelMachine$Machine") (F := F_Machine) (N := 11) hx hb hts i_Machine hown hK hP 4 4 (by decide) (by decide) rfl (by decide) (d := (0, 11)) rfl (hts _ k_158) (fun _ h9 => h9) (v := .ref (ad 11)) rfl d_Machine_deliver_80 ?_
      refine lv_aload_n hx hb d_Machine_deliver_83 rfl (lv_at hl 1 rfl) ?_
      have hgg16 := y_gg qn cq
      refine y_know (fun hya1 hya2 hya3 hya4 => ?_)
      have hFc := y_free hD hS hA
      refine va_callFi (va_runF (As := [.ref rr]) (rest := []) (hK.1 0 _ rfl).2 ⟨hx, hb, hml, hown, hts⟩ (c_L_add_11 l dC dI ar N0 z ad I T A12 O1 pl15 G C Gs qn sn cq cs rr H.size (y_hs H) hmi hrr (by omega)) (va_cwF 1 hts (x_goodF k_649 k_652 k_654 k_7 k_656) rfl rfl rfl hU.2.2.2.2.1 (by decide +kernel) ⟨Nat.le_of_ble_eq_true rfl, Nat.le_of_ble_eq_true rfl⟩) ⟨y_blind, va_recv hK hP (ci := 0) (q0 := 11) rfl (y_W_ob (by decide) (by decide)), fun U9 hU9 hW9 => y_pre hU9 hW9 hP hD hU hZ hS hAN hN0⟩ rfl rfl hl.1 rfl (lv_room (Nat.le_of_ble_eq_true rfl)) d_Machine_deliver_84 ⟨(by show 0 + (y_gc qn cq) ≤ y_gc qn cq; omega), (by show 0 + (y_gs qn cq) ≤ y_gs qn cq; omega)⟩) hS (fun q _ h => hFc q h) hFc (fun r_17 u t H1 locs ht hvm hw hB hz1 hk1 hS => ?_)
      obtain ⟨I18, T18, A18, O18, pl18, q18, s18, cq18, cs18⟩ := u
      dsimp only at hw hB
      rw [ht] at hB
      obtain ⟨hP, hD1, hac18⟩ := hB
      have hD : va_D Bq (y_W ad ar I18 T18 A18 O18 pl18) := hD1.weaken (fun _ q _ h => hFc q.1 h)
      generalize H1 = H at hP hS hac18 ⊢
      obtain ⟨hmi, hbd18, fr18, e2, e3⟩ := hw
      rw [e2, e3] at hP hD
      have hP : va_P (dC, dI) y_cl (y_W ad ar I18 T A12 O18 pl18) H := hP
      have hD : va_D Bq (y_W ad ar I18 T A12 O18 pl18) := hD
      unfold y_ac at hac18
      have hb18 := hbd18
      unfold y_bd at hb18
      dsimp only at hb18 hac18
      refine lv_pop hx hb d_Machine_deliver_89 rfl ?_
      refine y_know (fun hy91 hy92 hy93 hy94 => ?_)
      have hac9 : y_ac (cq + cs) s.heap.size (y_hs s.heap) (cq18 + cs18) H := ⟨by omega, by omega⟩
      refine W.widen (k := y_gc qn cq) (n := y_gs qn cq) (by omega) (by omega) ?_
      exact W.vret hx hb hr (fun t ht hW => ⟨⟨(I18, T, A12, O18, pl18, (q18, s18, cq18, cs18)), rfl, ⟨hmi, (y_bd.tr hbd18 (y_bd.rf (a := 0) (b := 0)) (e := 1) (g := 0) (by decide) (by decide)), (m_fr.rf.tr fr18 (by decide))⟩, (by dsimp only; rw [ht]; exact ⟨hP, hD, hac9⟩)⟩, hS.F ht⟩) hS.2.2 d_Machine_deliver_90
    · have c_13 : ¬ 6 ≤ i1 := fun h9 => c_13 ((x_leN (a := 6) (b := i1) (by omega) (by omega)).mpr h9)
      refine lv_aload_n hx hb d_Machine_deliver_30 rfl (lv_at hl 0 rfl) ?_
      refine k_g (C := "ChannelMachine$Machine") (F := F_Machine) (N := 11) hx hb hts i_Machine hown hK hP 4 1 (by decide) (by decide) rfl (by decide) (d := (0, 6)) rfl (hts _ k_152) (fun _ h9 => h9) (v := .ref (ad 6)) rfl d_Machine_deliver_31 ?_
      refine lv_iload hx hb d_Machine_deliver_34 (lv_at hl 3 rfl) ?_
      refine k_chl hx hb hK hP (n := i1) (by omega) d_Machine_deliver_36 ?_
      refine k_gN (C := "ChannelMachine$Channel") (F := F_Channel) (N := 4) hx hb hts i_Channel hown hK hP (14 + i1) 1 (by omega) (y_cc (by omega)) (y_ccl (by omega)) (by decide) (d := (3, (4 + 3 * i1))) (y_dc1 (by omega)) (hU.1.2.1 _ kn_135) (fun _ h9 => h9) (v := va_rf (O1 ((4 + 3 * i1)))) rfl d_Machine_deliver_37 ?_
      rcases hOx19 : O1 ((4 + 3 * i1)) with _ | x19
      · refine W.eq (g2 := F0 m 40 ls [.null]) rfl ?_
        refine lv_aload_n hx hb d_Machine_deliver_40 rfl (lv_at hl 1 rfl) ?_
        refine lv_acmp_ne (rx := none) (ry := (some rr)) (tgt := 55) hx hb d_Machine_deliver_41 (by decide) (fun h_20 => ?_) (fun h_20 => ?_)
        · refine lv_iinc (v := (Int32.ofNat (i1 + 1))) (lv' := [(5, .int (Int32.ofNat (i1 + 1))), (0, .ref (ad 4)), (3, .ref rr), (4, .ref x1)]) hx hb d_Machine_deliver_55 hl (k := 3) rfl (x_incN i1) (by decide) rfl (fun ls hl => ?_)
          refine lv_goto (tgt := 23) hx hb d_Machine_deliver_58 (by decide) ?_
          exact ih (6 - (i1 + 1)) (by omega) H locs ls ⟨O1, i1 + 1, rfl, by omega, hmi, hP, hD, hS, lv_sub hl [1, 2, 3, 0] rfl⟩
        · refine lv_aload_n hx hb d_Machine_deliver_44 rfl (lv_at hl 0 rfl) ?_
          refine k_g (C := "ChannelMachine$Machine") (F := F_Machine) (N := 11) hx hb hts i_Machine hown hK hP 4 1 (by decide) (by decide) rfl (by decide) (d := (0, 6)) rfl (hts _ k_152) (fun _ h9 => h9) (v := .ref (ad 6)) rfl d_Machine_deliver_45 ?_
          refine lv_iload hx hb d_Machine_deliver_48 (lv_at hl 3 rfl) ?_
          refine k_chl hx hb hK hP (n := i1) (by omega) d_Machine_deliver_50 ?_
          refine lv_null hx hb d_Machine_deliver_51 ?_
          refine k_poN (C := "ChannelMachine$Channel") (F := F_Channel) (N := 4) hx hb hts i_Channel hown t_Channel t_Channel_ok n_Channel hK hP hD hS (14 + i1) 1 (by omega) (y_cc (by omega)) (y_ccl (by omega)) (by decide) (j := (4 + 3 * i1)) (x := none) (ty := (.object "ChannelMachine$Task")) (y_dc1 (by omega)) (hU.1.2.1 _ kn_135) (fun _ h9 => h9) rfl (by decide +kernel) rfl rfl d_Machine_deliver_52 (fun H locs hP hD hS => ?_)
          have hmi : y_MI z ar G C Gs I (y_up O1 ((4 + 3 * i1)) none) (y_L pl) (qn, sn, cq, cs) := hmi.rcv0 (c := i1) (by omega)
          refine lv_iinc (v := (Int32.ofNat (i1 + 1))) (lv' := [(5, .int (Int32.ofNat (i1 + 1))), (0, .ref (ad 4)), (3, .ref rr), (4, .ref x1)]) hx hb d_Machine_deliver_55 hl (k := 3) rfl (x_incN i1) (by decide) rfl (fun ls hl => ?_)
          refine lv_goto (tgt := 23) hx hb d_Machine_deliver_58 (by decide) ?_
          exact ih (6 - (i1 + 1)) (by omega) H locs ls ⟨(y_up O1 ((4 + 3 * i1)) none), i1 + 1, rfl, by omega, hmi, hP, hD, hS, lv_sub hl [1, 2, 3, 0] rfl⟩
      · refine W.eq (g2 := F0 m 40 ls [.ref x19]) rfl ?_
        have hx19 : G x19 = 8 := (hmi.2.2.2.2.2.1 i1 (by omega)).2.1 x19 hOx19
        refine lv_aload_n hx hb d_Machine_deliver_40 rfl (lv_at hl 1 rfl) ?_
        refine lv_acmp_ne (rx := (some x19)) (ry := (some rr)) (tgt := 55) hx hb d_Machine_deliver_41 (by decide) (fun h_21 => ?_) (fun h_21 => ?_)
        · refine lv_iinc (v := (Int32.ofNat (i1 + 1))) (lv' := [(5, .int (Int32.ofNat (i1 + 1))), (0, .ref (ad 4)), (3, .ref rr), (4, .ref x1)]) hx hb d_Machine_deliver_55 hl (k := 3) rfl (x_incN i1) (by decide) rfl (fun ls hl => ?_)
          refine lv_goto (tgt := 23) hx hb d_Machine_deliver_58 (by decide) ?_
          exact ih (6 - (i1 + 1)) (by omega) H locs ls ⟨O1, i1 + 1, rfl, by omega, hmi, hP, hD, hS, lv_sub hl [1, 2, 3, 0] rfl⟩
        · refine lv_aload_n hx hb d_Machine_deliver_44 rfl (lv_at hl 0 rfl) ?_
          refine k_g (C := "ChannelMachine$Machine") (F := F_Machine) (N := 11) hx hb hts i_Machine hown hK hP 4 1 (by decide) (by decide) rfl (by decide) (d := (0, 6)) rfl (hts _ k_152) (fun _ h9 => h9) (v := .ref (ad 6)) rfl d_Machine_deliver_45 ?_
          refine lv_iload hx hb d_Machine_deliver_48 (lv_at hl 3 rfl) ?_
          refine k_chl hx hb hK hP (n := i1) (by omega) d_Machine_deliver_50 ?_
          refine lv_null hx hb d_Machine_deliver_51 ?_
          refine k_poN (C := "ChannelMachine$Channel") (F := F_Channel) (N := 4) hx hb hts i_Channel hown t_Channel t_Channel_ok n_Channel hK hP hD hS (14 + i1) 1 (by omega) (y_cc (by omega)) (y_ccl (by omega)) (by decide) (j := (4 + 3 * i1)) (x := none) (ty := (.object "ChannelMachine$Task")) (y_dc1 (by omega)) (hU.1.2.1 _ kn_135) (fun _ h9 => h9) rfl (by decide +kernel) rfl rfl d_Machine_deliver_52 (fun H locs hP hD hS => ?_)
          have hmi : y_MI z ar G C Gs I (y_up O1 ((4 + 3 * i1)) none) (y_L pl) (qn, sn, cq, cs) := hmi.rcv0 (c := i1) (by omega)
          refine lv_iinc (v := (Int32.ofNat (i1 + 1))) (lv' := [(5, .int (Int32.ofNat (i1 + 1))), (0, .ref (ad 4)), (3, .ref rr), (4, .ref x1)]) hx hb d_Machine_deliver_55 hl (k := 3) rfl (x_incN i1) (by decide) rfl (fun ls hl => ?_)
          refine lv_goto (tgt := 23) hx hb d_Machine_deliver_58 (by decide) ?_
          exact ih (6 - (i1 + 1)) (by omega) H locs ls ⟨(y_up O1 ((4 + 3 * i1)) none), i1 + 1, rfl, by omega, hmi, hP, hD, hS, lv_sub hl [1, 2, 3, 0] rfl⟩
set_option maxHeartbeats 4000000 in
set_option maxRecDepth 100000 in
theorem c_M_settle (l : Launch) (dC : Nat → ClassId) (dI : Nat → Nat → Nat) (ar : Nat → ClassId) (N0 : Nat) (z : Nat → Nat) (ad : Nat → Nat) (I : Nat → Int32) (T : Int64) (A : Nat → Nat → Int32) (O : Nat → Option Nat) (pl : va_W) (G : Nat → Nat) (C Gs : Nat → List Nat) (qn sn cq cs : Nat) (sz w0 : Nat) (hmi : y_MI z ar G C Gs I O (y_L pl) (qn, sn, cq, cs)) (hlim : qn ≤ 10000000) : Met l ({ cls := "ChannelMachine$Machine", name := "settle", desc := "()V" } : Jvm.MethodName) ((Jvm.Cond.code ({ cls := "ChannelMachine$Machine", name := "settle", desc := "()V" } : Jvm.MethodName) prog_6_method_7_code (4 : Nat) (Option.none : Option Jvm.ClassFile.FieldType)) :: x_T) ({ frames := 9, cells := (max cq (2 * qn + 12) - cq + (max cs (2 * sn + 12) - cs)) / 5 + 5, slots := 4 * (max cq (2 * qn + 12) - cq + (max cs (2 * sn + 12) - cs)) + 100, locals := 233 }) (y_Pc (dC, dI) ar N0 z (y_W ad ar I T A O pl) sz w0 [.ref (ad 4)]) (va_Qv (fun (u : (Nat → Int32) × Int64 × (Nat → Nat → Int32) × (Nat → Option Nat) × va_W × (Nat × Nat × Nat × Nat)) => y_MI z ar G C Gs u.1 u.2.2.2.1 (y_L u.2.2.2.2.1) u.2.2.2.2.2 ∧ y_bd (qn, sn, cq, cs) u.2.2.2.2.2 0 0 ∧ m_fr [7, 8, 12, 13, 14, 15] I u.1) (fun u t => va_P (dC, dI) y_cl (y_W ad ar u.1 u.2.1 u.2.2.1 u.2.2.2.1 u.2.2.2.2.1) t.heap ∧ va_D (va_A (y_W ad ar I T A O pl) sz) (y_W ad ar u.1 u.2.1 u.2.2.1 u.2.2.2.1 u.2.2.2.2.1) ∧ y_ac (cq + cs) sz w0 (u.2.2.2.2.2.2.2.1 + u.2.2.2.2.2.2.2.2) t.heap) (va_A (y_W ad ar I T A O pl) sz)) ((max cq (2 * qn + 12) - cq + (max cs (2 * sn + 12) - cs)) / 5 + 5) (4 * (max cq (2 * qn + 12) - cq + (max cs (2 * sn + 12) - cs)) + 100) (va_A (y_W ad ar I T A O pl) sz) := by
  refine Met.ofW (cc := prog_6_method_7_code) (maxL := 4) (ret := none) (by decide) rfl ?_
  intro p e s m args below meth c s₁ B hml hv
  obtain ⟨rfl, hsz, hN0, hP, hU, hZ, hD0, hw0⟩ := hv
  have hK := hU.2.1
  have hx := B.exec
  have hb := B.bytes
  have hr := B.returns
  have hts : ∀ w ∈ x_T, w.before ([.ref (ad 4)] : List Value).toArray s = true := fun w h => atoms_spec (ws := (Jvm.Cond.code ({ cls := "ChannelMachine$Machine", name := "settle", desc := "()V" } : Jvm.MethodName) prog_6_method_7_code (4 : Nat) (Option.none : Option Jvm.ClassFile.FieldType)) :: x_T) B.pre w (List.mem_cons_of_mem _ h)
  have hown : s.vm.findClass "ChannelMachine$Machine" = some m.cls := findClass_of_methodNamed B.named
  have hlocks := B.notSynchronized
  subst hsz
  subst hw0
  have hD := hD0.self (sz := s.heap.size)
  have hAN := x_AN hD0 hN0
  generalize hAe : va_A (y_W ad ar I T A O pl) s.heap.size = Bq at hD hAN ⊢
  have hA : ∀ q : Nat, s.heap.size ≤ q → Bq q := fun q h => by rw [← hAe]; exact Or.inr h
  have hS : va_S Bq s.heap s.heap [] := va_S.rf
  have hl := lv_entry ([.ref (ad 4)]) (n := 4) (Nat.le_of_ble_eq_true rfl)
  rw [lg_entry_eq]
  generalize (lg_sl ([.ref (ad 4)]) ++ List.replicate (4 - (lg_sl ([.ref (ad 4)])).length) Slot.unset).toArray = ls at hl ⊢
  have hl : lv_has ls 4 [(0, .ref (ad 4))] := hl
  have hle := y_LS.le hmi.2.1.2
  have hcap := hmi.2.2.2.2.1
  dsimp only at hle hcap
  refine lv_iconst (v := 0) hx hb d_Machine_settle_0 (by decide) ?_
  refine W.eq (g2 := F0 m 1 ls [.int (Int32.ofNat 0)]) rfl ?_
  refine lv_istore_n (lv' := [(1, .int (Int32.ofNat 0)), (0, .ref (ad 4))]) hx hb d_Machine_settle_1 rfl hl (by decide) rfl (fun ls hl => ?_)
  refine W.widen (k := ((cq + cs) - (cq + cs)) / 5) (n := 4 * ((cq + cs) - (cq + cs))) (by omega) (by omega) ?_
  refine x_whileG (fun X => (X - (cq + cs)) / 5) (fun X => 4 * (X - (cq + cs))) (k := (cq + cs)) (fun n X H locs ls => ∃ (I1 : Nat → Int32) (T1 : Int64) (A1 : Nat → Nat → Int32) (O1 : Nat → Option Nat) (pl1 : va_W) (q1 s1 cq1 cs1 i1 : Nat), X = cq1 + cs1 ∧ n = 1000000 - i1 ∧ i1 ≤ 1000000 ∧ m_fr [7, 8, 12, 13, 14, 15] I I1 ∧ y_MI z ar G C Gs I1 O1 (y_L pl1) (q1, s1, cq1, cs1) ∧ y_bd (qn, sn, cq, cs) (q1, s1, cq1, cs1) 0 0 ∧ va_P (dC, dI) y_cl (y_W ad ar I1 T1 A1 O1 pl1) H ∧ va_D Bq (y_W ad ar I1 T1 A1 O1 pl1) ∧ va_S Bq s.heap H locs ∧ lv_has ls 4 [(0, .ref (ad 4)), (1, .int (Int32.ofNat i1))]) (fun n ih X H locs ls h9 => ?_) ⟨I, T, A, O, pl, qn, sn, cq, cs, 0, rfl, rfl, Nat.zero_le _, m_fr.rf, hmi, y_bd.rf, hP, hD, hS, lv_sub hl [1, 0] rfl⟩
  obtain ⟨I1, T1, A1, O1, pl1, q1, s1, cq1, cs1, i1, hX, hn9, q9, hfr, hmi, hbd0, hP, hD, hS, hl⟩ := h9
  refine W.cs (cells' := (X - (cq + cs)) / 5) (slots' := 4 * (X - (cq + cs))) rfl rfl ?_
  have hb0 := hbd0
  unfold y_bd at hb0
  dsimp only at hb0
  subst hX
  have hle1 := y_LS.le hmi.2.1.2
  have hcap1 := hmi.2.2.2.2.1
  dsimp only at hle1 hcap1
  refine lv_iload_n hx hb d_Machine_settle_2 rfl (lv_at hl 1 rfl) ?_
  refine lv_ldc (v := (1000000 : Int32)) hx hb hown (hts _ k_725) d_Machine_settle_3 ?_
  refine W.eq (g2 := F0 m 5 ls [.int (Int32.ofNat 1000000), .int (Int32.ofNat i1)]) rfl ?_
  refine lv_icmp_ge (tgt := 85) hx hb d_Machine_settle_5 (by decide) (fun c_1 => ?_) (fun c_1 => ?_)
  · have c_1 : 1000000 ≤ i1 := (x_leN (a := 1000000) (b := i1) (by omega) (by omega)).mp c_1
    have hbd9 : y_bd (qn, sn, cq, cs) (q1, s1, cq1, cs1) 0 0 := ⟨by dsimp only; omega, by dsimp only; omega, by dsimp only; omega, by dsimp only; omega⟩
    refine y_know (fun hy91 hy92 hy93 hy94 => ?_)
    have hac9 : y_ac (cq + cs) s.heap.size (y_hs s.heap) (cq1 + cs1) H := ⟨by omega, by omega⟩
    refine W.widen (k := (max cq (2 * qn + 12) - cq + (max cs (2 * sn + 12) - cs)) / 5 + 5) (n := 4 * (max cq (2 * qn + 12) - cq + (max cs (2 * sn + 12) - cs)) + 100) (by omega) (by omega) ?_
    exact W.vret hx hb hr (fun t ht hW => ⟨⟨(I1, T1, A1, O1, pl1, (q1, s1, cq1, cs1)), rfl, ⟨hmi, hbd9, hfr⟩, (by dsimp only; rw [ht]; exact ⟨hP, hD, hac9⟩)⟩, hS.F ht⟩) hS.2.2 d_Machine_settle_85
  · have c_1 : ¬ 1000000 ≤ i1 := fun h9 => c_1 ((x_leN (a := 1000000) (b := i1) (by omega) (by omega)).mpr h9)
    refine lv_aload_n hx hb d_Machine_settle_8 rfl (lv_at hl 0 rfl) ?_
    refine k_g (C := "ChannelMachine$Machine") (F := F_Machine) (N := 11) hx hb hts i_Machine hown hK hP 4 4 (by decide) (by decide) rfl (by decide) (d := (0, 11)) rfl (hts _ k_158) (fun _ h9 => h9) (v := .ref (ad 11)) rfl d_Machine_settle_9 ?_
    have hFc := y_free hD hS hA
    refine va_callFi (va_runF (As := []) (rest := []) (hK.1 0 _ rfl).2 ⟨hx, hb, hml, hown, hts⟩ (c_L_isEmpty11 l dC dI ar N0 z ad I1 T1 A1 O1 pl1 G C Gs q1 s1 cq1 cs1 H.size (y_hs H) hmi) (va_cwF 0 hts (x_goodF k_727 k_730 k_732 k_7 k_734) rfl rfl rfl hU.2.2.2.2.2.1 (by decide +kernel) ⟨Nat.le_of_ble_eq_true rfl, Nat.le_of_ble_eq_true rfl⟩) ⟨y_blind, va_recv hK hP (ci := 0) (q0 := 11) rfl (y_W_ob (by decide) (by decide)), fun U9 hU9 hW9 => y_pre hU9 hW9 hP hD hU hZ hS hAN hN0⟩ rfl rfl hl.1 rfl (lv_room (Nat.le_of_ble_eq_true rfl)) d_Machine_settle_12 ⟨(by show (cq1 + cs1 - (cq + cs)) / 5 + (0) ≤ (max cq (2 * qn + 12) - cq + (max cs (2 * sn + 12) - cs)) / 5 + 5; omega), (by show 4 * (cq1 + cs1 - (cq + cs)) + (0) ≤ 4 * (max cq (2 * qn + 12) - cq + (max cs (2 * sn + 12) - cs)) + 100; omega)⟩) hS (fun q _ h => hFc q h) hFc (fun r_2 u t H1 locs ht hvm hw hB hz1 hk1 hS => ?_)
    obtain ⟨I3, T3, A3, O3, pl3, q3, s3, cq3, cs3⟩ := u
    dsimp only at hw hB
    rw [ht] at hB
    obtain ⟨hP, hD1, hac3⟩ := hB
    have hD : va_D Bq (y_W ad ar I3 T3 A3 O3 pl3) := hD1.weaken (fun _ q _ h => hFc q.1 h)
    generalize H1 = H at hP hS hac3 ⊢
    refine W.widen (k := (cq1 + cs1 - (cq + cs)) / 5) (n := 4 * (cq1 + cs1 - (cq + cs))) (by omega) (by omega) ?_
    obtain ⟨h9, hw⟩ := hw
    cases h9
    rcases hw with ⟨rfl, hemp⟩ | ⟨rfl, hemp⟩
    · refine lv_if_ne (tgt := 85) hx hb d_Machine_settle_17 (by decide) (fun _ => ?_) (fun c4 => absurd c4 (by decide))
      have hbd9 : y_bd (qn, sn, cq, cs) (q1, s1, cq1, cs1) 0 0 := ⟨by dsimp only; omega, by dsimp only; omega, by dsimp only; omega, by dsimp only; omega⟩
      refine y_know (fun hy91 hy92 hy93 hy94 => ?_)
      have hac9 : y_ac (cq + cs) s.heap.size (y_hs s.heap) (cq1 + cs1) H := ⟨by omega, by omega⟩
      refine W.widen (k := (max cq (2 * qn + 12) - cq + (max cs (2 * sn + 12) - cs)) / 5 + 5) (n := 4 * (max cq (2 * qn + 12) - cq + (max cs (2 * sn + 12) - cs)) + 100) (by omega) (by omega) ?_
      exact W.vret hx hb hr (fun t ht hW => ⟨⟨(I1, T1, A1, O1, pl1, (q1, s1, cq1, cs1)), rfl, ⟨hmi, hbd9, hfr⟩, (by dsimp only; rw [ht]; exact ⟨hP, hD, hac9⟩)⟩, hS.F ht⟩) hS.2.2 d_Machine_settle_85
    · refine lv_if_ne (tgt := 85) hx hb d_Machine_settle_17 (by decide) (fun c5 => absurd rfl c5) (fun _ => ?_)
      refine lv_aload_n hx hb d_Machine_settle_20 rfl (lv_at hl 0 rfl) ?_
      refine k_g (C := "ChannelMachine$Machine") (F := F_Machine) (N := 11) hx hb hts i_Machine hown hK hP 4 4 (by decide) (by decide) rfl (by decide) (d := (0, 11)) rfl (hts _ k_158) (fun _ h9 => h9) (v := .ref (ad 11)) rfl d_Machine_settle_21 ?_
      refine lv_iconst (v := 0) hx hb d_Machine_settle_24 (by decide) ?_
      refine W.eq (g2 := F0 m 25 ls [.int (Int32.ofNat 0), .ref (ad 11)]) rfl ?_
      have hFc := y_free hD hS hA
      refine va_callFq (va_runF (As := [.int (Int32.ofNat 0)]) (rest := []) (hK.1 0 _ rfl).2 ⟨hx, hb, hml, hown, hts⟩ (c_L_get11 l dC dI ar N0 z ad I1 T1 A1 O1 pl1 G C Gs q1 s1 cq1 cs1 0 H.size (y_hs H) hmi (by omega)) (va_cwF 1 hts (x_goodF k_736 k_739 k_741 k_7 k_743) rfl rfl rfl hU.2.2.2.2.2.2.1 (by decide +kernel) ⟨Nat.le_of_ble_eq_true rfl, Nat.le_of_ble_eq_true rfl⟩) ⟨y_blind, va_recv hK hP (ci := 0) (q0 := 11) rfl (y_W_ob (by decide) (by decide)), fun U9 hU9 hW9 => y_pre hU9 hW9 hP hD hU hZ hS hAN hN0⟩ rfl rfl hl.1 rfl (lv_room (Nat.le_of_ble_eq_true rfl)) d_Machine_settle_25 ⟨(by show (cq1 + cs1 - (cq + cs)) / 5 + (0) ≤ (max cq (2 * qn + 12) - cq + (max cs (2 * sn + 12) - cs)) / 5 + 5; omega), (by show 4 * (cq1 + cs1 - (cq + cs)) + (0) ≤ 4 * (max cq (2 * qn + 12) - cq + (max cs (2 * sn + 12) - cs)) + 100; omega)⟩) hS (fun q _ h => hFc q h) hFc (fun r_6 u t H1 locs ht hvm hw hB hz1 hk1 hS => ?_)
      obtain ⟨I7, T7, A7, O7, pl7, q7, s7, cq7, cs7⟩ := u
      dsimp only at hw hB
      rw [ht] at hB
      obtain ⟨hP, hD1, hac7⟩ := hB
      have hD : va_D Bq (y_W ad ar I7 T7 A7 O7 pl7) := hD1.weaken (fun _ q _ h => hFc q.1 h)
      generalize H1 = H at hP hS hac7 ⊢
      refine W.widen (k := (cq1 + cs1 - (cq + cs)) / 5) (n := 4 * (cq1 + cs1 - (cq + cs))) (by omega) (by omega) ?_
      obtain ⟨h9, hw⟩ := hw
      cases h9
      obtain ⟨t_8, rfl, ht_8⟩ := hw
      refine W.eq (g2 := F0 m 30 ls [.ref t_8]) rfl ?_
      obtain ⟨w9, m9, a9, b9, r9, v9, u9, hf9, hw9, hm9, ha9⟩ := hmi.1.2.1 t_8 ht_8
      refine va_castY hx hb (C := "ChannelMachine$Task") hown (hts _ k_754) (hU.1.2.1 _ kn_1292) ((by obtain ⟨q9, hq9⟩ := y_L_at hf9; exact va_recv hK hP (ci := 8) (q0 := 20 + q9) rfl (by rw [y_W_pl]; exact hq9))) d_Machine_settle_30 ?_
      refine lv_astore_n (lv' := [(2, .ref t_8), (0, .ref (ad 4)), (1, .int (Int32.ofNat i1))]) hx hb d_Machine_settle_33 rfl hl (by decide) rfl (fun ls hl => ?_)
      refine lv_aload_n hx hb d_Machine_settle_34 rfl (lv_at hl 0 rfl) ?_
      have hFc := y_free hD hS hA
      refine va_calli (va_runV (As := []) (rest := []) ⟨hx, hb, hml, hown, hts⟩ (c_T_findNext l dC dI ar N0 z ad I1 T1 A1 O1 pl1 G C Gs q1 s1 cq1 cs1 t_8 H.size (y_hs H) hmi ht_8) (cwV 0 hts (x_goodV k_640 k_641 k_642 k_18 k_643) rfl rfl rfl (by decide +kernel) ⟨Nat.le_of_ble_eq_true rfl, Nat.le_of_ble_eq_true rfl⟩) ⟨y_blind, (by obtain ⟨q9, hq9⟩ := y_L_at hf9; exact va_recv hK hP (ci := 8) (q0 := 20 + q9) rfl (by rw [y_W_pl]; exact hq9)), fun U9 hU9 hW9 => y_pre hU9 hW9 hP hD hU hZ hS hAN hN0⟩ rfl rfl hl.1 rfl (lv_room (Nat.le_of_ble_eq_true rfl)) d_Machine_settle_35 ⟨(by show (cq1 + cs1 - (cq + cs)) / 5 + (0) ≤ (max cq (2 * qn + 12) - cq + (max cs (2 * sn + 12) - cs)) / 5 + 5; omega), (by show 4 * (cq1 + cs1 - (cq + cs)) + (0) ≤ 4 * (max cq (2 * qn + 12) - cq + (max cs (2 * sn + 12) - cs)) + 100; omega)⟩) hS (fun q _ h => hFc q h) hFc (fun r_10 u t H1 locs ht hvm hw hB hz1 hk1 hS => ?_)
      obtain ⟨I11, T11, A11, O11, pl11, q11, s11, cq11, cs11⟩ := u
      dsimp only at hw hB
      rw [ht] at hB
      obtain ⟨hP, hD1, hac11⟩ := hB
      have hD : va_D Bq (y_W ad ar I11 T11 A11 O11 pl11) := hD1.weaken (fun _ q _ h => hFc q.1 h)
      generalize H1 = H at hP hS hac11 ⊢
      refine W.widen (k := (cq1 + cs1 - (cq + cs)) / 5) (n := 4 * (cq1 + cs1 - (cq + cs))) (by omega) (by omega) ?_
      obtain ⟨e1, e2, e3, e4, e5, hmi, hr9⟩ := hw
      cases e5
      rw [e1, e2, e3, e4] at hP hD
      rw [e1, e4] at hmi
      have hmi : y_MI z ar G C Gs I1 O1 (y_L pl11) (q1, s1, cq1, cs1) := hmi
      rcases hr9 with rfl | rfl | rfl
      · refine lv_istore_n (lv' := [(3, .int 0), (2, .ref t_8), (0, .ref (ad 4)), (1, .int (Int32.ofNat i1))]) hx hb d_Machine_settle_38 rfl hl (by decide) rfl (fun ls hl => ?_)
        refine lv_iload_n hx hb d_Machine_settle_39 rfl (lv_at hl 0 rfl) ?_
        refine lv_if_ne (tgt := 44) hx hb d_Machine_settle_40 (by decide) (fun c12 => absurd rfl c12) (fun _ => ?_)
        have hbd9 : y_bd (qn, sn, cq, cs) (q1, s1, cq1, cs1) 0 0 := ⟨by dsimp only; omega, by dsimp only; omega, by dsimp only; omega, by dsimp only; omega⟩
        refine y_know (fun hy91 hy92 hy93 hy94 => ?_)
        have hac9 : y_ac (cq + cs) s.heap.size (y_hs s.heap) (cq1 + cs1) H := ⟨by omega, by omega⟩
        refine W.widen (k := (max cq (2 * qn + 12) - cq + (max cs (2 * sn + 12) - cs)) / 5 + 5) (n := 4 * (max cq (2 * qn + 12) - cq + (max cs (2 * sn + 12) - cs)) + 100) (by omega) (by omega) ?_
        exact W.vret hx hb hr (fun t ht hW => ⟨⟨(I1, T1, A1, O1, pl11, (q1, s1, cq1, cs1)), rfl, ⟨hmi, hbd9, hfr⟩, (by dsimp only; rw [ht]; exact ⟨hP, hD, hac9⟩)⟩, hS.F ht⟩) hS.2.2 d_Machine_settle_43
      · refine lv_istore_n (lv' := [(3, .int 1), (2, .ref t_8), (0, .ref (ad 4)), (1, .int (Int32.ofNat i1))]) hx hb d_Machine_settle_38 rfl hl (by decide) rfl (fun ls hl => ?_)
        refine lv_iload_n hx hb d_Machine_settle_39 rfl (lv_at hl 0 rfl) ?_
        refine lv_if_ne (tgt := 44) hx hb d_Machine_settle_40 (by decide) (fun _ => ?_) (fun c13 => absurd c13 (by decide))
        refine lv_aload_n hx hb d_Machine_settle_44 rfl (lv_at hl 2 rfl) ?_
        refine k_g (C := "ChannelMachine$Machine") (F := F_Machine) (N := 11) hx hb hts i_Machine hown hK hP 4 4 (by decide) (by decide) rfl (by decide) (d := (0, 11)) rfl (hts _ k_158) (fun _ h9 => h9) (v := .ref (ad 11)) rfl d_Machine_settle_45 ?_
        refine lv_iconst (v := 0) hx hb d_Machine_settle_48 (by decide) ?_
        refine W.eq (g2 := F0 m 49 ls [.int (Int32.ofNat 0), .ref (ad 11)]) rfl ?_
        have hFc := y_free hD hS hA
        refine va_callFq (va_runF (As := [.int (Int32.ofNat 0)]) (rest := []) (hK.1 0 _ rfl).2 ⟨hx, hb, hml, hown, hts⟩ (c_L_rem_11 l dC dI ar N0 z ad I1 T1 A1 O1 pl11 G C Gs q1 s1 cq1 cs1 0 H.size (y_hs H) hmi (by omega)) (va_cwF 1 hts (x_goodF k_756 k_759 k_761 k_7 k_763) rfl rfl rfl hU.2.2.2.2.2.2.2.1 (by decide +kernel) ⟨Nat.le_of_ble_eq_true rfl, Nat.le_of_ble_eq_true rfl⟩) ⟨y_blind, va_recv hK hP (ci := 0) (q0 := 11) rfl (y_W_ob (by decide) (by decide)), fun U9 hU9 hW9 => y_pre hU9 hW9 hP hD hU hZ hS hAN hN0⟩ rfl rfl hl.1 rfl (lv_room (Nat.le_of_ble_eq_true rfl)) d_Machine_settle_49 ⟨(by show (cq1 + cs1 - (cq + cs)) / 5 + (0) ≤ (max cq (2 * qn + 12) - cq + (max cs (2 * sn + 12) - cs)) / 5 + 5; omega), (by show 4 * (cq1 + cs1 - (cq + cs)) + (0) ≤ 4 * (max cq (2 * qn + 12) - cq + (max cs (2 * sn + 12) - cs)) + 100; omega)⟩) hS (fun q _ h => hFc q h) hFc (fun r_14 u t H1 locs ht hvm hw hB hz1 hk1 hS => ?_)
        obtain ⟨I15, T15, A15, O15, pl15, q15, s15, cq15, cs15⟩ := u
        dsimp only at hw hB
        rw [ht] at hB
        obtain ⟨hP, hD1, hac15⟩ := hB
        have hD : va_D Bq (y_W ad ar I15 T15 A15 O15 pl15) := hD1.weaken (fun _ q _ h => hFc q.1 h)
        generalize H1 = H at hP hS hac15 ⊢
        refine W.widen (k := (cq1 + cs1 - (cq + cs)) / 5) (n := 4 * (cq1 + cs1 - (cq + cs))) (by omega) (by omega) ?_
        obtain ⟨hr, hmi, e5, fr15, e2, e3, e4⟩ := hw
        cases e5
        rw [e2, e3, e4] at hP hD
        rw [e4] at hmi
        have hP : va_P (dC, dI) y_cl (y_W ad ar I15 T1 A1 O1 pl15) H := hP
        have hD : va_D Bq (y_W ad ar I15 T1 A1 O1 pl15) := hD
        have hmi : y_MI z ar G C Gs I15 O1 (y_L pl15) (q1 - 1, s1, cq1, cs1) := hmi
        have hbdr15 : y_bd (q1, s1, cq1, cs1) (q1 - 1, s1, cq1, cs1) 0 0 := ⟨by dsimp only; omega, by dsimp only; omega, Or.inl rfl, Or.inl rfl⟩
        obtain ⟨t_16, rfl, ht_16⟩ := hr
        refine W.eq (g2 := F0 m 54 ls [.ref t_16]) rfl ?_
        refine lv_pop hx hb d_Machine_settle_54 rfl ?_
        refine lv_iload_n hx hb d_Machine_settle_55 rfl (lv_at hl 0 rfl) ?_
        refine lv_iconst (v := 1) hx hb d_Machine_settle_56 (by decide) ?_
        refine lv_icmp_ne (tgt := 74) hx hb d_Machine_settle_57 (by decide) (fun c17 => absurd rfl c17) (fun _ => ?_)
        refine lv_aload_n hx hb d_Machine_settle_60 rfl (lv_at hl 2 rfl) ?_
        refine k_g (C := "ChannelMachine$Machine") (F := F_Machine) (N := 11) hx hb hts i_Machine hown hK hP 4 4 (by decide) (by decide) rfl (by decide) (d := (0, 11)) rfl (hts _ k_158) (fun _ h9 => h9) (v := .ref (ad 11)) rfl d_Machine_settle_61 ?_
        refine lv_aload_n hx hb d_Machine_settle_64 rfl (lv_at hl 1 rfl) ?_
        have hgg18 := y_gg (q1 - 1) cq1
        refine y_know (fun hya1 hya2 hya3 hya4 => ?_)
        have hFc := y_free hD hS hA
        refine va_callFi (va_runF (As := [.ref t_8]) (rest := []) (hK.1 0 _ rfl).2 ⟨hx, hb, hml, hown, hts⟩ (c_L_add_11 l dC dI ar N0 z ad I15 T1 A1 O1 pl15 G C Gs (q1 - 1) s1 cq1 cs1 t_8 H.size (y_hs H) hmi ht_8 (by omega)) (va_cwF 1 hts (x_goodF k_649 k_652 k_654 k_7 k_656) rfl rfl rfl hU.2.2.2.2.1 (by decide +kernel) ⟨Nat.le_of_ble_eq_true rfl, Nat.le_of_ble_eq_true rfl⟩) ⟨y_blind, va_recv hK hP (ci := 0) (q0 := 11) rfl (y_W_ob (by decide) (by decide)), fun U9 hU9 hW9 => y_pre hU9 hW9 hP hD hU hZ hS hAN hN0⟩ rfl rfl hl.1 rfl (lv_room (Nat.le_of_ble_eq_true rfl)) d_Machine_settle_65 ⟨(by show (cq1 + cs1 - (cq + cs)) / 5 + (y_gc (q1 - 1) cq1) ≤ (max cq (2 * qn + 12) - cq + (max cs (2 * sn + 12) - cs)) / 5 + 5; omega), (by show 4 * (cq1 + cs1 - (cq + cs)) + (y_gs (q1 - 1) cq1) ≤ 4 * (max cq (2 * qn + 12) - cq + (max cs (2 * sn + 12) - cs)) + 100; omega)⟩) hS (fun q _ h => hFc q h) hFc (fun r_19 u t H1 locs ht hvm hw hB hz1 hk1 hS => ?_)
        obtain ⟨I20, T20, A20, O20, pl20, q20, s20, cq20, cs20⟩ := u
        dsimp only at hw hB
        rw [ht] at hB
        obtain ⟨hP, hD1, hac20⟩ := hB
        have hD : va_D Bq (y_W ad ar I20 T20 A20 O20 pl20) := hD1.weaken (fun _ q _ h => hFc q.1 h)
        generalize H1 = H at hP hS hac20 ⊢
        obtain ⟨hmi, hbd20, fr20, e2, e3⟩ := hw
        rw [e2, e3] at hP hD
        have hP : va_P (dC, dI) y_cl (y_W ad ar I20 T1 A1 O20 pl20) H := hP
        have hD : va_D Bq (y_W ad ar I20 T1 A1 O20 pl20) := hD
        unfold y_ac at hac20
        have hb20 := hbd20
        unfold y_bd at hb20
        dsimp only at hb20 hac20
        refine y_tight (k := (cq20 + cs20 - (cq + cs)) / 5) (n := 4 * (cq20 + cs20 - (cq + cs))) (by omega) (by omega) ?_
        refine lv_pop hx hb d_Machine_settle_70 rfl ?_
        refine lv_goto (tgt := 79) hx hb d_Machine_settle_71 (by decide) ?_
        refine lv_iinc (v := (Int32.ofNat (i1 + 1))) (lv' := [(1, .int (Int32.ofNat (i1 + 1))), (3, .int 1), (2, .ref t_8), (0, .ref (ad 4))]) hx hb d_Machine_settle_79 hl (k := 3) rfl (x_incN i1) (by decide) rfl (fun ls hl => ?_)
        refine lv_goto (tgt := 2) hx hb d_Machine_settle_82 (by decide) ?_
        refine W.widen (k := (cq20 + cs20 - (cq + cs)) / 5) (n := 4 * (cq20 + cs20 - (cq + cs))) (by omega) (by omega) ?_
        exact ih (1000000 - (i1 + 1)) (by omega) (cq20 + cs20) H locs ls ⟨I20, T1, A1, O20, pl20, q20, s20, cq20, cs20, i1 + 1, rfl, rfl, by omega, ((hfr.tr fr15 (by decide)).tr fr20 (by decide)), hmi, ⟨by dsimp only; omega, by dsimp only; omega, by dsimp only; omega, by dsimp only; omega⟩, hP, hD, hS, lv_sub hl [3, 0] rfl⟩
      · refine lv_istore_n (lv' := [(3, .int 2), (2, .ref t_8), (0, .ref (ad 4)), (1, .int (Int32.ofNat i1))]) hx hb d_Machine_settle_38 rfl hl (by decide) rfl (fun ls hl => ?_)
        refine lv_iload_n hx hb d_Machine_settle_39 rfl (lv_at hl 0 rfl) ?_
        refine lv_if_ne (tgt := 44) hx hb d_Machine_settle_40 (by decide) (fun _ => ?_) (fun c21 => absurd c21 (by decide))
        refine lv_aload_n hx hb d_Machine_settle_44 rfl (lv_at hl 2 rfl) ?_
        refine k_g (C := "ChannelMachine$Machine") (F := F_Machine) (N := 11) hx hb hts i_Machine hown hK hP 4 4 (by decide) (by decide) rfl (by decide) (d := (0, 11)) rfl (hts _ k_158) (fun _ h9 => h9) (v := .ref (ad 11)) rfl d_Machine_settle_45 ?_
        refine lv_iconst (v := 0) hx hb d_Machine_settle_48 (by decide) ?_
        refine W.eq (g2 := F0 m 49 ls [.int (Int32.ofNat 0), .ref (ad 11)]) rfl ?_
        have hFc := y_free hD hS hA
        refine va_callFq (va_runF (As := [.int (Int32.ofNat 0)]) (rest := []) (hK.1 0 _ rfl).2 ⟨hx, hb, hml, hown, hts⟩ (c_L_rem_11 l dC dI ar N0 z ad I1 T1 A1 O1 pl11 G C Gs q1 s1 cq1 cs1 0 H.size (y_hs H) hmi (by omega)) (va_cwF 1 hts (x_goodF k_756 k_759 k_761 k_7 k_763) rfl rfl rfl hU.2.2.2.2.2.2.2.1 (by decide +kernel) ⟨Nat.le_of_ble_eq_true rfl, Nat.le_of_ble_eq_true rfl⟩) ⟨y_blind, va_recv hK hP (ci := 0) (q0 := 11) rfl (y_W_ob (by decide) (by decide)), fun U9 hU9 hW9 => y_pre hU9 hW9 hP hD hU hZ hS hAN hN0⟩ rfl rfl hl.1 rfl (lv_room (Nat.le_of_ble_eq_true rfl)) d_Machine_settle_49 ⟨(by show (cq1 + cs1 - (cq + cs)) / 5 + (0) ≤ (max cq (2 * qn + 12) - cq + (max cs (2 * sn + 12) - cs)) / 5 + 5; omega), (by show 4 * (cq1 + cs1 - (cq + cs)) + (0) ≤ 4 * (max cq (2 * qn + 12) - cq + (max cs (2 * sn + 12) - cs)) + 100; omega)⟩) hS (fun q _ h => hFc q h) hFc (fun r_22 u t H1 locs ht hvm hw hB hz1 hk1 hS => ?_)
        obtain ⟨I23, T23, A23, O23, pl23, q23, s23, cq23, cs23⟩ := u
        dsimp only at hw hB
        rw [ht] at hB
        obtain ⟨hP, hD1, hac23⟩ := hB
        have hD : va_D Bq (y_W ad ar I23 T23 A23 O23 pl23) := hD1.weaken (fun _ q _ h => hFc q.1 h)
        generalize H1 = H at hP hS hac23 ⊢
        refine W.widen (k := (cq1 + cs1 - (cq + cs)) / 5) (n := 4 * (cq1 + cs1 - (cq + cs))) (by omega) (by omega) ?_
        obtain ⟨hr, hmi, e5, fr23, e2, e3, e4⟩ := hw
        cases e5
        rw [e2, e3, e4] at hP hD
        rw [e4] at hmi
        have hP : va_P (dC, dI) y_cl (y_W ad ar I23 T1 A1 O1 pl23) H := hP
        have hD : va_D Bq (y_W ad ar I23 T1 A1 O1 pl23) := hD
        have hmi : y_MI z ar G C Gs I23 O1 (y_L pl23) (q1 - 1, s1, cq1, cs1) := hmi
        have hbdr23 : y_bd (q1, s1, cq1, cs1) (q1 - 1, s1, cq1, cs1) 0 0 := ⟨by dsimp only; omega, by dsimp only; omega, Or.inl rfl, Or.inl rfl⟩
        obtain ⟨t_24, rfl, ht_24⟩ := hr
        refine W.eq (g2 := F0 m 54 ls [.ref t_24]) rfl ?_
        refine lv_pop hx hb d_Machine_settle_54 rfl ?_
        refine lv_iload_n hx hb d_Machine_settle_55 rfl (lv_at hl 0 rfl) ?_
        refine lv_iconst (v := 1) hx hb d_Machine_settle_56 (by decide) ?_
        refine lv_icmp_ne (tgt := 74) hx hb d_Machine_settle_57 (by decide) (fun _ => ?_) (fun c25 => absurd c25 (by decide))
        refine lv_aload_n hx hb d_Machine_settle_74 rfl (lv_at hl 2 rfl) ?_
        refine lv_aload_n hx hb d_Machine_settle_75 rfl (lv_at hl 1 rfl) ?_
        have hgg26 := y_gg (q1 - 1) cq1
        refine y_know (fun hya1 hya2 hya3 hya4 => ?_)
        have hFc := y_free hD hS hA
        refine va_callv (va_runV (As := [.ref t_8]) (rest := []) ⟨hx, hb, hml, hown, hts⟩ (c_M_finish l dC dI ar N0 z ad I23 T1 A1 O1 pl23 G C Gs (q1 - 1) s1 cq1 cs1 t_8 H.size (y_hs H) hmi ht_8 (by omega)) (cwV 1 hts (x_goodV k_769 k_771 kp_27 k_3 k_772) rfl rfl rfl (by decide +kernel) ⟨Nat.le_of_ble_eq_true rfl, Nat.le_of_ble_eq_true rfl⟩) ⟨y_blind, va_recv hK hP (ci := 2) (q0 := 4) rfl (y_W_ob (by decide) (by decide)), fun U9 hU9 hW9 => y_pre hU9 hW9 hP hD hU hZ hS hAN hN0⟩ rfl rfl hl.1 rfl (lv_room (Nat.le_of_ble_eq_true rfl)) d_Machine_settle_76 ⟨(by show (cq1 + cs1 - (cq + cs)) / 5 + (y_gc (q1 - 1) cq1) ≤ (max cq (2 * qn + 12) - cq + (max cs (2 * sn + 12) - cs)) / 5 + 5; omega), (by show 4 * (cq1 + cs1 - (cq + cs)) + (y_gs (q1 - 1) cq1) ≤ 4 * (max cq (2 * qn + 12) - cq + (max cs (2 * sn + 12) - cs)) + 100; omega)⟩) hS (fun q _ h => hFc q h) hFc (fun u t H1 locs ht hvm hw hB hz1 hk1 hS => ?_)
        obtain ⟨I27, T27, A27, O27, pl27, q27, s27, cq27, cs27⟩ := u
        dsimp only at hw hB
        rw [ht] at hB
        obtain ⟨hP, hD1, hac27⟩ := hB
        have hD : va_D Bq (y_W ad ar I27 T27 A27 O27 pl27) := hD1.weaken (fun _ q _ h => hFc q.1 h)
        generalize H1 = H at hP hS hac27 ⊢
        obtain ⟨hmi, hbd27, fr27⟩ := hw
        unfold y_ac at hac27
        have hb27 := hbd27
        unfold y_bd at hb27
        dsimp only at hb27 hac27
        refine y_tight (k := (cq27 + cs27 - (cq + cs)) / 5) (n := 4 * (cq27 + cs27 - (cq + cs))) (by omega) (by omega) ?_
        refine lv_iinc (v := (Int32.ofNat (i1 + 1))) (lv' := [(1, .int (Int32.ofNat (i1 + 1))), (3, .int 2), (2, .ref t_8), (0, .ref (ad 4))]) hx hb d_Machine_settle_79 hl (k := 3) rfl (x_incN i1) (by decide) rfl (fun ls hl => ?_)
        refine lv_goto (tgt := 2) hx hb d_Machine_settle_82 (by decide) ?_
        refine W.widen (k := (cq27 + cs27 - (cq + cs)) / 5) (n := 4 * (cq27 + cs27 - (cq + cs))) (by omega) (by omega) ?_
        exact ih (1000000 - (i1 + 1)) (by omega) (cq27 + cs27) H locs ls ⟨I27, T27, A27, O27, pl27, q27, s27, cq27, cs27, i1 + 1, rfl, rfl, by omega, ((hfr.tr fr23 (by decide)).tr fr27 (by decide)), hmi, ⟨by dsimp only; omega, by dsimp only; omega, by dsimp only; omega, by dsimp only; omega⟩, hP, hD, hS, lv_sub hl [3, 0] rfl⟩
set_option maxHeartbeats 4000000 in
set_option maxRecDepth 100000 in
theorem c_M_delay (l : Launch) (dC : Nat → ClassId) (dI : Nat → Nat → Nat) (ar : Nat → ClassId) (N0 : Nat) (z : Nat → Nat) (ad : Nat → Nat) (I : Nat → Int32) (T : Int64) (A : Nat → Nat → Int32) (O : Nat → Option Nat) (pl : va_W) (G : Nat → Nat) (C Gs : Nat → List Nat) (qn sn cq cs : Nat) (tt : Nat) (vv : Int32) (sz w0 : Nat) (hmi : y_MI z ar G C Gs I O (y_L pl) (qn, sn, cq, cs)) (htt : G tt = 8) (hlim : sn ≤ 20000000) : Met l ({ cls := "ChannelMachine$Machine", name := "delay", desc := "(LChannelMachine$Task;I)V" } : Jvm.MethodName) ((Jvm.Cond.code ({ cls := "ChannelMachine$Machine", name := "delay", desc := "(LChannelMachine$Task;I)V" } : Jvm.MethodName) prog_6_method_23_code (3 : Nat) (Option.none : Option Jvm.ClassFile.FieldType)) :: x_T) ({ frames := 7, cells := y_gc sn cs, slots := y_gs sn cs, locals := 191 }) (y_Pc (dC, dI) ar N0 z (y_W ad ar I T A O pl) sz w0 [.ref (ad 4), .ref tt, .int vv]) (va_Qv (fun (u : (Nat → Int32) × Int64 × (Nat → Nat → Int32) × (Nat → Option Nat) × va_W × (Nat × Nat × Nat × Nat)) => y_MI z ar G C Gs u.1 u.2.2.2.1 (y_L u.2.2.2.2.1) u.2.2.2.2.2 ∧ y_bd (qn, sn, cq, cs) u.2.2.2.2.2 0 1 ∧ m_fr [12, 13, 14, 15] I u.1) (fun u t => va_P (dC, dI) y_cl (y_W ad ar u.1 u.2.1 u.2.2.1 u.2.2.2.1 u.2.2.2.2.1) t.heap ∧ va_D (va_A (y_W ad ar I T A O pl) sz) (y_W ad ar u.1 u.2.1 u.2.2.1 u.2.2.2.1 u.2.2.2.2.1) ∧ y_ac (cq + cs) sz w0 (u.2.2.2.2.2.2.2.1 + u.2.2.2.2.2.2.2.2) t.heap) (va_A (y_W ad ar I T A O pl) sz)) (y_gc sn cs) (y_gs sn cs) (va_A (y_W ad ar I T A O pl) sz) := by
  refine Met.ofW (cc := prog_6_method_23_code) (maxL := 3) (ret := none) (by decide) rfl ?_
  intro p e s m args below meth c s₁ B hml hv
  obtain ⟨rfl, hsz, hN0, hP, hU, hZ, hD0, hw0⟩ := hv
  have hK := hU.2.1
  have hx := B.exec
  have hb := B.bytes
  have hr := B.returns
  have hts : ∀ w ∈ x_T, w.before ([.ref (ad 4), .ref tt, .int vv] : List Value).toArray s = true := fun w h => atoms_spec (ws := (Jvm.Cond.code ({ cls := "ChannelMachine$Machine", name := "delay", desc := "(LChannelMachine$Task;I)V" } : Jvm.MethodName) prog_6_method_23_code (3 : Nat) (Option.none : Option Jvm.ClassFile.FieldType)) :: x_T) B.pre w (List.mem_cons_of_mem _ h)
  have hown : s.vm.findClass "ChannelMachine$Machine" = some m.cls := findClass_of_methodNamed B.named
  have hlocks := B.notSynchronized
  subst hsz
  subst hw0
  have hD := hD0.self (sz := s.heap.size)
  have hAN := x_AN hD0 hN0
  generalize hAe : va_A (y_W ad ar I T A O pl) s.heap.size = Bq at hD hAN ⊢
  have hA : ∀ q : Nat, s.heap.size ≤ q → Bq q := fun q h => by rw [← hAe]; exact Or.inr h
  have hS : va_S Bq s.heap s.heap [] := va_S.rf
  have hl := lv_entry ([.ref (ad 4), .ref tt, .int vv]) (n := 3) (Nat.le_of_ble_eq_true rfl)
  rw [lg_entry_eq]
  generalize (lg_sl ([.ref (ad 4), .ref tt, .int vv]) ++ List.replicate (3 - (lg_sl ([.ref (ad 4), .ref tt, .int vv])).length) Slot.unset).toArray = ls at hl ⊢
  have hl : lv_has ls 3 [(0, .ref (ad 4)), (1, .ref tt), (2, .int vv)] := hl
  have hle := y_LS.le hmi.2.2.1.2
  dsimp only at hle
  have hcap := hmi.2.2.2.2.1
  dsimp only at hcap
  have hgg := y_gg sn cs
  refine lv_iload_n hx hb d_Machine_delay_0 rfl (lv_at hl 2 rfl) ?_
  refine lv_if_le (tgt := 33) hx hb d_Machine_delay_1 (by decide) (fun c1 => ?_) (fun c1 => ?_)
  · refine lv_aload_n hx hb d_Machine_delay_33 rfl (lv_at hl 1 rfl) ?_
    obtain ⟨w2, m2, a2, b2, r2, v2, u2, hf2, hw2, hm2, ha2⟩ := hmi.1.2.1 tt htt
    have hFc := y_free hD hS hA
    refine va_callv (va_runV (As := []) (rest := []) ⟨hx, hb, hml, hown, hts⟩ (c_T_goOn l dC dI ar N0 z ad I T A O pl G C Gs qn sn cq cs tt s.heap.size (y_hs s.heap) hmi htt) (cwV 0 hts (x_goodV k_777 k_778 k_779 k_18 k_780) rfl rfl rfl (by decide +kernel) ⟨Nat.le_of_ble_eq_true rfl, Nat.le_of_ble_eq_true rfl⟩) ⟨y_blind, (by obtain ⟨q9, hq9⟩ := y_L_at hf2; exact va_recv hK hP (ci := 8) (q0 := 20 + q9) rfl (by rw [y_W_pl]; exact hq9)), fun U9 hU9 hW9 => y_pre hU9 hW9 hP hD hU hZ hS hAN hN0⟩ rfl rfl hl.1 rfl (lv_room (Nat.le_of_ble_eq_true rfl)) d_Machine_delay_34 ⟨(by show 0 + (0) ≤ y_gc sn cs; omega), (by show 0 + (0) ≤ y_gs sn cs; omega)⟩) hS (fun q _ h => hFc q h) hFc (fun u t H1 locs ht hvm hw hB hz1 hk1 hS => ?_)
    obtain ⟨I3, T3, A3, O3, pl3, q3, s3, cq3, cs3⟩ := u
    dsimp only at hw hB
    rw [ht] at hB
    obtain ⟨hP, hD1, hac3⟩ := hB
    have hD : va_D Bq (y_W ad ar I3 T3 A3 O3 pl3) := hD1.weaken (fun _ q _ h => hFc q.1 h)
    generalize H1 = H at hP hS hac3 ⊢
    refine W.widen (k := 0) (n := 0) (by omega) (by omega) ?_
    obtain ⟨e1, e2, e3, e4, e5, hmi⟩ := hw
    cases e5
    rw [e1, e2, e3, e4] at hP hD
    rw [e1, e4] at hmi
    have hmi : y_MI z ar G C Gs I O (y_L pl3) (qn, sn, cq, cs) := hmi
    refine y_know (fun hy91 hy92 hy93 hy94 => ?_)
    have hac9 : y_ac (cq + cs) s.heap.size (y_hs s.heap) (cq + cs) H := ⟨by omega, by omega⟩
    refine W.widen (k := y_gc sn cs) (n := y_gs sn cs) (by omega) (by omega) ?_
    exact W.vret hx hb hr (fun t ht hW => ⟨⟨(I, T, A, O, pl3, (qn, sn, cq, cs)), rfl, ⟨hmi, y_bd.rf, m_fr.rf⟩, (by dsimp only; rw [ht]; exact ⟨hP, hD, hac9⟩)⟩, hS.F ht⟩) hS.2.2 d_Machine_delay_37
  · refine lv_aload_n hx hb d_Machine_delay_4 rfl (lv_at hl 1 rfl) ?_
    refine lv_aload_n hx hb d_Machine_delay_5 rfl (lv_at hl 0 rfl) ?_
    refine k_g (C := "ChannelMachine$Machine") (F := F_Machine) (N := 11) hx hb hts i_Machine hown hK hP 4 10 (by decide) (by decide) rfl (by decide) (d := (2, 0)) rfl (hts _ k_169) (fun _ h9 => h9) (v := .long T) rfl d_Machine_delay_6 ?_
    refine lv_iload_n hx hb d_Machine_delay_9 rfl (lv_at hl 2 rfl) ?_
    refine lv_i2l (v := (Int32.toInt64 vv)) hx hb d_Machine_delay_10 rfl ?_
    refine lv_ladd hx hb d_Machine_delay_11 ?_
    obtain ⟨w4, m4, a4, b4, r4, v4, u4, hf4, hw4, hm4, ha4⟩ := hmi.1.2.1 tt htt
    refine d_pN (C := "ChannelMachine$Task") (F := F_Task) (N := 7) hx hb hts i_Task hown t_Task t_Task_ok n_Task hK hP hD hS hf4 6 rfl (by decide) (hU.1.2.1 _ kn_461) (fun _ h9 => h9) rfl (ty := .long) (v := .long (T + (Int32.toInt64 vv))) (by decide +kernel) rfl rfl (Nat.le_of_ble_eq_true rfl) d_Machine_delay_12 (fun pl5 H locs hL hP hD hS => ?_)
    have hmi := y_MI.task hmi (t := tt) (w := w4) (m := m4) (a := a4) (b := b4) (r := r4) (v := v4) (u := (T + (Int32.toInt64 vv))) htt hw4 hm4 ha4
    have hfo4 := hf4
    have hf4 : y_L pl5 tt = some (.inr (8, y_Tf w4 m4 a4 b4 r4 v4 (T + (Int32.toInt64 vv)))) := by rw [hL]; exact y_Lu_s
    have hmi : y_MI z ar G C Gs I O (y_L pl5) (qn, sn, cq, cs) := by rw [hL]; exact hmi
    clear hL
    refine lv_aload_n hx hb d_Machine_delay_15 rfl (lv_at hl 0 rfl) ?_
    refine k_g (C := "ChannelMachine$Machine") (F := F_Machine) (N := 11) hx hb hts i_Machine hown hK hP 4 5 (by decide) (by decide) rfl (by decide) (d := (0, 12)) rfl (hts _ k_160) (fun _ h9 => h9) (v := .ref (ad 12)) rfl d_Machine_delay_16 ?_
    refine lv_aload_n hx hb d_Machine_delay_19 rfl (lv_at hl 1 rfl) ?_
    have hgg6 := y_gg sn cs
    refine y_know (fun hya1 hya2 hya3 hya4 => ?_)
    have hFc := y_free hD hS hA
    refine va_callFi (va_runF (As := [.ref tt]) (rest := []) (hK.1 0 _ rfl).2 ⟨hx, hb, hml, hown, hts⟩ (c_L_add_12 l dC dI ar N0 z ad I T A O pl5 G C Gs qn sn cq cs tt H.size (y_hs H) hmi htt (by omega)) (va_cwF 1 hts (x_goodF k_649 k_652 k_654 k_7 k_656) rfl rfl rfl hU.2.2.2.2.1 (by decide +kernel) ⟨Nat.le_of_ble_eq_true rfl, Nat.le_of_ble_eq_true rfl⟩) ⟨y_blind, va_recv hK hP (ci := 0) (q0 := 12) rfl (y_W_ob (by decide) (by decide)), fun U9 hU9 hW9 => y_pre hU9 hW9 hP hD hU hZ hS hAN hN0⟩ rfl rfl hl.1 rfl (lv_room (Nat.le_of_ble_eq_true rfl)) d_Machine_delay_20 ⟨(by show 0 + (y_gc sn cs) ≤ y_gc sn cs; omega), (by show 0 + (y_gs sn cs) ≤ y_gs sn cs; omega)⟩) hS (fun q _ h => hFc q h) hFc (fun r_7 u t H1 locs ht hvm hw hB hz1 hk1 hS => ?_)
    obtain ⟨I8, T8, A8, O8, pl8, q8, s8, cq8, cs8⟩ := u
    dsimp only at hw hB
    rw [ht] at hB
    obtain ⟨hP, hD1, hac8⟩ := hB
    have hD : va_D Bq (y_W ad ar I8 T8 A8 O8 pl8) := hD1.weaken (fun _ q _ h => hFc q.1 h)
    generalize H1 = H at hP hS hac8 ⊢
    obtain ⟨hmi, hbd8, fr8, e2, e3⟩ := hw
    rw [e2, e3] at hP hD
    have hP : va_P (dC, dI) y_cl (y_W ad ar I8 T A O8 pl8) H := hP
    have hD : va_D Bq (y_W ad ar I8 T A O8 pl8) := hD
    unfold y_ac at hac8
    have hb8 := hbd8
    unfold y_bd at hb8
    dsimp only at hb8 hac8
    refine lv_pop hx hb d_Machine_delay_25 rfl ?_
    refine lv_aload_n hx hb d_Machine_delay_26 rfl (lv_at hl 0 rfl) ?_
    have hFc := y_free hD hS hA
    refine va_callv (va_runV (As := []) (rest := []) ⟨hx, hb, hml, hown, hts⟩ (c_M_pause l dC dI ar N0 z ad I8 T A O8 pl8 G C Gs q8 s8 cq8 cs8 H.size (y_hs H) hmi) (cwV 0 hts (x_goodV k_787 k_789 kp_30 k_3 k_790) rfl rfl rfl (by decide +kernel) ⟨Nat.le_of_ble_eq_true rfl, Nat.le_of_ble_eq_true rfl⟩) ⟨y_blind, va_recv hK hP (ci := 2) (q0 := 4) rfl (y_W_ob (by decide) (by decide)), fun U9 hU9 hW9 => y_pre hU9 hW9 hP hD hU hZ hS hAN hN0⟩ rfl rfl hl.1 rfl (lv_room (Nat.le_of_ble_eq_true rfl)) d_Machine_delay_27 ⟨(by show 0 + (y_gc sn cs) + (0) ≤ y_gc sn cs; omega), (by show 0 + (y_gs sn cs) + (0) ≤ y_gs sn cs; omega)⟩) hS (fun q _ h => hFc q h) hFc (fun u t H1 locs ht hvm hw hB hz1 hk1 hS => ?_)
    obtain ⟨I9, T9, A9, O9, pl9, q9, s9, cq9, cs9⟩ := u
    dsimp only at hw hB
    rw [ht] at hB
    obtain ⟨hP, hD1, hac9⟩ := hB
    have hD : va_D Bq (y_W ad ar I9 T9 A9 O9 pl9) := hD1.weaken (fun _ q _ h => hFc q.1 h)
    generalize H1 = H at hP hS hac9 ⊢
    refine W.widen (k := 0 + (y_gc sn cs)) (n := 0 + (y_gs sn cs)) (by omega) (by omega) ?_
    obtain ⟨hmi, hbd9, fr9⟩ := hw
    have hb9 := hbd9
    unfold y_bd at hb9
    unfold y_ac at hac9
    dsimp only at hb9 hac9
    refine lv_goto (tgt := 37) hx hb d_Machine_delay_30 (by decide) ?_
    refine y_know (fun hy91 hy92 hy93 hy94 => ?_)
    have hac9 : y_ac (cq + cs) s.heap.size (y_hs s.heap) (cq9 + cs9) H := ⟨by omega, by omega⟩
    refine W.widen (k := y_gc sn cs) (n := y_gs sn cs) (by omega) (by omega) ?_
    exact W.vret hx hb hr (fun t ht hW => ⟨⟨(I9, T9, A9, O9, pl9, (q9, s9, cq9, cs9)), rfl, ⟨hmi, (y_bd.tr (y_bd.tr hbd8 hbd9 (e := 0) (g := 1) (by decide) (by decide)) (y_bd.rf (a := 0) (b := 0)) (e := 0) (g := 1) (by decide) (by decide)), ((m_fr.rf.tr fr8 (by decide)).tr fr9 (by decide))⟩, (by dsimp only; rw [ht]; exact ⟨hP, hD, hac9⟩)⟩, hS.F ht⟩) hS.2.2 d_Machine_delay_37
set_option maxHeartbeats 4000000 in
set_option maxRecDepth 100000 in
theorem c_M_accept (l : Launch) (dC : Nat → ClassId) (dI : Nat → Nat → Nat) (ar : Nat → ClassId) (N0 : Nat) (z : Nat → Nat) (ad : Nat → Nat) (I : Nat → Int32) (T : Int64) (A : Nat → Nat → Int32) (O : Nat → Option Nat) (pl : va_W) (G : Nat → Nat) (C Gs : Nat → List Nat) (qn sn cq cs : Nat) (vv : Int32) (sz w0 : Nat) (hmi : y_MI z ar G C Gs I O (y_L pl) (qn, sn, cq, cs)) (hlim : qn ≤ 20000000) : Met l ({ cls := "ChannelMachine$Machine", name := "accept", desc := "(I)V" } : Jvm.MethodName) ((Jvm.Cond.code ({ cls := "ChannelMachine$Machine", name := "accept", desc := "(I)V" } : Jvm.MethodName) prog_6_method_28_code (2 : Nat) (Option.none : Option Jvm.ClassFile.FieldType)) :: x_T) ({ frames := 8, cells := y_gc qn cq, slots := y_gs qn cq, locals := 216 }) (y_Pc (dC, dI) ar N0 z (y_W ad ar I T A O pl) sz w0 [.ref (ad 4), .int vv]) (va_Qv (fun (u : (Nat → Int32) × Int64 × (Nat → Nat → Int32) × (Nat → Option Nat) × va_W × (Nat × Nat × Nat × Nat)) => y_MI z ar G C Gs u.1 u.2.2.2.1 (y_L u.2.2.2.2.1) u.2.2.2.2.2 ∧ y_bd (qn, sn, cq, cs) u.2.2.2.2.2 1 0 ∧ m_fr [10, 11, 12, 13, 14, 15] I u.1) (fun u t => va_P (dC, dI) y_cl (y_W ad ar u.1 u.2.1 u.2.2.1 u.2.2.2.1 u.2.2.2.2.1) t.heap ∧ va_D (va_A (y_W ad ar I T A O pl) sz) (y_W ad ar u.1 u.2.1 u.2.2.1 u.2.2.2.1 u.2.2.2.2.1) ∧ y_ac (cq + cs) sz w0 (u.2.2.2.2.2.2.2.1 + u.2.2.2.2.2.2.2.2) t.heap) (va_A (y_W ad ar I T A O pl) sz)) (y_gc qn cq) (y_gs qn cq) (va_A (y_W ad ar I T A O pl) sz) := by
  refine Met.ofW (cc := prog_6_method_28_code) (maxL := 2) (ret := none) (by decide) rfl ?_
  intro p e s m args below meth c s₁ B hml hv
  obtain ⟨rfl, hsz, hN0, hP, hU, hZ, hD0, hw0⟩ := hv
  have hK := hU.2.1
  have hx := B.exec
  have hb := B.bytes
  have hr := B.returns
  have hts : ∀ w ∈ x_T, w.before ([.ref (ad 4), .int vv] : List Value).toArray s = true := fun w h => atoms_spec (ws := (Jvm.Cond.code ({ cls := "ChannelMachine$Machine", name := "accept", desc := "(I)V" } : Jvm.MethodName) prog_6_method_28_code (2 : Nat) (Option.none : Option Jvm.ClassFile.FieldType)) :: x_T) B.pre w (List.mem_cons_of_mem _ h)
  have hown : s.vm.findClass "ChannelMachine$Machine" = some m.cls := findClass_of_methodNamed B.named
  have hlocks := B.notSynchronized
  subst hsz
  subst hw0
  have hD := hD0.self (sz := s.heap.size)
  have hAN := x_AN hD0 hN0
  generalize hAe : va_A (y_W ad ar I T A O pl) s.heap.size = Bq at hD hAN ⊢
  have hA : ∀ q : Nat, s.heap.size ≤ q → Bq q := fun q h => by rw [← hAe]; exact Or.inr h
  have hS : va_S Bq s.heap s.heap [] := va_S.rf
  have hl := lv_entry ([.ref (ad 4), .int vv]) (n := 2) (Nat.le_of_ble_eq_true rfl)
  rw [lg_entry_eq]
  generalize (lg_sl ([.ref (ad 4), .int vv]) ++ List.replicate (2 - (lg_sl ([.ref (ad 4), .int vv])).length) Slot.unset).toArray = ls at hl ⊢
  have hl : lv_has ls 2 [(0, .ref (ad 4)), (1, .int vv)] := hl
  have hle := y_LS.le hmi.2.1.2
  dsimp only at hle
  have hcap := hmi.2.2.2.2.1
  dsimp only at hcap
  have hgg := y_gg qn cq
  refine lv_aload_n hx hb d_Machine_accept_0 rfl (lv_at hl 0 rfl) ?_
  refine k_g (C := "ChannelMachine$Machine") (F := F_Machine) (N := 11) hx hb hts i_Machine hown hK hP 4 1 (by decide) (by decide) rfl (by decide) (d := (0, 6)) rfl (hts _ k_152) (fun _ h9 => h9) (v := .ref (ad 6)) rfl d_Machine_accept_1 ?_
  refine lv_iconst (v := 4) hx hb d_Machine_accept_4 (by decide) ?_
  refine W.eq (g2 := F0 m 5 ls [.int (Int32.ofNat 4), .ref (ad 6)]) rfl ?_
  refine k_chl hx hb hK hP (n := 4) (by omega) d_Machine_accept_5 ?_
  refine W.eq (g2 := F0 m 6 ls [.ref (ad 18)]) rfl ?_
  refine k_gN (C := "ChannelMachine$Channel") (F := F_Channel) (N := 4) hx hb hts i_Channel hown hK hP 18 1 (by decide) (by decide) rfl (by decide) (d := (3, 16)) rfl (hU.1.2.1 _ kn_135) (fun _ h9 => h9) (v := va_rf (O 16)) rfl d_Machine_accept_6 ?_
  rcases hOx1 : O 16 with _ | x1
  · refine W.eq (g2 := F0 m 9 ls [.null]) rfl ?_
    refine lv_ifnullN (tgt := 26) hx hb d_Machine_accept_9 (by decide) ?_
    refine lv_aload_n hx hb d_Machine_accept_26 rfl (lv_at hl 0 rfl) ?_
    refine k_g (C := "ChannelMachine$Machine") (F := F_Machine) (N := 11) hx hb hts i_Machine hown hK hP 4 2 (by decide) (by decide) rfl (by decide) (d := (0, 7)) rfl (hts _ k_154) (fun _ h9 => h9) (v := .ref (ad 7)) rfl d_Machine_accept_27 ?_
    refine lv_iload_n hx hb d_Machine_accept_30 rfl (lv_at hl 1 rfl) ?_
    have hFc := y_free hD hS hA
    refine va_callv (va_runV (As := [.int vv]) (rest := []) ⟨hx, hb, hml, hown, hts⟩ (c_R_addLast7 l dC dI ar N0 z ad I T A O pl G C Gs qn sn cq cs (vv) s.heap.size (y_hs s.heap) hmi) (cwV 1 hts (x_goodV k_835 k_836 k_837 k_4 k_838) rfl rfl rfl (by decide +kernel) ⟨Nat.le_of_ble_eq_true rfl, Nat.le_of_ble_eq_true rfl⟩) ⟨y_blind, va_recv hK hP (ci := 4) (q0 := 7) rfl (y_W_ob (by decide) (by decide)), fun U9 hU9 hW9 => y_pre hU9 hW9 hP hD hU hZ hS hAN hN0⟩ rfl rfl hl.1 rfl (lv_room (Nat.le_of_ble_eq_true rfl)) d_Machine_accept_31 ⟨(by show 0 + (0) ≤ y_gc qn cq; omega), (by show 0 + (0) ≤ y_gs qn cq; omega)⟩) hS (fun q _ h => hFc q h) hFc (fun u t H1 locs ht hvm hw hB hz1 hk1 hS => ?_)
    obtain ⟨I2, T2, A2, O2, pl2, q2, s2, cq2, cs2⟩ := u
    dsimp only at hw hB
    rw [ht] at hB
    obtain ⟨hP, hD1, hac2⟩ := hB
    have hD : va_D Bq (y_W ad ar I2 T2 A2 O2 pl2) := hD1.weaken (fun _ q _ h => hFc q.1 h)
    generalize H1 = H at hP hS hac2 ⊢
    refine W.widen (k := 0) (n := 0) (by omega) (by omega) ?_
    obtain ⟨hmi, hbd2, fr2⟩ := hw
    have hb2 := hbd2
    unfold y_bd at hb2
    unfold y_ac at hac2
    dsimp only at hb2 hac2
    refine y_know (fun hy91 hy92 hy93 hy94 => ?_)
    have hac9 : y_ac (cq + cs) s.heap.size (y_hs s.heap) (cq2 + cs2) H := ⟨by omega, by omega⟩
    refine W.widen (k := y_gc qn cq) (n := y_gs qn cq) (by omega) (by omega) ?_
    exact W.vret hx hb hr (fun t ht hW => ⟨⟨(I2, T2, A2, O2, pl2, (q2, s2, cq2, cs2)), rfl, ⟨hmi, (y_bd.tr hbd2 (y_bd.rf (a := 0) (b := 0)) (e := 1) (g := 0) (by decide) (by decide)), (m_fr.rf.tr fr2 (by decide))⟩, (by dsimp only; rw [ht]; exact ⟨hP, hD, hac9⟩)⟩, hS.F ht⟩) hS.2.2 d_Machine_accept_34
  · refine W.eq (g2 := F0 m 9 ls [.ref x1]) rfl ?_
    have hx1 : G x1 = 8 := (hmi.2.2.2.2.2.1 4 (by omega)).2.1 x1 hOx1
    refine lv_ifnull hx hb d_Machine_accept_9 ?_
    refine lv_aload_n hx hb d_Machine_accept_12 rfl (lv_at hl 0 rfl) ?_
    refine lv_aload_n hx hb d_Machine_accept_13 rfl (lv_at hl 0 rfl) ?_
    refine k_g (C := "ChannelMachine$Machine") (F := F_Machine) (N := 11) hx hb hts i_Machine hown hK hP 4 1 (by decide) (by decide) rfl (by decide) (d := (0, 6)) rfl (hts _ k_152) (fun _ h9 => h9) (v := .ref (ad 6)) rfl d_Machine_accept_14 ?_
    refine lv_iconst (v := 4) hx hb d_Machine_accept_17 (by decide) ?_
    refine W.eq (g2 := F0 m 18 ls [.int (Int32.ofNat 4), .ref (ad 6), .ref (ad 4)]) rfl ?_
    refine k_chl hx hb hK hP (n := 4) (by omega) d_Machine_accept_18 ?_
    refine W.eq (g2 := F0 m 19 ls [.ref (ad 18), .ref (ad 4)]) rfl ?_
    refine lv_iload_n hx hb d_Machine_accept_19 rfl (lv_at hl 1 rfl) ?_
    have hgg3 := y_gg qn cq
    refine y_know (fun hya1 hya2 hya3 hya4 => ?_)
    have hFc := y_free hD hS hA
    refine va_callv (va_runV (As := [.ref (ad 18), .int vv]) (rest := []) ⟨hx, hb, hml, hown, hts⟩ (c_M_deliver l dC dI ar N0 z ad I T A O pl G C Gs qn sn cq cs 4 x1 (vv) s.heap.size (y_hs s.heap) hmi (by omega) hOx1 (by omega)) (cwV 2 hts (x_goodV k_839 k_841 kp_37 k_3 k_842) rfl rfl rfl (by decide +kernel) ⟨Nat.le_of_ble_eq_true rfl, Nat.le_of_ble_eq_true rfl⟩) ⟨y_blind, va_recv hK hP (ci := 2) (q0 := 4) rfl (y_W_ob (by decide) (by decide)), fun U9 hU9 hW9 => y_pre hU9 hW9 hP hD hU hZ hS hAN hN0⟩ rfl rfl hl.1 rfl (lv_room (Nat.le_of_ble_eq_true rfl)) d_Machine_accept_20 ⟨(by show 0 + (y_gc qn cq) ≤ y_gc qn cq; omega), (by show 0 + (y_gs qn cq) ≤ y_gs qn cq; omega)⟩) hS (fun q _ h => hFc q h) hFc (fun u t H1 locs ht hvm hw hB hz1 hk1 hS => ?_)
    obtain ⟨I4, T4, A4, O4, pl4, q4, s4, cq4, cs4⟩ := u
    dsimp only at hw hB
    rw [ht] at hB
    obtain ⟨hP, hD1, hac4⟩ := hB
    have hD : va_D Bq (y_W ad ar I4 T4 A4 O4 pl4) := hD1.weaken (fun _ q _ h => hFc q.1 h)
    generalize H1 = H at hP hS hac4 ⊢
    obtain ⟨hmi, hbd4, fr4⟩ := hw
    unfold y_ac at hac4
    have hb4 := hbd4
    unfold y_bd at hb4
    dsimp only at hb4 hac4
    refine lv_goto (tgt := 34) hx hb d_Machine_accept_23 (by decide) ?_
    refine y_know (fun hy91 hy92 hy93 hy94 => ?_)
    have hac9 : y_ac (cq + cs) s.heap.size (y_hs s.heap) (cq4 + cs4) H := ⟨by omega, by omega⟩
    refine W.widen (k := y_gc qn cq) (n := y_gs qn cq) (by omega) (by omega) ?_
    exact W.vret hx hb hr (fun t ht hW => ⟨⟨(I4, T4, A4, O4, pl4, (q4, s4, cq4, cs4)), rfl, ⟨hmi, (y_bd.tr hbd4 (y_bd.rf (a := 0) (b := 0)) (e := 1) (g := 0) (by decide) (by decide)), (m_fr.rf.tr fr4 (by decide))⟩, (by dsimp only; rw [ht]; exact ⟨hP, hD, hac9⟩)⟩, hS.F ht⟩) hS.2.2 d_Machine_accept_34
set_option maxHeartbeats 4000000 in
set_option maxRecDepth 100000 in
theorem c_M_handOut (l : Launch) (dC : Nat → ClassId) (dI : Nat → Nat → Nat) (ar : Nat → ClassId) (N0 : Nat) (z : Nat → Nat) (ad : Nat → Nat) (I : Nat → Int32) (T : Int64) (A : Nat → Nat → Int32) (O : Nat → Option Nat) (pl : va_W) (G : Nat → Nat) (C Gs : Nat → List Nat) (qn sn cq cs : Nat) (sz w0 : Nat) (hmi : y_MI z ar G C Gs I O (y_L pl) (qn, sn, cq, cs)) (hlim : qn ≤ 20000000) : Met l ({ cls := "ChannelMachine$Machine", name := "handOut", desc := "()I" } : Jvm.MethodName) ((Jvm.Cond.code ({ cls := "ChannelMachine$Machine", name := "handOut", desc := "()I" } : Jvm.MethodName) prog_6_method_29_code (3 : Nat) (Option.some Jvm.ClassFile.FieldType.int)) :: x_T) ({ frames := 8, cells := y_gc qn cq, slots := y_gs qn cq, locals := 212 }) (y_Pc (dC, dI) ar N0 z (y_W ad ar I T A O pl) sz w0 [.ref (ad 4)]) (va_Qi (fun (r : Int32) (u : (Nat → Int32) × Int64 × (Nat → Nat → Int32) × (Nat → Option Nat) × va_W × (Nat × Nat × Nat × Nat)) => y_MI z ar G C Gs u.1 u.2.2.2.1 (y_L u.2.2.2.2.1) u.2.2.2.2.2 ∧ y_bd (qn, sn, cq, cs) u.2.2.2.2.2 1 0 ∧ m_fr [10, 11, 12, 13, 14, 15] I u.1) (fun u t => va_P (dC, dI) y_cl (y_W ad ar u.1 u.2.1 u.2.2.1 u.2.2.2.1 u.2.2.2.2.1) t.heap ∧ va_D (va_A (y_W ad ar I T A O pl) sz) (y_W ad ar u.1 u.2.1 u.2.2.1 u.2.2.2.1 u.2.2.2.2.1) ∧ y_ac (cq + cs) sz w0 (u.2.2.2.2.2.2.2.1 + u.2.2.2.2.2.2.2.2) t.heap) (va_A (y_W ad ar I T A O pl) sz)) (y_gc qn cq) (y_gs qn cq) (va_A (y_W ad ar I T A O pl) sz) := by
  refine Met.ofW (cc := prog_6_method_29_code) (maxL := 3) (ret := (some .int)) (by decide) rfl ?_
  intro p e s m args below meth c s₁ B hml hv
  obtain ⟨rfl, hsz, hN0, hP, hU, hZ, hD0, hw0⟩ := hv
  have hK := hU.2.1
  have hx := B.exec
  have hb := B.bytes
  have hr := B.returns
  have hts : ∀ w ∈ x_T, w.before ([.ref (ad 4)] : List Value).toArray s = true := fun w h => atoms_spec (ws := (Jvm.Cond.code ({ cls := "ChannelMachine$Machine", name := "handOut", desc := "()I" } : Jvm.MethodName) prog_6_method_29_code (3 : Nat) (Option.some Jvm.ClassFile.FieldType.int)) :: x_T) B.pre w (List.mem_cons_of_mem _ h)
  have hown : s.vm.findClass "ChannelMachine$Machine" = some m.cls := findClass_of_methodNamed B.named
  have hlocks := B.notSynchronized
  subst hsz
  subst hw0
  have hD := hD0.self (sz := s.heap.size)
  have hAN := x_AN hD0 hN0
  generalize hAe : va_A (y_W ad ar I T A O pl) s.heap.size = Bq at hD hAN ⊢
  have hA : ∀ q : Nat, s.heap.size ≤ q → Bq q := fun q h => by rw [← hAe]; exact Or.inr h
  have hS : va_S Bq s.heap s.heap [] := va_S.rf
  have hl := lv_entry ([.ref (ad 4)]) (n := 3) (Nat.le_of_ble_eq_true rfl)
  rw [lg_entry_eq]
  generalize (lg_sl ([.ref (ad 4)]) ++ List.replicate (3 - (lg_sl ([.ref (ad 4)])).length) Slot.unset).toArray = ls at hl ⊢
  have hl : lv_has ls 3 [(0, .ref (ad 4))] := hl
  have hle := y_LS.le hmi.2.1.2
  dsimp only at hle
  have hcap := hmi.2.2.2.2.1
  dsimp only at hcap
  have hgg := y_gg qn cq
  refine lv_aload_n hx hb d_Machine_handOut_0 rfl (lv_at hl 0 rfl) ?_
  refine k_g (C := "ChannelMachine$Machine") (F := F_Machine) (N := 11) hx hb hts i_Machine hown hK hP 4 3 (by decide) (by decide) rfl (by decide) (d := (0, 9)) rfl (hts _ k_156) (fun _ h9 => h9) (v := .ref (ad 9)) rfl d_Machine_handOut_1 ?_
  have hFc := y_free hD hS hA
  refine va_calli (va_runV (As := []) (rest := []) ⟨hx, hb, hml, hown, hts⟩ (c_R_removeFirst9 l dC dI ar N0 z ad I T A O pl G C Gs qn sn cq cs s.heap.size (y_hs s.heap) hmi) (cwV 0 hts (x_goodV k_862 k_863 k_864 k_4 k_865) rfl rfl rfl (by decide +kernel) ⟨Nat.le_of_ble_eq_true rfl, Nat.le_of_ble_eq_true rfl⟩) ⟨y_blind, va_recv hK hP (ci := 4) (q0 := 9) rfl (y_W_ob (by decide) (by decide)), fun U9 hU9 hW9 => y_pre hU9 hW9 hP hD hU hZ hS hAN hN0⟩ rfl rfl hl.1 rfl (lv_room (Nat.le_of_ble_eq_true rfl)) d_Machine_handOut_4 ⟨(by show 0 + (0) ≤ y_gc qn cq; omega), (by show 0 + (0) ≤ y_gs qn cq; omega)⟩) hS (fun q _ h => hFc q h) hFc (fun r_1 u t H1 locs ht hvm hw hB hz1 hk1 hS => ?_)
  obtain ⟨I2, T2, A2, O2, pl2, q2, s2, cq2, cs2⟩ := u
  dsimp only at hw hB
  rw [ht] at hB
  obtain ⟨hP, hD1, hac2⟩ := hB
  have hD : va_D Bq (y_W ad ar I2 T2 A2 O2 pl2) := hD1.weaken (fun _ q _ h => hFc q.1 h)
  generalize H1 = H at hP hS hac2 ⊢
  refine W.widen (k := 0) (n := 0) (by omega) (by omega) ?_
  obtain ⟨hmi, hbd2, fr2⟩ := hw
  have hb2 := hbd2
  unfold y_bd at hb2
  unfold y_ac at hac2
  dsimp only at hb2 hac2
  refine lv_istore_n (lv' := [(1, .int r_1), (0, .ref (ad 4))]) hx hb d_Machine_handOut_7 rfl hl (by decide) rfl (fun ls hl => ?_)
  refine lv_aload_n hx hb d_Machine_handOut_8 rfl (lv_at hl 1 rfl) ?_
  refine k_g (C := "ChannelMachine$Machine") (F := F_Machine) (N := 11) hx hb hts i_Machine hown hK hP 4 1 (by decide) (by decide) rfl (by decide) (d := (0, 6)) rfl (hts _ k_152) (fun _ h9 => h9) (v := .ref (ad 6)) rfl d_Machine_handOut_9 ?_
  refine lv_iconst (v := 5) hx hb d_Machine_handOut_12 (by decide) ?_
  refine W.eq (g2 := F0 m 13 ls [.int (Int32.ofNat 5), .ref (ad 6)]) rfl ?_
  refine k_chl hx hb hK hP (n := 5) (by omega) d_Machine_handOut_13 ?_
  refine W.eq (g2 := F0 m 14 ls [.ref (ad 19)]) rfl ?_
  refine k_gN (C := "ChannelMachine$Channel") (F := F_Channel) (N := 4) hx hb hts i_Channel hown hK hP 19 0 (by decide) (by decide) rfl (by decide) (d := (3, 18)) rfl (hU.1.2.1 _ kn_132) (fun _ h9 => h9) (v := va_rf (O2 18)) rfl d_Machine_handOut_14 ?_
  rcases hOx3 : O2 18 with _ | x3
  · refine W.eq (g2 := F0 m 17 ls [.null]) rfl ?_
    refine lv_astore_nN (lv' := [(2, .null), (1, .int r_1), (0, .ref (ad 4))]) hx hb d_Machine_handOut_17 rfl hl (by decide) rfl (fun ls hl => ?_)
    refine lv_aload_nN hx hb d_Machine_handOut_18 rfl (lv_at hl 0 rfl) ?_
    refine lv_ifnullN (tgt := 48) hx hb d_Machine_handOut_19 (by decide) ?_
    refine lv_iload_n hx hb d_Machine_handOut_48 rfl (lv_at hl 1 rfl) ?_
    refine y_know (fun hy91 hy92 hy93 hy94 => ?_)
    have hac9 : y_ac (cq + cs) s.heap.size (y_hs s.heap) (cq2 + cs2) H := ⟨by omega, by omega⟩
    refine W.widen (k := y_gc qn cq) (n := y_gs qn cq) (by omega) (by omega) ?_
    exact W.iret (v := r_1) hx hb hr (fun t ht hW => ⟨⟨r_1, (I2, T2, A2, O2, pl2, (q2, s2, cq2, cs2)), rfl, ⟨hmi, (y_bd.tr hbd2 (y_bd.rf (a := 0) (b := 0)) (e := 1) (g := 0) (by decide) (by decide)), (m_fr.rf.tr fr2 (by decide))⟩, (by dsimp only; rw [ht]; exact ⟨hP, hD, hac9⟩)⟩, hS.F ht⟩) hS.2.2 d_Machine_handOut_49
  · refine W.eq (g2 := F0 m 17 ls [.ref x3]) rfl ?_
    have hx3 : G x3 = 8 := (hmi.2.2.2.2.2.1 5 (by omega)).1 x3 hOx3
    refine lv_astore_n (lv' := [(2, .ref x3), (1, .int r_1), (0, .ref (ad 4))]) hx hb d_Machine_handOut_17 rfl hl (by decide) rfl (fun ls hl => ?_)
    refine lv_aload_n hx hb d_Machine_handOut_18 rfl (lv_at hl 0 rfl) ?_
    refine lv_ifnull hx hb d_Machine_handOut_19 ?_
    refine lv_aload_n hx hb d_Machine_handOut_22 rfl (lv_at hl 2 rfl) ?_
    refine k_g (C := "ChannelMachine$Machine") (F := F_Machine) (N := 11) hx hb hts i_Machine hown hK hP 4 1 (by decide) (by decide) rfl (by decide) (d := (0, 6)) rfl (hts _ k_152) (fun _ h9 => h9) (v := .ref (ad 6)) rfl d_Machine_handOut_23 ?_
    refine lv_iconst (v := 5) hx hb d_Machine_handOut_26 (by decide) ?_
    refine W.eq (g2 := F0 m 27 ls [.int (Int32.ofNat 5), .ref (ad 6)]) rfl ?_
    refine k_chl hx hb hK hP (n := 5) (by omega) d_Machine_handOut_27 ?_
    refine W.eq (g2 := F0 m 28 ls [.ref (ad 19)]) rfl ?_
    refine lv_null hx hb d_Machine_handOut_28 ?_
    refine k_poN (C := "ChannelMachine$Channel") (F := F_Channel) (N := 4) hx hb hts i_Channel hown t_Channel t_Channel_ok n_Channel hK hP hD hS 19 0 (by decide) (by decide) rfl (by decide) (j := 18) (x := none) (ty := (.object "ChannelMachine$Task")) rfl (hU.1.2.1 _ kn_132) (fun _ h9 => h9) rfl (by decide +kernel) rfl rfl d_Machine_handOut_29 (fun H locs hP hD hS => ?_)
    have hmi : y_MI z ar G C Gs I2 (y_up O2 18 none) (y_L pl2) (q2, s2, cq2, cs2) := hmi.snd (c := 5) (by omega) (fun a ha => nomatch ha)
    refine lv_aload_n hx hb d_Machine_handOut_32 rfl (lv_at hl 2 rfl) ?_
    refine k_g (C := "ChannelMachine$Machine") (F := F_Machine) (N := 11) hx hb hts i_Machine hown hK hP 4 3 (by decide) (by decide) rfl (by decide) (d := (0, 9)) rfl (hts _ k_156) (fun _ h9 => h9) (v := .ref (ad 9)) rfl d_Machine_handOut_33 ?_
    refine lv_aload_n hx hb d_Machine_handOut_36 rfl (lv_at hl 0 rfl) ?_
    obtain ⟨w4, m4, a4, b4, r4, v4, u4, hf4, hw4, hm4, ha4⟩ := hmi.1.2.1 x3 hx3
    refine d_gN (C := "ChannelMachine$Task") (F := F_Task) (N := 7) hx hb hts i_Task hown hK hP hf4 5 rfl (by decide) (hU.1.2.1 _ kn_459) (fun _ h9 => h9) (v := .int v4) rfl d_Machine_handOut_37 ?_
    have hFc := y_free hD hS hA
    refine va_callv (va_runV (As := [.int v4]) (rest := []) ⟨hx, hb, hml, hown, hts⟩ (c_R_addLast9 l dC dI ar N0 z ad I2 T2 A2 (y_up O2 18 none) pl2 G C Gs q2 s2 cq2 cs2 (v4) H.size (y_hs H) hmi) (cwV 1 hts (x_goodV k_835 k_836 k_837 k_4 k_838) rfl rfl rfl (by decide +kernel) ⟨Nat.le_of_ble_eq_true rfl, Nat.le_of_ble_eq_true rfl⟩) ⟨y_blind, va_recv hK hP (ci := 4) (q0 := 9) rfl (y_W_ob (by decide) (by decide)), fun U9 hU9 hW9 => y_pre hU9 hW9 hP hD hU hZ hS hAN hN0⟩ rfl rfl hl.1 rfl (lv_room (Nat.le_of_ble_eq_true rfl)) d_Machine_handOut_40 ⟨(by show 0 + (0) ≤ y_gc qn cq; omega), (by show 0 + (0) ≤ y_gs qn cq; omega)⟩) hS (fun q _ h => hFc q h) hFc (fun u t H1 locs ht hvm hw hB hz1 hk1 hS => ?_)
    obtain ⟨I5, T5, A5, O5, pl5, q5, s5, cq5, cs5⟩ := u
    dsimp only at hw hB
    rw [ht] at hB
    obtain ⟨hP, hD1, hac5⟩ := hB
    have hD : va_D Bq (y_W ad ar I5 T5 A5 O5 pl5) := hD1.weaken (fun _ q _ h => hFc q.1 h)
    generalize H1 = H at hP hS hac5 ⊢
    refine W.widen (k := 0) (n := 0) (by omega) (by omega) ?_
    obtain ⟨hmi, hbd5, fr5⟩ := hw
    have hb5 := hbd5
    unfold y_bd at hb5
    unfold y_ac at hac5
    dsimp only at hb5 hac5
    refine lv_aload_n hx hb d_Machine_handOut_43 rfl (lv_at hl 2 rfl) ?_
    refine lv_aload_n hx hb d_Machine_handOut_44 rfl (lv_at hl 0 rfl) ?_
    have hgg6 := y_gg q5 cq5
    refine y_know (fun hya1 hya2 hya3 hya4 => ?_)
    have hFc := y_free hD hS hA
    refine va_callv (va_runV (As := [.ref x3]) (rest := []) ⟨hx, hb, hml, hown, hts⟩ (c_M_resume l dC dI ar N0 z ad I5 T5 A5 O5 pl5 G C Gs q5 s5 cq5 cs5 x3 H.size (y_hs H) hmi hx3 (by omega)) (cwV 1 hts (x_goodV k_773 k_775 kp_28 k_3 k_776) rfl rfl rfl (by decide +kernel) ⟨Nat.le_of_ble_eq_true rfl, Nat.le_of_ble_eq_true rfl⟩) ⟨y_blind, va_recv hK hP (ci := 2) (q0 := 4) rfl (y_W_ob (by decide) (by decide)), fun U9 hU9 hW9 => y_pre hU9 hW9 hP hD hU hZ hS hAN hN0⟩ rfl rfl hl.1 rfl (lv_room (Nat.le_of_ble_eq_true rfl)) d_Machine_handOut_45 ⟨(by show 0 + (y_gc q5 cq5) ≤ y_gc qn cq; omega), (by show 0 + (y_gs q5 cq5) ≤ y_gs qn cq; omega)⟩) hS (fun q _ h => hFc q h) hFc (fun u t H1 locs ht hvm hw hB hz1 hk1 hS => ?_)
    obtain ⟨I7, T7, A7, O7, pl7, q7, s7, cq7, cs7⟩ := u
    dsimp only at hw hB
    rw [ht] at hB
    obtain ⟨hP, hD1, hac7⟩ := hB
    have hD : va_D Bq (y_W ad ar I7 T7 A7 O7 pl7) := hD1.weaken (fun _ q _ h => hFc q.1 h)
    generalize H1 = H at hP hS hac7 ⊢
    obtain ⟨hmi, hbd7, fr7⟩ := hw
    unfold y_ac at hac7
    have hb7 := hbd7
    unfold y_bd at hb7
    dsimp only at hb7 hac7
    refine lv_iload_n hx hb d_Machine_handOut_48 rfl (lv_at hl 1 rfl) ?_
    refine y_know (fun hy91 hy92 hy93 hy94 => ?_)
    have hac9 : y_ac (cq + cs) s.heap.size (y_hs s.heap) (cq7 + cs7) H := ⟨by omega, by omega⟩
    refine W.widen (k := y_gc qn cq) (n := y_gs qn cq) (by omega) (by omega) ?_
    exact W.iret (v := r_1) hx hb hr (fun t ht hW => ⟨⟨r_1, (I7, T7, A7, O7, pl7, (q7, s7, cq7, cs7)), rfl, ⟨hmi, (y_bd.tr (y_bd.tr (y_bd.tr hbd2 hbd5 (e := 0) (g := 0) (by decide) (by decide)) hbd7 (e := 1) (g := 0) (by decide) (by decide)) (y_bd.rf (a := 0) (b := 0)) (e := 1) (g := 0) (by decide) (by decide)), (((m_fr.rf.tr fr2 (by decide)).tr fr5 (by decide)).tr fr7 (by decide))⟩, (by dsimp only; rw [ht]; exact ⟨hP, hD, hac9⟩)⟩, hS.F ht⟩) hS.2.2 d_Machine_handOut_49
