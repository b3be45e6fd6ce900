-- ===== 55.chan: ready, input, await, hand, due of the reference, by program =====
theorem k_990 : (Jvm.Cond.fieldLink "ChannelMachineModel" (60 : Nat) "ChannelMachineModel" "order" "[I") ∈ x_T := x_at 990 (by decide +kernel) (by decide +kernel)
theorem k_993 : (Jvm.Cond.fieldLink "ChannelMachineModel" (69 : Nat) "ChannelMachineModel" "until" "[J") ∈ x_T := x_at 993 (by decide +kernel) (by decide +kernel)
theorem k_1001 : (Jvm.Cond.fieldLink "ChannelMachineModel" (204 : Nat) "ChannelMachineModel" "time" "J") ∈ x_T := x_at 1001 (by decide +kernel) (by decide +kernel)
theorem k_1002 : (Jvm.Cond.fieldLink "ChannelMachineModel" (82 : Nat) "ChannelMachineModel" "reader" "[I") ∈ x_T := x_at 1002 (by decide +kernel) (by decide +kernel)
theorem k_1003 : (Jvm.Cond.fieldLink "ChannelMachineModel" (85 : Nat) "ChannelMachineModel" "into" "[I") ∈ x_T := x_at 1003 (by decide +kernel) (by decide +kernel)
theorem k_1004 : (Jvm.Cond.fieldLink "ChannelMachineModel" (88 : Nat) "ChannelMachineModel" "then" "[I") ∈ x_T := x_at 1004 (by decide +kernel) (by decide +kernel)
theorem k_1005 : (Jvm.Cond.fieldLink "ChannelMachineModel" (91 : Nat) "ChannelMachineModel" "writer" "[I") ∈ x_T := x_at 1005 (by decide +kernel) (by decide +kernel)
theorem k_1006 : (Jvm.Cond.fieldLink "ChannelMachineModel" (94 : Nat) "ChannelMachineModel" "offered" "[I") ∈ x_T := x_at 1006 (by decide +kernel) (by decide +kernel)
theorem k_1007 : (Jvm.Cond.fieldLink "ChannelMachineModel" (97 : Nat) "ChannelMachineModel" "gifts" "[I") ∈ x_T := x_at 1007 (by decide +kernel) (by decide +kernel)
theorem k_1009 : (Jvm.Cond.fieldLink "ChannelMachineModel" (198 : Nat) "ChannelMachineModel" "given" "I") ∈ x_T := x_at 1009 (by decide +kernel) (by decide +kernel)
theorem d_Mo_ready_0 : decode prog_12_method_33_code 0 = .ok (.iload_n 1, 1) := by decide +kernel
theorem d_Mo_ready_1 : decode prog_12_method_33_code 1 = .ok (.ifCond .lt 27, 3) := by decide +kernel
theorem d_Mo_ready_4 : decode prog_12_method_33_code 4 = .ok (.iload_n 1, 1) := by decide +kernel
theorem d_Mo_ready_5 : decode prog_12_method_33_code 5 = .ok (.iconst 4, 1) := by decide +kernel
theorem d_Mo_ready_6 : decode prog_12_method_33_code 6 = .ok (.if_icmp .ne 13, 3) := by decide +kernel
theorem d_Mo_ready_9 : decode prog_12_method_33_code 9 = .ok (.aload_n 0, 1) := by decide +kernel
theorem d_Mo_ready_10 : decode prog_12_method_33_code 10 = .ok (.getfield 198, 3) := by decide +kernel
theorem d_Mo_ready_13 : decode prog_12_method_33_code 13 = .ok (.ifCond .le 19, 3) := by decide +kernel
theorem d_Mo_ready_16 : decode prog_12_method_33_code 16 = .ok (.goto 12, 3) := by decide +kernel
theorem d_Mo_ready_19 : decode prog_12_method_33_code 19 = .ok (.aload_n 0, 1) := by decide +kernel
theorem d_Mo_ready_20 : decode prog_12_method_33_code 20 = .ok (.getfield 91, 3) := by decide +kernel
theorem d_Mo_ready_23 : decode prog_12_method_33_code 23 = .ok (.iload_n 1, 1) := by decide +kernel
theorem d_Mo_ready_24 : decode prog_12_method_33_code 24 = .ok (.iaload, 1) := by decide +kernel
theorem d_Mo_ready_25 : decode prog_12_method_33_code 25 = .ok (.ifCond .lt 7, 3) := by decide +kernel
theorem d_Mo_ready_28 : decode prog_12_method_33_code 28 = .ok (.iconst 1, 1) := by decide +kernel
theorem d_Mo_ready_29 : decode prog_12_method_33_code 29 = .ok (.goto 4, 3) := by decide +kernel
theorem d_Mo_ready_32 : decode prog_12_method_33_code 32 = .ok (.iconst 0, 1) := by decide +kernel
theorem d_Mo_ready_33 : decode prog_12_method_33_code 33 = .ok (.ireturn, 1) := by decide +kernel
theorem d_Mo_input_0 : decode prog_12_method_34_code 0 = .ok (.iload_n 1, 1) := by decide +kernel
theorem d_Mo_input_1 : decode prog_12_method_34_code 1 = .ok (.iconst 4, 1) := by decide +kernel
theorem d_Mo_input_2 : decode prog_12_method_34_code 2 = .ok (.if_icmp .ne 31, 3) := by decide +kernel
theorem d_Mo_input_5 : decode prog_12_method_34_code 5 = .ok (.aload_n 0, 1) := by decide +kernel
theorem d_Mo_input_6 : decode prog_12_method_34_code 6 = .ok (.getfield 19, 3) := by decide +kernel
theorem d_Mo_input_9 : decode prog_12_method_34_code 9 = .ok (.iload_n 2, 1) := by decide +kernel
theorem d_Mo_input_10 : decode prog_12_method_34_code 10 = .ok (.aload_n 0, 1) := by decide +kernel
theorem d_Mo_input_11 : decode prog_12_method_34_code 11 = .ok (.getfield 97, 3) := by decide +kernel
theorem d_Mo_input_14 : decode prog_12_method_34_code 14 = .ok (.aload_n 0, 1) := by decide +kernel
theorem d_Mo_input_15 : decode prog_12_method_34_code 15 = .ok (.getfield 198, 3) := by decide +kernel
theorem d_Mo_input_18 : decode prog_12_method_34_code 18 = .ok (.invokestatic 217, 3) := by decide +kernel
theorem d_Mo_input_21 : decode prog_12_method_34_code 21 = .ok (.iastore, 1) := by decide +kernel
theorem d_Mo_input_22 : decode prog_12_method_34_code 22 = .ok (.aload_n 0, 1) := by decide +kernel
theorem d_Mo_input_23 : decode prog_12_method_34_code 23 = .ok (.dup, 1) := by decide +kernel
theorem d_Mo_input_24 : decode prog_12_method_34_code 24 = .ok (.getfield 198, 3) := by decide +kernel
theorem d_Mo_input_27 : decode prog_12_method_34_code 27 = .ok (.iconst 1, 1) := by decide +kernel
theorem d_Mo_input_28 : decode prog_12_method_34_code 28 = .ok (.isub, 1) := by decide +kernel
theorem d_Mo_input_29 : decode prog_12_method_34_code 29 = .ok (.putfield 198, 3) := by decide +kernel
theorem d_Mo_input_32 : decode prog_12_method_34_code 32 = .ok (.return_, 1) := by decide +kernel
theorem d_Mo_input_33 : decode prog_12_method_34_code 33 = .ok (.aload_n 0, 1) := by decide +kernel
theorem d_Mo_input_34 : decode prog_12_method_34_code 34 = .ok (.getfield 19, 3) := by decide +kernel
theorem d_Mo_input_37 : decode prog_12_method_34_code 37 = .ok (.iload_n 2, 1) := by decide +kernel
theorem d_Mo_input_38 : decode prog_12_method_34_code 38 = .ok (.aload_n 0, 1) := by decide +kernel
theorem d_Mo_input_39 : decode prog_12_method_34_code 39 = .ok (.getfield 94, 3) := by decide +kernel
theorem d_Mo_input_42 : decode prog_12_method_34_code 42 = .ok (.iload_n 1, 1) := by decide +kernel
theorem d_Mo_input_43 : decode prog_12_method_34_code 43 = .ok (.iaload, 1) := by decide +kernel
theorem d_Mo_input_44 : decode prog_12_method_34_code 44 = .ok (.iastore, 1) := by decide +kernel
theorem d_Mo_input_45 : decode prog_12_method_34_code 45 = .ok (.aload_n 0, 1) := by decide +kernel
theorem d_Mo_input_46 : decode prog_12_method_34_code 46 = .ok (.aload_n 0, 1) := by decide +kernel
theorem d_Mo_input_47 : decode prog_12_method_34_code 47 = .ok (.getfield 91, 3) := by decide +kernel
theorem d_Mo_input_50 : decode prog_12_method_34_code 50 = .ok (.iload_n 1, 1) := by decide +kernel
theorem d_Mo_input_51 : decode prog_12_method_34_code 51 = .ok (.iaload, 1) := by decide +kernel
theorem d_Mo_input_52 : decode prog_12_method_34_code 52 = .ok (.invokevirtual 214, 3) := by decide +kernel
theorem d_Mo_input_55 : decode prog_12_method_34_code 55 = .ok (.aload_n 0, 1) := by decide +kernel
theorem d_Mo_input_56 : decode prog_12_method_34_code 56 = .ok (.getfield 91, 3) := by decide +kernel
theorem d_Mo_input_59 : decode prog_12_method_34_code 59 = .ok (.iload_n 1, 1) := by decide +kernel
theorem d_Mo_input_60 : decode prog_12_method_34_code 60 = .ok (.iconst (-1), 1) := by decide +kernel
theorem d_Mo_input_61 : decode prog_12_method_34_code 61 = .ok (.iastore, 1) := by decide +kernel
theorem d_Mo_input_62 : decode prog_12_method_34_code 62 = .ok (.return_, 1) := by decide +kernel
theorem d_Mo_await_0 : decode prog_12_method_35_code 0 = .ok (.aload_n 0, 1) := by decide +kernel
theorem d_Mo_await_1 : decode prog_12_method_35_code 1 = .ok (.getfield 82, 3) := by decide +kernel
theorem d_Mo_await_4 : decode prog_12_method_35_code 4 = .ok (.iload_n 1, 1) := by decide +kernel
theorem d_Mo_await_5 : decode prog_12_method_35_code 5 = .ok (.iaload, 1) := by decide +kernel
theorem d_Mo_await_6 : decode prog_12_method_35_code 6 = .ok (.ifCond .lt 18, 3) := by decide +kernel
theorem d_Mo_await_9 : decode prog_12_method_35_code 9 = .ok (.aload_n 0, 1) := by decide +kernel
theorem d_Mo_await_10 : decode prog_12_method_35_code 10 = .ok (.getfield 82, 3) := by decide +kernel
theorem d_Mo_await_13 : decode prog_12_method_35_code 13 = .ok (.iload_n 1, 1) := by decide +kernel
theorem d_Mo_await_14 : decode prog_12_method_35_code 14 = .ok (.iaload, 1) := by decide +kernel
theorem d_Mo_await_15 : decode prog_12_method_35_code 15 = .ok (.iload_n 2, 1) := by decide +kernel
theorem d_Mo_await_16 : decode prog_12_method_35_code 16 = .ok (.if_icmp .eq 8, 3) := by decide +kernel
theorem d_Mo_await_19 : decode prog_12_method_35_code 19 = .ok (.aload_n 0, 1) := by decide +kernel
theorem d_Mo_await_20 : decode prog_12_method_35_code 20 = .ok (.iconst 2, 1) := by decide +kernel
theorem d_Mo_await_21 : decode prog_12_method_35_code 21 = .ok (.putfield 103, 3) := by decide +kernel
theorem d_Mo_await_24 : decode prog_12_method_35_code 24 = .ok (.aload_n 0, 1) := by decide +kernel
theorem d_Mo_await_25 : decode prog_12_method_35_code 25 = .ok (.getfield 82, 3) := by decide +kernel
theorem d_Mo_await_28 : decode prog_12_method_35_code 28 = .ok (.iload_n 1, 1) := by decide +kernel
theorem d_Mo_await_29 : decode prog_12_method_35_code 29 = .ok (.iaload, 1) := by decide +kernel
theorem d_Mo_await_30 : decode prog_12_method_35_code 30 = .ok (.ifCond .lt 4, 3) := by decide +kernel
theorem d_Mo_await_33 : decode prog_12_method_35_code 33 = .ok (.return_, 1) := by decide +kernel
theorem d_Mo_await_34 : decode prog_12_method_35_code 34 = .ok (.aload_n 0, 1) := by decide +kernel
theorem d_Mo_await_35 : decode prog_12_method_35_code 35 = .ok (.getfield 82, 3) := by decide +kernel
theorem d_Mo_await_38 : decode prog_12_method_35_code 38 = .ok (.iload_n 1, 1) := by decide +kernel
theorem d_Mo_await_39 : decode prog_12_method_35_code 39 = .ok (.iload_n 2, 1) := by decide +kernel
theorem d_Mo_await_40 : decode prog_12_method_35_code 40 = .ok (.iastore, 1) := by decide +kernel
theorem d_Mo_await_41 : decode prog_12_method_35_code 41 = .ok (.aload_n 0, 1) := by decide +kernel
theorem d_Mo_await_42 : decode prog_12_method_35_code 42 = .ok (.getfield 85, 3) := by decide +kernel
theorem d_Mo_await_45 : decode prog_12_method_35_code 45 = .ok (.iload_n 1, 1) := by decide +kernel
theorem d_Mo_await_46 : decode prog_12_method_35_code 46 = .ok (.iload_n 3, 1) := by decide +kernel
theorem d_Mo_await_47 : decode prog_12_method_35_code 47 = .ok (.iastore, 1) := by decide +kernel
theorem d_Mo_await_48 : decode prog_12_method_35_code 48 = .ok (.aload_n 0, 1) := by decide +kernel
theorem d_Mo_await_49 : decode prog_12_method_35_code 49 = .ok (.getfield 88, 3) := by decide +kernel
theorem d_Mo_await_52 : decode prog_12_method_35_code 52 = .ok (.iload_n 1, 1) := by decide +kernel
theorem d_Mo_await_53 : decode prog_12_method_35_code 53 = .ok (.iload 4, 2) := by decide +kernel
theorem d_Mo_await_55 : decode prog_12_method_35_code 55 = .ok (.iastore, 1) := by decide +kernel
theorem d_Mo_await_56 : decode prog_12_method_35_code 56 = .ok (.return_, 1) := by decide +kernel
theorem d_Mo_hand_0 : decode prog_12_method_36_code 0 = .ok (.aload_n 0, 1) := by decide +kernel
theorem d_Mo_hand_1 : decode prog_12_method_36_code 1 = .ok (.getfield 82, 3) := by decide +kernel
theorem d_Mo_hand_4 : decode prog_12_method_36_code 4 = .ok (.iload_n 1, 1) := by decide +kernel
theorem d_Mo_hand_5 : decode prog_12_method_36_code 5 = .ok (.iaload, 1) := by decide +kernel
theorem d_Mo_hand_6 : decode prog_12_method_36_code 6 = .ok (.istore_n 3, 1) := by decide +kernel
theorem d_Mo_hand_7 : decode prog_12_method_36_code 7 = .ok (.aload_n 0, 1) := by decide +kernel
theorem d_Mo_hand_8 : decode prog_12_method_36_code 8 = .ok (.getfield 19, 3) := by decide +kernel
theorem d_Mo_hand_11 : decode prog_12_method_36_code 11 = .ok (.aload_n 0, 1) := by decide +kernel
theorem d_Mo_hand_12 : decode prog_12_method_36_code 12 = .ok (.getfield 85, 3) := by decide +kernel
theorem d_Mo_hand_15 : decode prog_12_method_36_code 15 = .ok (.iload_n 1, 1) := by decide +kernel
theorem d_Mo_hand_16 : decode prog_12_method_36_code 16 = .ok (.iaload, 1) := by decide +kernel
theorem d_Mo_hand_17 : decode prog_12_method_36_code 17 = .ok (.iload_n 2, 1) := by decide +kernel
theorem d_Mo_hand_18 : decode prog_12_method_36_code 18 = .ok (.iastore, 1) := by decide +kernel
theorem d_Mo_hand_19 : decode prog_12_method_36_code 19 = .ok (.aload_n 0, 1) := by decide +kernel
theorem d_Mo_hand_20 : decode prog_12_method_36_code 20 = .ok (.getfield 51, 3) := by decide +kernel
theorem d_Mo_hand_23 : decode prog_12_method_36_code 23 = .ok (.iload_n 3, 1) := by decide +kernel
theorem d_Mo_hand_24 : decode prog_12_method_36_code 24 = .ok (.aload_n 0, 1) := by decide +kernel
theorem d_Mo_hand_25 : decode prog_12_method_36_code 25 = .ok (.getfield 88, 3) := by decide +kernel
theorem d_Mo_hand_28 : decode prog_12_method_36_code 28 = .ok (.iload_n 1, 1) := by decide +kernel
theorem d_Mo_hand_29 : decode prog_12_method_36_code 29 = .ok (.iaload, 1) := by decide +kernel
theorem d_Mo_hand_30 : decode prog_12_method_36_code 30 = .ok (.iastore, 1) := by decide +kernel
theorem d_Mo_hand_31 : decode prog_12_method_36_code 31 = .ok (.iconst 0, 1) := by decide +kernel
theorem d_Mo_hand_32 : decode prog_12_method_36_code 32 = .ok (.istore 4, 2) := by decide +kernel
theorem d_Mo_hand_34 : decode prog_12_method_36_code 34 = .ok (.iload 4, 2) := by decide +kernel
theorem d_Mo_hand_36 : decode prog_12_method_36_code 36 = .ok (.bipush 6, 2) := by decide +kernel
theorem d_Mo_hand_38 : decode prog_12_method_36_code 38 = .ok (.if_icmp .ge 28, 3) := by decide +kernel
theorem d_Mo_hand_41 : decode prog_12_method_36_code 41 = .ok (.aload_n 0, 1) := by decide +kernel
theorem d_Mo_hand_42 : decode prog_12_method_36_code 42 = .ok (.getfield 82, 3) := by decide +kernel
theorem d_Mo_hand_45 : decode prog_12_method_36_code 45 = .ok (.iload 4, 2) := by decide +kernel
theorem d_Mo_hand_47 : decode prog_12_method_36_code 47 = .ok (.iaload, 1) := by decide +kernel
theorem d_Mo_hand_48 : decode prog_12_method_36_code 48 = .ok (.iload_n 3, 1) := by decide +kernel
theorem d_Mo_hand_49 : decode prog_12_method_36_code 49 = .ok (.if_icmp .ne 11, 3) := by decide +kernel
theorem d_Mo_hand_52 : decode prog_12_method_36_code 52 = .ok (.aload_n 0, 1) := by decide +kernel
theorem d_Mo_hand_53 : decode prog_12_method_36_code 53 = .ok (.getfield 82, 3) := by decide +kernel
theorem d_Mo_hand_56 : decode prog_12_method_36_code 56 = .ok (.iload 4, 2) := by decide +kernel
theorem d_Mo_hand_58 : decode prog_12_method_36_code 58 = .ok (.iconst (-1), 1) := by decide +kernel
theorem d_Mo_hand_59 : decode prog_12_method_36_code 59 = .ok (.iastore, 1) := by decide +kernel
theorem d_Mo_hand_60 : decode prog_12_method_36_code 60 = .ok (.iinc 4 1, 3) := by decide +kernel
theorem d_Mo_hand_63 : decode prog_12_method_36_code 63 = .ok (.goto (-29), 3) := by decide +kernel
theorem d_Mo_hand_66 : decode prog_12_method_36_code 66 = .ok (.aload_n 0, 1) := by decide +kernel
theorem d_Mo_hand_67 : decode prog_12_method_36_code 67 = .ok (.iload_n 3, 1) := by decide +kernel
theorem d_Mo_hand_68 : decode prog_12_method_36_code 68 = .ok (.invokevirtual 214, 3) := by decide +kernel
theorem d_Mo_hand_71 : decode prog_12_method_36_code 71 = .ok (.return_, 1) := by decide +kernel
theorem d_Mo_due_0 : decode prog_12_method_30_code 0 = .ok (.iconst (-1), 1) := by decide +kernel
theorem d_Mo_due_1 : decode prog_12_method_30_code 1 = .ok (.istore_n 1, 1) := by decide +kernel
theorem d_Mo_due_2 : decode prog_12_method_30_code 2 = .ok (.iconst 0, 1) := by decide +kernel
theorem d_Mo_due_3 : decode prog_12_method_30_code 3 = .ok (.istore_n 2, 1) := by decide +kernel
theorem d_Mo_due_4 : decode prog_12_method_30_code 4 = .ok (.iload_n 2, 1) := by decide +kernel
theorem d_Mo_due_5 : decode prog_12_method_30_code 5 = .ok (.bipush 90, 2) := by decide +kernel
theorem d_Mo_due_7 : decode prog_12_method_30_code 7 = .ok (.if_icmp .ge 62, 3) := by decide +kernel
theorem d_Mo_due_10 : decode prog_12_method_30_code 10 = .ok (.aload_n 0, 1) := by decide +kernel
theorem d_Mo_due_11 : decode prog_12_method_30_code 11 = .ok (.getfield 73, 3) := by decide +kernel
theorem d_Mo_due_14 : decode prog_12_method_30_code 14 = .ok (.iload_n 2, 1) := by decide +kernel
theorem d_Mo_due_15 : decode prog_12_method_30_code 15 = .ok (.baload, 1) := by decide +kernel
theorem d_Mo_due_16 : decode prog_12_method_30_code 16 = .ok (.ifCond .eq 47, 3) := by decide +kernel
theorem d_Mo_due_19 : decode prog_12_method_30_code 19 = .ok (.aload_n 0, 1) := by decide +kernel
theorem d_Mo_due_20 : decode prog_12_method_30_code 20 = .ok (.getfield 76, 3) := by decide +kernel
theorem d_Mo_due_23 : decode prog_12_method_30_code 23 = .ok (.iload_n 2, 1) := by decide +kernel
theorem d_Mo_due_24 : decode prog_12_method_30_code 24 = .ok (.baload, 1) := by decide +kernel
theorem d_Mo_due_25 : decode prog_12_method_30_code 25 = .ok (.ifCond .eq 38, 3) := by decide +kernel
theorem d_Mo_due_28 : decode prog_12_method_30_code 28 = .ok (.aload_n 0, 1) := by decide +kernel
theorem d_Mo_due_29 : decode prog_12_method_30_code 29 = .ok (.getfield 69, 3) := by decide +kernel
theorem d_Mo_due_32 : decode prog_12_method_30_code 32 = .ok (.iload_n 2, 1) := by decide +kernel
theorem d_Mo_due_33 : decode prog_12_method_30_code 33 = .ok (.laload, 1) := by decide +kernel
theorem d_Mo_due_34 : decode prog_12_method_30_code 34 = .ok (.aload_n 0, 1) := by decide +kernel
theorem d_Mo_due_35 : decode prog_12_method_30_code 35 = .ok (.getfield 204, 3) := by decide +kernel
theorem d_Mo_due_38 : decode prog_12_method_30_code 38 = .ok (.lcmp, 1) := by decide +kernel
theorem d_Mo_due_39 : decode prog_12_method_30_code 39 = .ok (.ifCond .ne 24, 3) := by decide +kernel
theorem d_Mo_due_42 : decode prog_12_method_30_code 42 = .ok (.iload_n 1, 1) := by decide +kernel
theorem d_Mo_due_43 : decode prog_12_method_30_code 43 = .ok (.ifCond .lt 18, 3) := by decide +kernel
theorem d_Mo_due_46 : decode prog_12_method_30_code 46 = .ok (.aload_n 0, 1) := by decide +kernel
theorem d_Mo_due_47 : decode prog_12_method_30_code 47 = .ok (.getfield 60, 3) := by decide +kernel
theorem d_Mo_due_50 : decode prog_12_method_30_code 50 = .ok (.iload_n 2, 1) := by decide +kernel
theorem d_Mo_due_51 : decode prog_12_method_30_code 51 = .ok (.iaload, 1) := by decide +kernel
theorem d_Mo_due_52 : decode prog_12_method_30_code 52 = .ok (.aload_n 0, 1) := by decide +kernel
theorem d_Mo_due_53 : decode prog_12_method_30_code 53 = .ok (.getfield 60, 3) := by decide +kernel
theorem d_Mo_due_56 : decode prog_12_method_30_code 56 = .ok (.iload_n 1, 1) := by decide +kernel
theorem d_Mo_due_57 : decode prog_12_method_30_code 57 = .ok (.iaload, 1) := by decide +kernel
theorem d_Mo_due_58 : decode prog_12_method_30_code 58 = .ok (.if_icmp .ge 5, 3) := by decide +kernel
theorem d_Mo_due_61 : decode prog_12_method_30_code 61 = .ok (.iload_n 2, 1) := by decide +kernel
theorem d_Mo_due_62 : decode prog_12_method_30_code 62 = .ok (.istore_n 1, 1) := by decide +kernel
theorem d_Mo_due_63 : decode prog_12_method_30_code 63 = .ok (.iinc 2 1, 3) := by decide +kernel
theorem d_Mo_due_66 : decode prog_12_method_30_code 66 = .ok (.goto (-62), 3) := by decide +kernel
theorem d_Mo_due_69 : decode prog_12_method_30_code 69 = .ok (.iload_n 1, 1) := by decide +kernel
theorem d_Mo_due_70 : decode prog_12_method_30_code 70 = .ok (.ireturn, 1) := by decide +kernel
section XL
variable {p : Program} {l : Launch} {e : Env} {R : Room} {s : State} {m : MethodId} {args : Array Value} {below : List Frame} {meth : Method} {c : Code} {H : Heap} {locs : List Loc} {cells slots : Nat} {Q : State → Prop} {cc : ByteArray} {pc : Nat} {ls : Array Slot} {rest : List Value}
/-- how two longs compare -/
def x_lc (x y : Int64) (v : Int32) : Prop := (x > y ∧ v = 1) ∨ (x = y ∧ v = 0) ∨ (¬ x > y ∧ ¬ x = y ∧ v = -1)
theorem x_lcmp (hexec : p.tables.exec = Jvm.exec) (hb : c.code = cc) {x y : Int64} (hdg : decode cc pc = .ok (.lcmp, 1)) (k : ∀ v : Int32, x_lc x y v → W p l e R s m args below meth c H locs cells slots Q (F0 m (pc + 1) ls (.int v :: rest))) : W p l e R s m args below meth c H locs cells slots Q (F0 m pc ls (.long y :: .long x :: rest)) := by
  intro T hT X
  by_cases h1 : x > y
  · obtain ⟨t, a, b⟩ := k 1 (Or.inl ⟨h1, rfl⟩) T hT X
    refine ⟨t, ?_, b⟩
    jvm_step X.here [X.here.top, hexec, hb, hdg, h1]
    exact a
  · by_cases h2 : x = y
    · obtain ⟨t, a, b⟩ := k 0 (Or.inr (Or.inl ⟨h2, rfl⟩)) T hT X
      refine ⟨t, ?_, b⟩
      jvm_step X.here [X.here.top, hexec, hb, hdg, h1, h2]
      first | exact a | (subst h2; simp_all)
    · obtain ⟨t, a, b⟩ := k (-1) (Or.inr (Or.inr ⟨h1, h2, rfl⟩)) T hT X
      refine ⟨t, ?_, b⟩
      jvm_step X.here [X.here.top, hexec, hb, hdg, h1, h2]
      exact a
theorem x_lc.z {x y : Int64} {v : Int32} (h : x_lc x y v) : v = 0 ↔ x = y := by
  rcases h with ⟨h1, rfl⟩ | ⟨h1, rfl⟩ | ⟨h1, h2, rfl⟩
  · exact ⟨fun h => absurd h (by decide), fun h => absurd h1 (by rw [h]; exact Int64.lt_irrefl)⟩
  · exact ⟨fun _ => h1, fun _ => rfl⟩
  · exact ⟨fun h => absurd h (by decide), fun h => absurd h h2⟩
theorem x_lc.n {y : Int64} {v : Int32} (h : x_lc (-1) 0 v) : v < 0 := by
  rcases h with ⟨h1, rfl⟩ | ⟨h1, rfl⟩ | ⟨h1, h2, rfl⟩
  · exact absurd h1 (by decide)
  · exact absurd h1 (by decide)
  · decide
end XL
set_option maxHeartbeats 4000000 in
set_option maxRecDepth 100000 in
theorem m_ready (l : Launch) (dC : Nat → ClassId) (dI : Nat → Nat → Nat) (ar : Nat → ClassId) (N0 : Nat) (z : Nat → Nat) (h0 : Nat) (ad : Nat → Nat) (I : Nat → Int32) (T : Int64) (A : Nat → Nat → Int32) (U : Nat → Int64) (gv : Nat) (cv : Int32) (sz : Nat) (h42 : I 42 = Int32.ofNat gv) (hgv : gv ≤ 8) (hc : cv = -1 ∨ ∃ c9 : Nat, c9 < 6 ∧ cv = Int32.ofNat c9) : Met l ({ cls := "ChannelMachineModel", name := "ready", desc := "(I)Z" } : Jvm.MethodName) ((Jvm.Cond.code ({ cls := "ChannelMachineModel", name := "ready", desc := "(I)Z" } : Jvm.MethodName) prog_12_method_33_code (2 : Nat) (Option.some Jvm.ClassFile.FieldType.boolean)) :: x_T) ({ frames := 0, cells := 0, slots := 0, locals := 0 }) (x_Pc (dC, dI) ar N0 z (m_W h0 ad ar I T A U) sz [.ref h0, .int cv]) (va_Qi (fun (r : Int32) (u : (Nat → Int32) × Int64 × (Nat → Nat → Int32) × (Nat → Int64)) => u = (I, T, A, U) ∧ ((r = 1 ∧ (cv = -1 ∨ (cv = 4 ∧ 1 ≤ gv) ∨ ∃ c9 : Nat, c9 < 6 ∧ cv = Int32.ofNat c9 ∧ ¬ c9 = 4 ∧ ¬ A 38 c9 < 0)) ∨ (r = 0 ∧ ¬ cv = -1))) (fun u t => va_P (dC, dI) x_cl (m_W h0 ad ar u.1 u.2.1 u.2.2.1 u.2.2.2) t.heap) (va_A (m_W h0 ad ar I T A U) sz)) 0 0 (va_A (m_W h0 ad ar I T A U) sz) := by
  refine Met.ofW (cc := prog_12_method_33_code) (maxL := 2) (ret := (some .boolean)) (by decide) rfl ?_
  intro p e s m args below meth c s₁ B hml hv
  obtain ⟨rfl, hsz, hN0, hP, hU, hZ, hD0⟩ := hv
  have hK := hU.1
  have hx := B.exec
  have hb := B.bytes
  have hr := B.returns
  have hts : ∀ w ∈ x_T, w.before ([.ref h0, .int cv] : List Value).toArray s = true := fun w h => atoms_spec (ws := (Jvm.Cond.code ({ cls := "ChannelMachineModel", name := "ready", desc := "(I)Z" } : Jvm.MethodName) prog_12_method_33_code (2 : Nat) (Option.some Jvm.ClassFile.FieldType.boolean)) :: x_T) B.pre w (List.mem_cons_of_mem _ h)
  have hown : s.vm.findClass "ChannelMachineModel" = some m.cls := findClass_of_methodNamed B.named
  have hlocks := B.notSynchronized
  subst hsz
  have hD := hD0.self (sz := s.heap.size)
  have hAN := x_AN hD0 hN0
  generalize hAe : va_A (m_W h0 ad ar I T A U) s.heap.size = Bq at hD hAN ⊢
  have hA : ∀ q : Nat, s.heap.size ≤ q → Bq q := fun q h => by rw [← hAe]; exact Or.inr h
  have hS : va_S Bq s.heap s.heap [] := va_S.rf
  have hl := lv_entry ([.ref h0, .int cv]) (n := 2) (Nat.le_of_ble_eq_true rfl)
  rw [lg_entry_eq]
  generalize (lg_sl ([.ref h0, .int cv]) ++ List.replicate (2 - (lg_sl ([.ref h0, .int cv])).length) Slot.unset).toArray = ls at hl ⊢
  have hl : lv_has ls 2 [(0, .ref h0), (1, .int cv)] := hl
  rcases hc with rfl | ⟨c9, hc9, rfl⟩
  · have hl : lv_has ls 2 [(0, .ref h0), (1, .int (-1))] := hl
    refine lv_iload_n hx hb d_Mo_ready_0 rfl (lv_at hl 1 rfl) ?_
    refine lv_if_lt (tgt := 28) hx hb d_Mo_ready_1 (by decide) (fun _ => ?_) (fun c1 => absurd (by decide) c1)
    refine lv_iconst (v := 1) hx hb d_Mo_ready_28 (by decide) ?_
    refine lv_goto (tgt := 33) hx hb d_Mo_ready_29 (by decide) ?_
    refine W.widen (k := 0) (n := 0) (Nat.le_of_ble_eq_true rfl) (Nat.le_of_ble_eq_true rfl) ?_
    exact W.zret (v := 1) hx hb hr (rfl) (fun t ht hW => ⟨⟨1, (I, T, A, U), rfl, ⟨rfl, Or.inl ⟨rfl, Or.inl rfl⟩⟩, by dsimp only; rw [ht]; exact hP⟩, hS.F ht⟩) hS.2.2 d_Mo_ready_33
  · have hl : lv_has ls 2 [(0, .ref h0), (1, .int (Int32.ofNat c9))] := hl
    refine lv_iload_n hx hb d_Mo_ready_0 rfl (lv_at hl 1 rfl) ?_
    refine lv_if_lt (tgt := 28) hx hb d_Mo_ready_1 (by decide) (fun c => absurd ((x_ltN (a := c9) (b := 0) (by omega) (by omega)).mp c) (Nat.not_lt_zero _)) (fun _ => ?_)
    refine lv_iload_n hx hb d_Mo_ready_4 rfl (lv_at hl 1 rfl) ?_
    refine lv_iconst (v := 4) hx hb d_Mo_ready_5 (by decide) ?_
    refine lv_icmp_ne (tgt := 19) hx hb d_Mo_ready_6 (by decide) (fun c2 => ?_) (fun c2 => ?_)
    · have c2 : ¬ c9 = 4 := fun h9 => c2 ((x_eqN (a := c9) (b := 4) (by omega) (by omega)).mpr h9)
      refine lv_aload_n hx hb d_Mo_ready_19 rfl (lv_at hl 0 rfl) ?_
      refine m_g hx hb hts hown hK hP 38 (by decide) rfl (hts _ k_1005) (v := .ref (ad 38)) rfl d_Mo_ready_20 ?_
      refine lv_iload_n hx hb d_Mo_ready_23 rfl (lv_at hl 1 rfl) ?_
      refine m_ld hx hb hK hP 24 rfl (by decide) (j := (Int32.ofNat c9)) (x_inN (by omega) (by decide)) d_Mo_ready_24 ?_
      refine W.eq (g2 := F0 m 25 ls [.int (A 38 (c9))]) (by rw [x_nat (a := c9) (by omega)]) ?_
      refine lv_if_lt (tgt := 32) hx hb d_Mo_ready_25 (by decide) (fun c3 => ?_) (fun c3 => ?_)
      · refine lv_iconst (v := 0) hx hb d_Mo_ready_32 (by decide) ?_
        refine W.widen (k := 0) (n := 0) (Nat.le_of_ble_eq_true rfl) (Nat.le_of_ble_eq_true rfl) ?_
        exact W.zret (v := 0) hx hb hr (rfl) (fun t ht hW => ⟨⟨0, (I, T, A, U), rfl, ⟨rfl, Or.inr ⟨rfl, x_n1 (by omega)⟩⟩, by dsimp only; rw [ht]; exact hP⟩, hS.F ht⟩) hS.2.2 d_Mo_ready_33
      · refine lv_iconst (v := 1) hx hb d_Mo_ready_28 (by decide) ?_
        refine lv_goto (tgt := 33) hx hb d_Mo_ready_29 (by decide) ?_
        refine W.widen (k := 0) (n := 0) (Nat.le_of_ble_eq_true rfl) (Nat.le_of_ble_eq_true rfl) ?_
        exact W.zret (v := 1) hx hb hr (rfl) (fun t ht hW => ⟨⟨1, (I, T, A, U), rfl, ⟨rfl, Or.inl ⟨rfl, Or.inr (Or.inr ⟨c9, hc9, rfl, c2, c3⟩)⟩⟩, by dsimp only; rw [ht]; exact hP⟩, hS.F ht⟩) hS.2.2 d_Mo_ready_33
    · have c2 : c9 = 4 := (x_eqN (a := c9) (b := 4) (by omega) (by omega)).mp c2
      refine lv_aload_n hx hb d_Mo_ready_9 rfl (lv_at hl 0 rfl) ?_
      refine m_g hx hb hts hown hK hP 42 (by decide) rfl (hts _ k_1009) (v := .int (Int32.ofNat gv)) (congrArg Value.int h42) d_Mo_ready_10 ?_
      refine lv_if_le (tgt := 32) hx hb d_Mo_ready_13 (by decide) (fun c4 => ?_) (fun c4 => ?_)
      · have c4 : gv ≤ 0 := (x_leN (a := gv) (b := 0) (by omega) (by omega)).mp c4
        refine lv_iconst (v := 0) hx hb d_Mo_ready_32 (by decide) ?_
        refine W.widen (k := 0) (n := 0) (Nat.le_of_ble_eq_true rfl) (Nat.le_of_ble_eq_true rfl) ?_
        exact W.zret (v := 0) hx hb hr (rfl) (fun t ht hW => ⟨⟨0, (I, T, A, U), rfl, ⟨rfl, Or.inr ⟨rfl, x_n1 (by omega)⟩⟩, by dsimp only; rw [ht]; exact hP⟩, hS.F ht⟩) hS.2.2 d_Mo_ready_33
      · have c4 : ¬ gv ≤ 0 := fun h9 => c4 ((x_leN (a := gv) (b := 0) (by omega) (by omega)).mpr h9)
        refine lv_goto (tgt := 28) hx hb d_Mo_ready_16 (by decide) ?_
        refine lv_iconst (v := 1) hx hb d_Mo_ready_28 (by decide) ?_
        refine lv_goto (tgt := 33) hx hb d_Mo_ready_29 (by decide) ?_
        refine W.widen (k := 0) (n := 0) (Nat.le_of_ble_eq_true rfl) (Nat.le_of_ble_eq_true rfl) ?_
        exact W.zret (v := 1) hx hb hr (rfl) (fun t ht hW => ⟨⟨1, (I, T, A, U), rfl, ⟨rfl, Or.inl ⟨rfl, Or.inr (Or.inl ⟨by rw [c2]; rfl, by omega⟩)⟩⟩, by dsimp only; rw [ht]; exact hP⟩, hS.F ht⟩) hS.2.2 d_Mo_ready_33
set_option maxHeartbeats 4000000 in
set_option maxRecDepth 100000 in
theorem m_input (l : Launch) (dC : Nat → ClassId) (dI : Nat → Nat → Nat) (ar : Nat → ClassId) (N0 : Nat) (z : Nat → Nat) (h0 : Nat) (ad : Nat → Nat) (I : Nat → Int32) (T : Int64) (A : Nat → Nat → Int32) (U : Nat → Int64) (c9 v9 gv q : Nat) (sz : Nat) (h42 : I 42 = Int32.ofNat gv) (hgv : gv ≤ 8) (h29 : I 29 = Int32.ofNat q) (hc : c9 < 6) (hv : v9 < 6) (hcase : (c9 = 4 ∧ 1 ≤ gv) ∨ (¬ c9 = 4 ∧ ∃ w9 : Nat, w9 < 90 ∧ A 38 c9 = Int32.ofNat w9 ∧ q < 90)) : Met l ({ cls := "ChannelMachineModel", name := "input", desc := "(II)V" } : Jvm.MethodName) ((Jvm.Cond.code ({ cls := "ChannelMachineModel", name := "input", desc := "(II)V" } : Jvm.MethodName) prog_12_method_34_code (3 : Nat) (Option.none : Option Jvm.ClassFile.FieldType)) :: x_T) ({ frames := 1, cells := 0, slots := 0, locals := 23 }) (x_Pc (dC, dI) ar N0 z (m_W h0 ad ar I T A U) sz [.ref h0, .int (Int32.ofNat c9), .int (Int32.ofNat v9)]) (va_Qv (fun (u : (Nat → Int32) × Int64 × (Nat → Nat → Int32) × (Nat → Int64)) => (c9 = 4 ∧ u.1 = upd I 42 (Int32.ofNat (gv - 1)) ∧ u.2.1 = T ∧ u.2.2.2 = U ∧ m_fa [3, 40] A u.2.2.1) ∨ (¬ c9 = 4 ∧ ∃ w9 : Nat, w9 < 90 ∧ A 38 c9 = Int32.ofNat w9 ∧ u = (upd I 29 (Int32.ofNat (q + 1)), T, m_up (m_up (m_up A 3 (upd (A 3) v9 (A 39 c9))) 24 (upd (A 24) q (Int32.ofNat w9))) 38 (upd (A 38) c9 (-1)), U))) (fun u t => va_P (dC, dI) x_cl (m_W h0 ad ar u.1 u.2.1 u.2.2.1 u.2.2.2) t.heap) (va_A (m_W h0 ad ar I T A U) sz)) 0 0 (va_A (m_W h0 ad ar I T A U) sz) := by
  refine Met.ofW (cc := prog_12_method_34_code) (maxL := 3) (ret := none) (by decide) rfl ?_
  intro p e s m args below meth c s₁ B hml hv
  obtain ⟨rfl, hsz, hN0, hP, hU, hZ, hD0⟩ := hv
  have hK := hU.1
  have hx := B.exec
  have hb := B.bytes
  have hr := B.returns
  have hts : ∀ w ∈ x_T, w.before ([.ref h0, .int (Int32.ofNat c9), .int (Int32.ofNat v9)] : List Value).toArray s = true := fun w h => atoms_spec (ws := (Jvm.Cond.code ({ cls := "ChannelMachineModel", name := "input", desc := "(II)V" } : Jvm.MethodName) prog_12_method_34_code (3 : Nat) (Option.none : Option Jvm.ClassFile.FieldType)) :: x_T) B.pre w (List.mem_cons_of_mem _ h)
  have hown : s.vm.findClass "ChannelMachineModel" = some m.cls := findClass_of_methodNamed B.named
  have hlocks := B.notSynchronized
  subst hsz
  have hD := hD0.self (sz := s.heap.size)
  have hAN := x_AN hD0 hN0
  generalize hAe : va_A (m_W h0 ad ar I T A U) s.heap.size = Bq at hD hAN ⊢
  have hA : ∀ q : Nat, s.heap.size ≤ q → Bq q := fun q h => by rw [← hAe]; exact Or.inr h
  have hS : va_S Bq s.heap s.heap [] := va_S.rf
  have hl := lv_entry ([.ref h0, .int (Int32.ofNat c9), .int (Int32.ofNat v9)]) (n := 3) (Nat.le_of_ble_eq_true rfl)
  rw [lg_entry_eq]
  generalize (lg_sl ([.ref h0, .int (Int32.ofNat c9), .int (Int32.ofNat v9)]) ++ List.replicate (3 - (lg_sl ([.ref h0, .int (Int32.ofNat c9), .int (Int32.ofNat v9)])).length) Slot.unset).toArray = ls at hl ⊢
  have hl : lv_has ls 3 [(0, .ref h0), (1, .int (Int32.ofNat c9)), (2, .int (Int32.ofNat v9))] := hl
  rcases hcase with ⟨rfl, hg1⟩ | ⟨hc4, w9, hw9, ew9, hq⟩
  · have hl : lv_has ls 3 [(0, .ref h0), (1, .int 4), (2, .int (Int32.ofNat v9))] := hl
    refine lv_iload_n hx hb d_Mo_input_0 rfl (lv_at hl 1 rfl) ?_
    refine lv_iconst (v := 4) hx hb d_Mo_input_1 (by decide) ?_
    refine lv_icmp_ne (tgt := 33) hx hb d_Mo_input_2 (by decide) (fun c1 => absurd rfl c1) (fun _ => ?_)
    refine lv_aload_n hx hb d_Mo_input_5 rfl (lv_at hl 0 rfl) ?_
    refine m_g hx hb hts hown hK hP 3 (by decide) rfl (hts _ k_970) (v := .ref (ad 3)) rfl d_Mo_input_6 ?_
    refine lv_iload_n hx hb d_Mo_input_9 rfl (lv_at hl 2 rfl) ?_
    refine lv_aload_n hx hb d_Mo_input_10 rfl (lv_at hl 0 rfl) ?_
    refine m_g hx hb hts hown hK hP 40 (by decide) rfl (hts _ k_1007) (v := .ref (ad 40)) rfl d_Mo_input_11 ?_
    refine lv_aload_n hx hb d_Mo_input_14 rfl (lv_at hl 0 rfl) ?_
    refine m_g hx hb hts hown hK hP 42 (by decide) rfl (hts _ k_1009) (v := .int (Int32.ofNat gv)) (congrArg Value.int h42) d_Mo_input_15 ?_
    have hFc := m_free hD hS hA
    refine va_calli (va_runS (As := [.ref (ad 40), .int (Int32.ofNat gv)]) (rest := [.int (Int32.ofNat v9), .ref (ad 3)]) ⟨hx, hb, hml, hown, hts⟩ (m_shift40 l dC dI ar N0 z h0 ad I T A U gv s.heap.size (by omega)) (cwS 2 hts (x_goodS k_1210 k_1211 k_9 k_1212) rfl rfl rfl (by decide +kernel) ⟨Nat.le_of_ble_eq_true rfl, Nat.le_of_ble_eq_true rfl⟩) ⟨x_blind, fun U9 hU9 hW9 => x_pre hU9 hW9 hP hD hU hZ hS hAN hN0⟩ rfl rfl hl.1 rfl (lv_room (Nat.le_of_ble_eq_true rfl)) d_Mo_input_18 ⟨Nat.le_of_ble_eq_true rfl, Nat.le_of_ble_eq_true rfl⟩) hS (fun q _ h => hFc q h) hFc (fun r2 u t H1 locs ht hvm hw hB hz1 hk1 hS => ?_)
    obtain ⟨I4, T4, A4, U4⟩ := u
    dsimp only at hw hB
    rw [ht] at hB
    have hP : va_P (dC, dI) x_cl (m_W h0 ad ar I4 T4 A4 U4) H1 := hB
    have hD : va_D Bq (m_W h0 ad ar I4 T4 A4 U4) := m_D hD
    generalize H1 = H at hP hS ⊢
    refine W.widen (k := 0) (n := 0) (Nat.le_of_ble_eq_true rfl) (Nat.le_of_ble_eq_true rfl) ?_
    obtain ⟨rfl, e1, e2, e3, fa4, g14, _⟩ := hw
    rw [e1, e2, e3] at hP hD
    refine m_st hx hb hK hP hD hS 3 rfl (by decide) (j := (Int32.ofNat v9)) (x := (A 40 0)) (x_inN (by omega) (by decide)) d_Mo_input_21 (fun H locs hP hD hS => ?_)
    rw [x_nat (a := v9) (by omega)] at hP hD
    have hP : va_P (dC, dI) x_cl (m_W h0 ad ar I T (m_up A4 3 (upd (A4 3) v9 (A 40 0))) U) H := hP
    have hD : va_D Bq (m_W h0 ad ar I T (m_up A4 3 (upd (A4 3) v9 (A 40 0))) U) := hD
    refine lv_aload_n hx hb d_Mo_input_22 rfl (lv_at hl 0 rfl) ?_
    refine lv_dup hx hb d_Mo_input_23 rfl ?_
    refine m_g hx hb hts hown hK hP 42 (by decide) rfl (hts _ k_1009) (v := .int (Int32.ofNat gv)) (congrArg Value.int h42) d_Mo_input_24 ?_
    refine lv_iconst (v := 1) hx hb d_Mo_input_27 (by decide) ?_
    refine lv_isub hx hb d_Mo_input_28 ?_
    refine W.eq (g2 := F0 m 29 ls [.int (Int32.ofNat (gv - 1)), .ref h0]) (by rw [← x_subN (a := gv) (b := 1) (by omega)] <;> rfl) ?_
    refine m_p hx hb hts hown hK hP hD hS 42 (by decide) rfl (hts _ k_1009) rfl (by decide +kernel) rfl (by decide) (x := (Int32.ofNat (gv - 1))) d_Mo_input_29 (fun H locs hP hD hS => ?_)
    refine W.widen (k := 0) (n := 0) (Nat.le_of_ble_eq_true rfl) (Nat.le_of_ble_eq_true rfl) ?_
    exact W.vret hx hb hr (fun t ht hW => ⟨⟨((upd I 42 (Int32.ofNat (gv - 1))), T, (m_up A4 3 (upd (A4 3) v9 (A 40 0))), U), rfl, Or.inl ⟨rfl, rfl, rfl, rfl, ((m_fa.rf.tr fa4 (by decide)).up (by decide) _)⟩, by dsimp only; rw [ht]; exact hP⟩, hS.F ht⟩) hS.2.2 d_Mo_input_32
  · refine lv_iload_n hx hb d_Mo_input_0 rfl (lv_at hl 1 rfl) ?_
    refine lv_iconst (v := 4) hx hb d_Mo_input_1 (by decide) ?_
    refine lv_icmp_ne (tgt := 33) hx hb d_Mo_input_2 (by decide) (fun c5 => ?_) (fun c5 => ?_)
    · have c5 : ¬ c9 = 4 := fun h9 => c5 ((x_eqN (a := c9) (b := 4) (by omega) (by omega)).mpr h9)
      refine lv_aload_n hx hb d_Mo_input_33 rfl (lv_at hl 0 rfl) ?_
      refine m_g hx hb hts hown hK hP 3 (by decide) rfl (hts _ k_970) (v := .ref (ad 3)) rfl d_Mo_input_34 ?_
      refine lv_iload_n hx hb d_Mo_input_37 rfl (lv_at hl 2 rfl) ?_
      refine lv_aload_n hx hb d_Mo_input_38 rfl (lv_at hl 0 rfl) ?_
      refine m_g hx hb hts hown hK hP 39 (by decide) rfl (hts _ k_1006) (v := .ref (ad 39)) rfl d_Mo_input_39 ?_
      refine lv_iload_n hx hb d_Mo_input_42 rfl (lv_at hl 1 rfl) ?_
      refine m_ld hx hb hK hP 25 rfl (by decide) (j := (Int32.ofNat c9)) (x_inN (by omega) (by decide)) d_Mo_input_43 ?_
      refine W.eq (g2 := F0 m 44 ls [.int (A 39 (c9)), .int (Int32.ofNat v9), .ref (ad 3)]) (by rw [x_nat (a := c9) (by omega)]) ?_
      refine m_st hx hb hK hP hD hS 3 rfl (by decide) (j := (Int32.ofNat v9)) (x := (A 39 (c9))) (x_inN (by omega) (by decide)) d_Mo_input_44 (fun H locs hP hD hS => ?_)
      rw [x_nat (a := v9) (by omega)] at hP hD
      have hP : va_P (dC, dI) x_cl (m_W h0 ad ar I T (m_up A 3 (upd (A 3) v9 (A 39 (c9)))) U) H := hP
      have hD : va_D Bq (m_W h0 ad ar I T (m_up A 3 (upd (A 3) v9 (A 39 (c9)))) U) := hD
      refine lv_aload_n hx hb d_Mo_input_45 rfl (lv_at hl 0 rfl) ?_
      refine lv_aload_n hx hb d_Mo_input_46 rfl (lv_at hl 0 rfl) ?_
      refine m_g hx hb hts hown hK hP 38 (by decide) rfl (hts _ k_1005) (v := .ref (ad 38)) rfl d_Mo_input_47 ?_
      refine lv_iload_n hx hb d_Mo_input_50 rfl (lv_at hl 1 rfl) ?_
      refine m_ld hx hb hK hP 24 rfl (by decide) (j := (Int32.ofNat c9)) (x_inN (by omega) (by decide)) d_Mo_input_51 ?_
      refine W.eq (g2 := F0 m 52 ls [.int (Int32.ofNat w9), .ref h0]) (by rw [x_nat (a := c9) (by omega), show (m_up A 3 (upd (A 3) v9 (A 39 (c9)))) 38 c9 = (Int32.ofNat w9) from ew9]) ?_
      have hFc := m_free hD hS hA
      refine va_callv (va_runV (As := [.int (Int32.ofNat w9)]) (rest := []) ⟨hx, hb, hml, hown, hts⟩ (m_put l dC dI ar N0 z h0 ad I T (m_up A 3 (upd (A 3) v9 (A 39 (c9)))) U q ((Int32.ofNat w9)) H.size h29 (by omega)) (cwV 1 hts (x_goodV k_1194 k_1196 kp_65 k_9 k_1197) rfl rfl rfl (by decide +kernel) ⟨Nat.le_of_ble_eq_true rfl, Nat.le_of_ble_eq_true rfl⟩) ⟨x_blind, va_recv hK hP (ci := 6) (q0 := 0) rfl rfl, fun U9 hU9 hW9 => x_pre hU9 hW9 hP hD hU hZ hS hAN hN0⟩ rfl rfl hl.1 rfl (lv_room (Nat.le_of_ble_eq_true rfl)) d_Mo_input_52 ⟨Nat.le_of_ble_eq_true rfl, Nat.le_of_ble_eq_true rfl⟩) hS (fun q _ h => hFc q h) hFc (fun u t H1 locs ht hvm hw hB hz1 hk1 hS => ?_)
      obtain ⟨I7, T7, A7, U7⟩ := u
      dsimp only at hw hB
      rw [ht] at hB
      have hP : va_P (dC, dI) x_cl (m_W h0 ad ar I7 T7 A7 U7) H1 := hB
      have hD : va_D Bq (m_W h0 ad ar I7 T7 A7 U7) := m_D hD
      generalize H1 = H at hP hS ⊢
      refine W.widen (k := 0) (n := 0) (Nat.le_of_ble_eq_true rfl) (Nat.le_of_ble_eq_true rfl) ?_
      cases hw
      have hP : va_P (dC, dI) x_cl (m_W h0 ad ar (upd I 29 (Int32.ofNat (q + 1))) T (m_up (m_up A 3 (upd (A 3) v9 (A 39 (c9)))) 24 (upd (A 24) q (Int32.ofNat w9))) U) H := hP
      have hD : va_D Bq (m_W h0 ad ar (upd I 29 (Int32.ofNat (q + 1))) T (m_up (m_up A 3 (upd (A 3) v9 (A 39 (c9)))) 24 (upd (A 24) q (Int32.ofNat w9))) U) := hD
      refine lv_aload_n hx hb d_Mo_input_55 rfl (lv_at hl 0 rfl) ?_
      refine m_g hx hb hts hown hK hP 38 (by decide) rfl (hts _ k_1005) (v := .ref (ad 38)) rfl d_Mo_input_56 ?_
      refine lv_iload_n hx hb d_Mo_input_59 rfl (lv_at hl 1 rfl) ?_
      refine lv_iconst (v := (-1)) hx hb d_Mo_input_60 (by decide) ?_
      refine m_st hx hb hK hP hD hS 24 rfl (by decide) (j := (Int32.ofNat c9)) (x := (-1)) (x_inN (by omega) (by decide)) d_Mo_input_61 (fun H locs hP hD hS => ?_)
      rw [x_nat (a := c9) (by omega)] at hP hD
      have hP : va_P (dC, dI) x_cl (m_W h0 ad ar (upd I 29 (Int32.ofNat (q + 1))) T (m_up (m_up (m_up A 3 (upd (A 3) v9 (A 39 (c9)))) 24 (upd (A 24) q (Int32.ofNat w9))) 38 (upd (A 38) c9 (-1))) U) H := hP
      have hD : va_D Bq (m_W h0 ad ar (upd I 29 (Int32.ofNat (q + 1))) T (m_up (m_up (m_up A 3 (upd (A 3) v9 (A 39 (c9)))) 24 (upd (A 24) q (Int32.ofNat w9))) 38 (upd (A 38) c9 (-1))) U) := hD
      refine W.widen (k := 0) (n := 0) (Nat.le_of_ble_eq_true rfl) (Nat.le_of_ble_eq_true rfl) ?_
      exact W.vret hx hb hr (fun t ht hW => ⟨⟨((upd I 29 (Int32.ofNat (q + 1))), T, (m_up (m_up (m_up A 3 (upd (A 3) v9 (A 39 (c9)))) 24 (upd (A 24) q (Int32.ofNat w9))) 38 (upd (A 38) c9 (-1))), U), rfl, Or.inr ⟨hc4, w9, hw9, ew9, rfl⟩, by dsimp only; rw [ht]; exact hP⟩, hS.F ht⟩) hS.2.2 d_Mo_input_62
    · have c5 : c9 = 4 := (x_eqN (a := c9) (b := 4) (by omega) (by omega)).mp c5
      exact absurd c5 hc4
set_option maxHeartbeats 4000000 in
set_option maxRecDepth 100000 in
theorem m_await (l : Launch) (dC : Nat → ClassId) (dI : Nat → Nat → Nat) (ar : Nat → ClassId) (N0 : Nat) (z : Nat → Nat) (h0 : Nat) (ad : Nat → Nat) (I : Nat → Int32) (T : Int64) (A : Nat → Nat → Int32) (U : Nat → Int64) (c9 : Nat) (tv vv xv : Int32) (sz : Nat) (hc : c9 < 6) : Met l ({ cls := "ChannelMachineModel", name := "await", desc := "(IIII)V" } : Jvm.MethodName) ((Jvm.Cond.code ({ cls := "ChannelMachineModel", name := "await", desc := "(IIII)V" } : Jvm.MethodName) prog_12_method_35_code (5 : Nat) (Option.none : Option Jvm.ClassFile.FieldType)) :: x_T) ({ frames := 0, cells := 0, slots := 0, locals := 0 }) (x_Pc (dC, dI) ar N0 z (m_W h0 ad ar I T A U) sz [.ref h0, .int (Int32.ofNat c9), .int tv, .int vv, .int xv]) (va_Qv (fun (u : (Nat → Int32) × Int64 × (Nat → Nat → Int32) × (Nat → Int64)) => (A 35 c9 < 0 ∧ u = (I, T, m_up (m_up (m_up A 35 (upd (A 35) c9 tv)) 36 (upd (A 36) c9 vv)) 37 (upd (A 37) c9 xv), U)) ∨ (¬ A 35 c9 < 0 ∧ (u = (I, T, A, U) ∨ u = (upd I 33 2, T, A, U)))) (fun u t => va_P (dC, dI) x_cl (m_W h0 ad ar u.1 u.2.1 u.2.2.1 u.2.2.2) t.heap) (va_A (m_W h0 ad ar I T A U) sz)) 0 0 (va_A (m_W h0 ad ar I T A U) sz) := by
  refine Met.ofW (cc := prog_12_method_35_code) (maxL := 5) (ret := none) (by decide) rfl ?_
  intro p e s m args below meth c s₁ B hml hv
  obtain ⟨rfl, hsz, hN0, hP, hU, hZ, hD0⟩ := hv
  have hK := hU.1
  have hx := B.exec
  have hb := B.bytes
  have hr := B.returns
  have hts : ∀ w ∈ x_T, w.before ([.ref h0, .int (Int32.ofNat c9), .int tv, .int vv, .int xv] : List Value).toArray s = true := fun w h => atoms_spec (ws := (Jvm.Cond.code ({ cls := "ChannelMachineModel", name := "await", desc := "(IIII)V" } : Jvm.MethodName) prog_12_method_35_code (5 : Nat) (Option.none : Option Jvm.ClassFile.FieldType)) :: x_T) B.pre w (List.mem_cons_of_mem _ h)
  have hown : s.vm.findClass "ChannelMachineModel" = some m.cls := findClass_of_methodNamed B.named
  have hlocks := B.notSynchronized
  subst hsz
  have hD := hD0.self (sz := s.heap.size)
  have hAN := x_AN hD0 hN0
  generalize hAe : va_A (m_W h0 ad ar I T A U) s.heap.size = Bq at hD hAN ⊢
  have hA : ∀ q : Nat, s.heap.size ≤ q → Bq q := fun q h => by rw [← hAe]; exact Or.inr h
  have hS : va_S Bq s.heap s.heap [] := va_S.rf
  have hl := lv_entry ([.ref h0, .int (Int32.ofNat c9), .int tv, .int vv, .int xv]) (n := 5) (Nat.le_of_ble_eq_true rfl)
  rw [lg_entry_eq]
  generalize (lg_sl ([.ref h0, .int (Int32.ofNat c9), .int tv, .int vv, .int xv]) ++ List.replicate (5 - (lg_sl ([.ref h0, .int (Int32.ofNat c9), .int tv, .int vv, .int xv])).length) Slot.unset).toArray = ls at hl ⊢
  have hl : lv_has ls 5 [(0, .ref h0), (1, .int (Int32.ofNat c9)), (2, .int tv), (3, .int vv), (4, .int xv)] := hl
  refine lv_aload_n hx hb d_Mo_await_0 rfl (lv_at hl 0 rfl) ?_
  refine m_g hx hb hts hown hK hP 35 (by decide) rfl (hts _ k_1002) (v := .ref (ad 35)) rfl d_Mo_await_1 ?_
  refine lv_iload_n hx hb d_Mo_await_4 rfl (lv_at hl 1 rfl) ?_
  refine m_ld hx hb hK hP 21 rfl (by decide) (j := (Int32.ofNat c9)) (x_inN (by omega) (by decide)) d_Mo_await_5 ?_
  refine W.eq (g2 := F0 m 6 ls [.int (A 35 (c9))]) (by rw [x_nat (a := c9) (by omega)]) ?_
  refine lv_if_lt (tgt := 24) hx hb d_Mo_await_6 (by decide) (fun c1 => ?_) (fun c1 => ?_)
  · refine lv_aload_n hx hb d_Mo_await_24 rfl (lv_at hl 0 rfl) ?_
    refine m_g hx hb hts hown hK hP 35 (by decide) rfl (hts _ k_1002) (v := .ref (ad 35)) rfl d_Mo_await_25 ?_
    refine lv_iload_n hx hb d_Mo_await_28 rfl (lv_at hl 1 rfl) ?_
    refine m_ld hx hb hK hP 21 rfl (by decide) (j := (Int32.ofNat c9)) (x_inN (by omega) (by decide)) d_Mo_await_29 ?_
    refine W.eq (g2 := F0 m 30 ls [.int (A 35 (c9))]) (by rw [x_nat (a := c9) (by omega)]) ?_
    refine lv_if_lt (tgt := 34) hx hb d_Mo_await_30 (by decide) (fun _ => ?_) (fun c2 => absurd c1 c2)
    refine lv_aload_n hx hb d_Mo_await_34 rfl (lv_at hl 0 rfl) ?_
    refine m_g hx hb hts hown hK hP 35 (by decide) rfl (hts _ k_1002) (v := .ref (ad 35)) rfl d_Mo_await_35 ?_
    refine lv_iload_n hx hb d_Mo_await_38 rfl (lv_at hl 1 rfl) ?_
    refine lv_iload_n hx hb d_Mo_await_39 rfl (lv_at hl 2 rfl) ?_
    refine m_st hx hb hK hP hD hS 21 rfl (by decide) (j := (Int32.ofNat c9)) (x := tv) (x_inN (by omega) (by decide)) d_Mo_await_40 (fun H locs hP hD hS => ?_)
    rw [x_nat (a := c9) (by omega)] at hP hD
    have hP : va_P (dC, dI) x_cl (m_W h0 ad ar I T (m_up A 35 (upd (A 35) c9 tv)) U) H := hP
    have hD : va_D Bq (m_W h0 ad ar I T (m_up A 35 (upd (A 35) c9 tv)) U) := hD
    refine lv_aload_n hx hb d_Mo_await_41 rfl (lv_at hl 0 rfl) ?_
    refine m_g hx hb hts hown hK hP 36 (by decide) rfl (hts _ k_1003) (v := .ref (ad 36)) rfl d_Mo_await_42 ?_
    refine lv_iload_n hx hb d_Mo_await_45 rfl (lv_at hl 1 rfl) ?_
    refine lv_iload_n hx hb d_Mo_await_46 rfl (lv_at hl 3 rfl) ?_
    refine m_st hx hb hK hP hD hS 22 rfl (by decide) (j := (Int32.ofNat c9)) (x := vv) (x_inN (by omega) (by decide)) d_Mo_await_47 (fun H locs hP hD hS => ?_)
    rw [x_nat (a := c9) (by omega)] at hP hD
    have hP : va_P (dC, dI) x_cl (m_W h0 ad ar I T (m_up (m_up A 35 (upd (A 35) c9 tv)) 36 (upd (A 36) c9 vv)) U) H := hP
    have hD : va_D Bq (m_W h0 ad ar I T (m_up (m_up A 35 (upd (A 35) c9 tv)) 36 (upd (A 36) c9 vv)) U) := hD
    refine lv_aload_n hx hb d_Mo_await_48 rfl (lv_at hl 0 rfl) ?_
    refine m_g hx hb hts hown hK hP 37 (by decide) rfl (hts _ k_1004) (v := .ref (ad 37)) rfl d_Mo_await_49 ?_
    refine lv_iload_n hx hb d_Mo_await_52 rfl (lv_at hl 1 rfl) ?_
    refine lv_iload hx hb d_Mo_await_53 (lv_at hl 4 rfl) ?_
    refine m_st hx hb hK hP hD hS 23 rfl (by decide) (j := (Int32.ofNat c9)) (x := xv) (x_inN (by omega) (by decide)) d_Mo_await_55 (fun H locs hP hD hS => ?_)
    rw [x_nat (a := c9) (by omega)] at hP hD
    have hP : va_P (dC, dI) x_cl (m_W h0 ad ar I T (m_up (m_up (m_up A 35 (upd (A 35) c9 tv)) 36 (upd (A 36) c9 vv)) 37 (upd (A 37) c9 xv)) U) H := hP
    have hD : va_D Bq (m_W h0 ad ar I T (m_up (m_up (m_up A 35 (upd (A 35) c9 tv)) 36 (upd (A 36) c9 vv)) 37 (upd (A 37) c9 xv)) U) := hD
    refine W.widen (k := 0) (n := 0) (Nat.le_of_ble_eq_true rfl) (Nat.le_of_ble_eq_true rfl) ?_
    exact W.vret hx hb hr (fun t ht hW => ⟨⟨(I, T, (m_up (m_up (m_up A 35 (upd (A 35) c9 tv)) 36 (upd (A 36) c9 vv)) 37 (upd (A 37) c9 xv)), U), rfl, Or.inl ⟨c1, rfl⟩, by dsimp only; rw [ht]; exact hP⟩, hS.F ht⟩) hS.2.2 d_Mo_await_56
  · refine lv_aload_n hx hb d_Mo_await_9 rfl (lv_at hl 0 rfl) ?_
    refine m_g hx hb hts hown hK hP 35 (by decide) rfl (hts _ k_1002) (v := .ref (ad 35)) rfl d_Mo_await_10 ?_
    refine lv_iload_n hx hb d_Mo_await_13 rfl (lv_at hl 1 rfl) ?_
    refine m_ld hx hb hK hP 21 rfl (by decide) (j := (Int32.ofNat c9)) (x_inN (by omega) (by decide)) d_Mo_await_14 ?_
    refine W.eq (g2 := F0 m 15 ls [.int (A 35 (c9))]) (by rw [x_nat (a := c9) (by omega)]) ?_
    refine lv_iload_n hx hb d_Mo_await_15 rfl (lv_at hl 2 rfl) ?_
    refine lv_icmp_eq (tgt := 24) hx hb d_Mo_await_16 (by decide) (fun c3 => ?_) (fun c3 => ?_)
    · refine lv_aload_n hx hb d_Mo_await_24 rfl (lv_at hl 0 rfl) ?_
      refine m_g hx hb hts hown hK hP 35 (by decide) rfl (hts _ k_1002) (v := .ref (ad 35)) rfl d_Mo_await_25 ?_
      refine lv_iload_n hx hb d_Mo_await_28 rfl (lv_at hl 1 rfl) ?_
      refine m_ld hx hb hK hP 21 rfl (by decide) (j := (Int32.ofNat c9)) (x_inN (by omega) (by decide)) d_Mo_await_29 ?_
      refine W.eq (g2 := F0 m 30 ls [.int (A 35 (c9))]) (by rw [x_nat (a := c9) (by omega)]) ?_
      refine lv_if_lt (tgt := 34) hx hb d_Mo_await_30 (by decide) (fun c4 => absurd c4 c1) (fun _ => ?_)
      refine W.widen (k := 0) (n := 0) (Nat.le_of_ble_eq_true rfl) (Nat.le_of_ble_eq_true rfl) ?_
      exact W.vret hx hb hr (fun t ht hW => ⟨⟨(I, T, A, U), rfl, Or.inr ⟨c1, Or.inl rfl⟩, by dsimp only; rw [ht]; exact hP⟩, hS.F ht⟩) hS.2.2 d_Mo_await_33
    · refine lv_aload_n hx hb d_Mo_await_19 rfl (lv_at hl 0 rfl) ?_
      refine lv_iconst (v := 2) hx hb d_Mo_await_20 (by decide) ?_
      refine m_p hx hb hts hown hK hP hD hS 33 (by decide) rfl (hts _ k_1000) rfl (by decide +kernel) rfl (by decide) (x := 2) d_Mo_await_21 (fun H locs hP hD hS => ?_)
      refine lv_aload_n hx hb d_Mo_await_24 rfl (lv_at hl 0 rfl) ?_
      refine m_g hx hb hts hown hK hP 35 (by decide) rfl (hts _ k_1002) (v := .ref (ad 35)) rfl d_Mo_await_25 ?_
      refine lv_iload_n hx hb d_Mo_await_28 rfl (lv_at hl 1 rfl) ?_
      refine m_ld hx hb hK hP 21 rfl (by decide) (j := (Int32.ofNat c9)) (x_inN (by omega) (by decide)) d_Mo_await_29 ?_
      refine W.eq (g2 := F0 m 30 ls [.int (A 35 (c9))]) (by rw [x_nat (a := c9) (by omega)]) ?_
      refine lv_if_lt (tgt := 34) hx hb d_Mo_await_30 (by decide) (fun c5 => absurd c5 c1) (fun _ => ?_)
      refine W.widen (k := 0) (n := 0) (Nat.le_of_ble_eq_true rfl) (Nat.le_of_ble_eq_true rfl) ?_
      exact W.vret hx hb hr (fun t ht hW => ⟨⟨((upd I 33 2), T, A, U), rfl, Or.inr ⟨c1, Or.inr rfl⟩, by dsimp only; rw [ht]; exact hP⟩, hS.F ht⟩) hS.2.2 d_Mo_await_33
set_option maxHeartbeats 4000000 in
set_option maxRecDepth 100000 in
theorem m_hand (l : Launch) (dC : Nat → ClassId) (dI : Nat → Nat → Nat) (ar : Nat → ClassId) (N0 : Nat) (z : Nat → Nat) (h0 : Nat) (ad : Nat → Nat) (I : Nat → Int32) (T : Int64) (A : Nat → Nat → Int32) (U : Nat → Int64) (c9 r9 w9 q : Nat) (vv : Int32) (sz : Nat) (h29 : I 29 = Int32.ofNat q) (hq : q < 90) (hc : c9 < 6) (hr9l : r9 < 90) (hr9 : A 35 c9 = Int32.ofNat r9) (hw9l : w9 < 6) (hw9 : A 36 c9 = Int32.ofNat w9) : Met l ({ cls := "ChannelMachineModel", name := "hand", desc := "(II)V" } : Jvm.MethodName) ((Jvm.Cond.code ({ cls := "ChannelMachineModel", name := "hand", desc := "(II)V" } : Jvm.MethodName) prog_12_method_36_code (5 : Nat) (Option.none : Option Jvm.ClassFile.FieldType)) :: x_T) ({ frames := 1, cells := 0, slots := 0, locals := 21 }) (x_Pc (dC, dI) ar N0 z (m_W h0 ad ar I T A U) sz [.ref h0, .int (Int32.ofNat c9), .int vv]) (va_Qv (fun (u : (Nat → Int32) × Int64 × (Nat → Nat → Int32) × (Nat → Int64)) => u.1 = upd I 29 (Int32.ofNat (q + 1)) ∧ u.2.1 = T ∧ u.2.2.2 = U ∧ m_fa [3, 20, 24, 35] A u.2.2.1 ∧ u.2.2.1 20 = upd (A 20) r9 (A 37 c9) ∧ u.2.2.1 24 = upd (A 24) q (Int32.ofNat r9) ∧ ∀ x, x < 6 → (A 35 x = Int32.ofNat r9 ∧ u.2.2.1 35 x = -1) ∨ (¬ A 35 x = Int32.ofNat r9 ∧ u.2.2.1 35 x = A 35 x)) (fun u t => va_P (dC, dI) x_cl (m_W h0 ad ar u.1 u.2.1 u.2.2.1 u.2.2.2) t.heap) (va_A (m_W h0 ad ar I T A U) sz)) 0 0 (va_A (m_W h0 ad ar I T A U) sz) := by
  refine Met.ofW (cc := prog_12_method_36_code) (maxL := 5) (ret := none) (by decide) rfl ?_
  intro p e s m args below meth c s₁ B hml hv
  obtain ⟨rfl, hsz, hN0, hP, hU, hZ, hD0⟩ := hv
  have hK := hU.1
  have hx := B.exec
  have hb := B.bytes
  have hr := B.returns
  have hts : ∀ w ∈ x_T, w.before ([.ref h0, .int (Int32.ofNat c9), .int vv] : List Value).toArray s = true := fun w h => atoms_spec (ws := (Jvm.Cond.code ({ cls := "ChannelMachineModel", name := "hand", desc := "(II)V" } : Jvm.MethodName) prog_12_method_36_code (5 : Nat) (Option.none : Option Jvm.ClassFile.FieldType)) :: x_T) B.pre w (List.mem_cons_of_mem _ h)
  have hown : s.vm.findClass "ChannelMachineModel" = some m.cls := findClass_of_methodNamed B.named
  have hlocks := B.notSynchronized
  subst hsz
  have hD := hD0.self (sz := s.heap.size)
  have hAN := x_AN hD0 hN0
  generalize hAe : va_A (m_W h0 ad ar I T A U) s.heap.size = Bq at hD hAN ⊢
  have hA : ∀ q : Nat, s.heap.size ≤ q → Bq q := fun q h => by rw [← hAe]; exact Or.inr h
  have hS : va_S Bq s.heap s.heap [] := va_S.rf
  have hl := lv_entry ([.ref h0, .int (Int32.ofNat c9), .int vv]) (n := 5) (Nat.le_of_ble_eq_true rfl)
  rw [lg_entry_eq]
  generalize (lg_sl ([.ref h0, .int (Int32.ofNat c9), .int vv]) ++ List.replicate (5 - (lg_sl ([.ref h0, .int (Int32.ofNat c9), .int vv])).length) Slot.unset).toArray = ls at hl ⊢
  have hl : lv_has ls 5 [(0, .ref h0), (1, .int (Int32.ofNat c9)), (2, .int vv)] := hl
  refine lv_aload_n hx hb d_Mo_hand_0 rfl (lv_at hl 0 rfl) ?_
  refine m_g hx hb hts hown hK hP 35 (by decide) rfl (hts _ k_1002) (v := .ref (ad 35)) rfl d_Mo_hand_1 ?_
  refine lv_iload_n hx hb d_Mo_hand_4 rfl (lv_at hl 1 rfl) ?_
  refine m_ld hx hb hK hP 21 rfl (by decide) (j := (Int32.ofNat c9)) (x_inN (by omega) (by decide)) d_Mo_hand_5 ?_
  refine W.eq (g2 := F0 m 6 ls [.int (Int32.ofNat r9)]) (by rw [x_nat (a := c9) (by omega), show A 35 c9 = (Int32.ofNat r9) from hr9]) ?_
  refine lv_istore_n (lv' := [(3, .int (Int32.ofNat r9)), (0, .ref h0), (1, .int (Int32.ofNat c9)), (2, .int vv)]) hx hb d_Mo_hand_6 rfl hl (by decide) rfl (fun ls hl => ?_)
  refine lv_aload_n hx hb d_Mo_hand_7 rfl (lv_at hl 1 rfl) ?_
  refine m_g hx hb hts hown hK hP 3 (by decide) rfl (hts _ k_970) (v := .ref (ad 3)) rfl d_Mo_hand_8 ?_
  refine lv_aload_n hx hb d_Mo_hand_11 rfl (lv_at hl 1 rfl) ?_
  refine m_g hx hb hts hown hK hP 36 (by decide) rfl (hts _ k_1003) (v := .ref (ad 36)) rfl d_Mo_hand_12 ?_
  refine lv_iload_n hx hb d_Mo_hand_15 rfl (lv_at hl 2 rfl) ?_
  refine m_ld hx hb hK hP 22 rfl (by decide) (j := (Int32.ofNat c9)) (x_inN (by omega) (by decide)) d_Mo_hand_16 ?_
  refine W.eq (g2 := F0 m 17 ls [.int (Int32.ofNat w9), .ref (ad 3)]) (by rw [x_nat (a := c9) (by omega), show A 36 c9 = (Int32.ofNat w9) from hw9]) ?_
  refine lv_iload_n hx hb d_Mo_hand_17 rfl (lv_at hl 3 rfl) ?_
  refine m_st hx hb hK hP hD hS 3 rfl (by decide) (j := (Int32.ofNat w9)) (x := vv) (x_inN (by omega) (by decide)) d_Mo_hand_18 (fun H locs hP hD hS => ?_)
  rw [x_nat (a := w9) (by omega)] at hP hD
  have hP : va_P (dC, dI) x_cl (m_W h0 ad ar I T (m_up A 3 (upd (A 3) w9 vv)) U) H := hP
  have hD : va_D Bq (m_W h0 ad ar I T (m_up A 3 (upd (A 3) w9 vv)) U) := hD
  refine lv_aload_n hx hb d_Mo_hand_19 rfl (lv_at hl 1 rfl) ?_
  refine m_g hx hb hts hown hK hP 20 (by decide) rfl (hts _ k_987) (v := .ref (ad 20)) rfl d_Mo_hand_20 ?_
  refine lv_iload_n hx hb d_Mo_hand_23 rfl (lv_at hl 0 rfl) ?_
  refine lv_aload_n hx hb d_Mo_hand_24 rfl (lv_at hl 1 rfl) ?_
  refine m_g hx hb hts hown hK hP 37 (by decide) rfl (hts _ k_1004) (v := .ref (ad 37)) rfl d_Mo_hand_25 ?_
  refine lv_iload_n hx hb d_Mo_hand_28 rfl (lv_at hl 2 rfl) ?_
  refine m_ld hx hb hK hP 23 rfl (by decide) (j := (Int32.ofNat c9)) (x_inN (by omega) (by decide)) d_Mo_hand_29 ?_
  refine W.eq (g2 := F0 m 30 ls [.int ((m_up A 3 (upd (A 3) w9 vv)) 37 (c9)), .int (Int32.ofNat r9), .ref (ad 20)]) (by rw [x_nat (a := c9) (by omega)]) ?_
  refine m_st hx hb hK hP hD hS 12 rfl (by decide) (j := (Int32.ofNat r9)) (x := ((m_up A 3 (upd (A 3) w9 vv)) 37 (c9))) (x_inN (by omega) (by decide)) d_Mo_hand_30 (fun H locs hP hD hS => ?_)
  rw [x_nat (a := r9) (by omega)] at hP hD
  have hP : va_P (dC, dI) x_cl (m_W h0 ad ar I T (m_up (m_up A 3 (upd (A 3) w9 vv)) 20 (upd (A 20) r9 ((m_up A 3 (upd (A 3) w9 vv)) 37 (c9)))) U) H := hP
  have hD : va_D Bq (m_W h0 ad ar I T (m_up (m_up A 3 (upd (A 3) w9 vv)) 20 (upd (A 20) r9 ((m_up A 3 (upd (A 3) w9 vv)) 37 (c9)))) U) := hD
  refine lv_iconst (v := 0) hx hb d_Mo_hand_31 (by decide) ?_
  refine W.eq (g2 := F0 m 32 ls [.int (Int32.ofNat 0)]) rfl ?_
  refine lv_istore (lv' := [(4, .int (Int32.ofNat 0)), (3, .int (Int32.ofNat r9)), (0, .ref h0), (1, .int (Int32.ofNat c9)), (2, .int vv)]) hx hb d_Mo_hand_32 hl (by decide) rfl (fun ls hl => ?_)
  refine x_while (fun n H locs ls => ∃ (A1 : Nat → Nat → Int32) (i1 : Nat), n = 6 - i1 ∧ i1 ≤ 6 ∧ m_fa [3, 20, 35] A A1 ∧ A1 20 = upd (A 20) r9 (A 37 c9) ∧ (∀ x, x < i1 → (A 35 x = Int32.ofNat r9 ∧ A1 35 x = -1) ∨ (¬ A 35 x = Int32.ofNat r9 ∧ A1 35 x = A 35 x)) ∧ (∀ x, i1 ≤ x → A1 35 x = A 35 x) ∧ va_P (dC, dI) x_cl (m_W h0 ad ar I T A1 U) H ∧ va_D Bq (m_W h0 ad ar I T A1 U) ∧ va_S Bq s.heap H locs ∧ lv_has ls 5 [(0, .ref h0), (3, .int (Int32.ofNat r9)), (4, .int (Int32.ofNat i1))]) (fun n ih H locs ls h9 => ?_) ⟨(m_up (m_up A 3 (upd (A 3) w9 vv)) 20 (upd (A 20) r9 ((m_up A 3 (upd (A 3) w9 vv)) 37 (c9)))), 0, rfl, Nat.zero_le _, ((m_fa.rf.up (by decide) _).up (by decide) _), rfl, fun x hx => absurd hx (Nat.not_lt_zero x), fun x _ => rfl, hP, hD, hS, lv_sub hl [2, 1, 0] rfl⟩
  obtain ⟨A1, i1, hn9, q1, hfa, e20, g1, g2, hP, hD, hS, hl⟩ := h9
  refine lv_iload hx hb d_Mo_hand_34 (lv_at hl 2 rfl) ?_
  refine lv_bipush (v := 6) hx hb d_Mo_hand_36 (by decide) ?_
  refine lv_icmp_ge (tgt := 66) hx hb d_Mo_hand_38 (by decide) (fun c1 => ?_) (fun c1 => ?_)
  · have c1 : 6 ≤ i1 := (x_leN (a := 6) (b := i1) (by omega) (by omega)).mp c1
    refine lv_aload_n hx hb d_Mo_hand_66 rfl (lv_at hl 0 rfl) ?_
    refine lv_iload_n hx hb d_Mo_hand_67 rfl (lv_at hl 1 rfl) ?_
    have hFc := m_free hD hS hA
    refine va_callv (va_runV (As := [.int (Int32.ofNat r9)]) (rest := []) ⟨hx, hb, hml, hown, hts⟩ (m_put l dC dI ar N0 z h0 ad I T A1 U q ((Int32.ofNat r9)) H.size h29 (by omega)) (cwV 1 hts (x_goodV k_1194 k_1196 kp_65 k_9 k_1197) rfl rfl rfl (by decide +kernel) ⟨Nat.le_of_ble_eq_true rfl, Nat.le_of_ble_eq_true rfl⟩) ⟨x_blind, va_recv hK hP (ci := 6) (q0 := 0) rfl rfl, fun U9 hU9 hW9 => x_pre hU9 hW9 hP hD hU hZ hS hAN hN0⟩ rfl rfl hl.1 rfl (lv_room (Nat.le_of_ble_eq_true rfl)) d_Mo_hand_68 ⟨Nat.le_of_ble_eq_true rfl, Nat.le_of_ble_eq_true rfl⟩) hS (fun q _ h => hFc q h) hFc (fun u t H1 locs ht hvm hw hB hz1 hk1 hS => ?_)
    obtain ⟨I3, T3, A3, U3⟩ := u
    dsimp only at hw hB
    rw [ht] at hB
    have hP : va_P (dC, dI) x_cl (m_W h0 ad ar I3 T3 A3 U3) H1 := hB
    have hD : va_D Bq (m_W h0 ad ar I3 T3 A3 U3) := m_D hD
    generalize H1 = H at hP hS ⊢
    refine W.widen (k := 0) (n := 0) (Nat.le_of_ble_eq_true rfl) (Nat.le_of_ble_eq_true rfl) ?_
    cases hw
    have hP : va_P (dC, dI) x_cl (m_W h0 ad ar (upd I 29 (Int32.ofNat (q + 1))) T (m_up A1 24 (upd (A1 24) q (Int32.ofNat r9))) U) H := hP
    have hD : va_D Bq (m_W h0 ad ar (upd I 29 (Int32.ofNat (q + 1))) T (m_up A1 24 (upd (A1 24) q (Int32.ofNat r9))) U) := hD
    refine W.widen (k := 0) (n := 0) (Nat.le_of_ble_eq_true rfl) (Nat.le_of_ble_eq_true rfl) ?_
    exact W.vret hx hb hr (fun t ht hW => ⟨⟨((upd I 29 (Int32.ofNat (q + 1))), T, (m_up A1 24 (upd (A1 24) q (Int32.ofNat r9))), U), rfl, ⟨rfl, rfl, rfl, (m_fa.rf.tr hfa (by decide)).up (by decide) _, e20, (show upd (A1 24) q (Int32.ofNat r9) = _ from by rw [hfa 24 (by decide)]), fun x hx => g1 x (by omega)⟩, by dsimp only; rw [ht]; exact hP⟩, hS.F ht⟩) hS.2.2 d_Mo_hand_71
  · have c1 : ¬ 6 ≤ i1 := fun h9 => c1 ((x_leN (a := 6) (b := i1) (by omega) (by omega)).mpr h9)
    refine lv_aload_n hx hb d_Mo_hand_41 rfl (lv_at hl 0 rfl) ?_
    refine m_g hx hb hts hown hK hP 35 (by decide) rfl (hts _ k_1002) (v := .ref (ad 35)) rfl d_Mo_hand_42 ?_
    refine lv_iload hx hb d_Mo_hand_45 (lv_at hl 2 rfl) ?_
    refine m_ld hx hb hK hP 21 rfl (by decide) (j := (Int32.ofNat i1)) (x_inN (by omega) (by decide)) d_Mo_hand_47 ?_
    refine W.eq (g2 := F0 m 48 ls [.int (A1 35 (i1))]) (by rw [x_nat (a := i1) (by omega)]) ?_
    refine lv_iload_n hx hb d_Mo_hand_48 rfl (lv_at hl 1 rfl) ?_
    refine lv_icmp_ne (tgt := 60) hx hb d_Mo_hand_49 (by decide) (fun c4 => ?_) (fun c4 => ?_)
    · refine lv_iinc (v := (Int32.ofNat (i1 + 1))) (lv' := [(4, .int (Int32.ofNat (i1 + 1))), (0, .ref h0), (3, .int (Int32.ofNat r9))]) hx hb d_Mo_hand_60 hl (k := 2) rfl (x_incN i1) (by decide) rfl (fun ls hl => ?_)
      refine lv_goto (tgt := 34) hx hb d_Mo_hand_63 (by decide) ?_
      exact ih (6 - (i1 + 1)) (by omega) H locs ls ⟨A1, i1 + 1, rfl, by omega, hfa, e20, fun x hx => (if e : x = i1 then Or.inr (by rw [e]; exact ⟨by rw [← g2 i1 (Nat.le_refl _)]; exact c4, g2 i1 (Nat.le_refl _)⟩) else g1 x (by omega)), fun x hx => g2 x (by omega), hP, hD, hS, lv_sub hl [1, 2, 0] rfl⟩
    · refine lv_aload_n hx hb d_Mo_hand_52 rfl (lv_at hl 0 rfl) ?_
      refine m_g hx hb hts hown hK hP 35 (by decide) rfl (hts _ k_1002) (v := .ref (ad 35)) rfl d_Mo_hand_53 ?_
      refine lv_iload hx hb d_Mo_hand_56 (lv_at hl 2 rfl) ?_
      refine lv_iconst (v := (-1)) hx hb d_Mo_hand_58 (by decide) ?_
      refine m_st hx hb hK hP hD hS 21 rfl (by decide) (j := (Int32.ofNat i1)) (x := (-1)) (x_inN (by omega) (by decide)) d_Mo_hand_59 (fun H locs hP hD hS => ?_)
      rw [x_nat (a := i1) (by omega)] at hP hD
      have hP : va_P (dC, dI) x_cl (m_W h0 ad ar I T (m_up A1 35 (upd (A1 35) i1 (-1))) U) H := hP
      have hD : va_D Bq (m_W h0 ad ar I T (m_up A1 35 (upd (A1 35) i1 (-1))) U) := hD
      refine lv_iinc (v := (Int32.ofNat (i1 + 1))) (lv' := [(4, .int (Int32.ofNat (i1 + 1))), (0, .ref h0), (3, .int (Int32.ofNat r9))]) hx hb d_Mo_hand_60 hl (k := 2) rfl (x_incN i1) (by decide) rfl (fun ls hl => ?_)
      refine lv_goto (tgt := 34) hx hb d_Mo_hand_63 (by decide) ?_
      exact ih (6 - (i1 + 1)) (by omega) H locs ls ⟨(m_up A1 35 (upd (A1 35) i1 (-1))), i1 + 1, rfl, by omega, (hfa.up (by decide) _), e20, fun x hx => (if e : x = i1 then Or.inl (by rw [e]; exact ⟨by rw [← g2 i1 (Nat.le_refl _)]; exact c4, by rw [m_up_s, upd_s]⟩) else (g1 x (by omega)).imp (fun h => ⟨h.1, by rw [m_up_s, upd_n e]; exact h.2⟩) (fun h => ⟨h.1, by rw [m_up_s, upd_n e]; exact h.2⟩)), fun x hx => (by rw [m_up_s, upd_n (by omega)]; exact g2 x (by omega)), hP, hD, hS, lv_sub hl [1, 2, 0] rfl⟩
set_option maxHeartbeats 4000000 in
set_option maxRecDepth 100000 in
theorem m_due (l : Launch) (dC : Nat → ClassId) (dI : Nat → Nat → Nat) (ar : Nat → ClassId) (N0 : Nat) (z : Nat → Nat) (h0 : Nat) (ad : Nat → Nat) (I : Nat → Int32) (T : Int64) (A : Nat → Nat → Int32) (U : Nat → Int64)  (sz : Nat) : Met l ({ cls := "ChannelMachineModel", name := "due", desc := "()I" } : Jvm.MethodName) ((Jvm.Cond.code ({ cls := "ChannelMachineModel", name := "due", desc := "()I" } : Jvm.MethodName) prog_12_method_30_code (3 : Nat) (Option.some Jvm.ClassFile.FieldType.int)) :: x_T) ({ frames := 0, cells := 0, slots := 0, locals := 0 }) (x_Pc (dC, dI) ar N0 z (m_W h0 ad ar I T A U) sz [.ref h0]) (va_Qi (fun (r : Int32) (u : (Nat → Int32) × Int64 × (Nat → Nat → Int32) × (Nat → Int64)) => u = (I, T, A, U) ∧ ((r = -1 ∧ ∀ x, x < 90 → ¬ A 27 x = 0 → ¬ A 28 x = 0 → ¬ U x = T) ∨ ∃ t0 : Nat, t0 < 90 ∧ r = Int32.ofNat t0 ∧ ¬ A 27 t0 = 0 ∧ ¬ A 28 t0 = 0)) (fun u t => va_P (dC, dI) x_cl (m_W h0 ad ar u.1 u.2.1 u.2.2.1 u.2.2.2) t.heap) (va_A (m_W h0 ad ar I T A U) sz)) 0 0 (va_A (m_W h0 ad ar I T A U) sz) := by
  refine Met.ofW (cc := prog_12_method_30_code) (maxL := 3) (ret := (some .int)) (by decide) rfl ?_
  intro p e s m args below meth c s₁ B hml hv
  obtain ⟨rfl, hsz, hN0, hP, hU, hZ, hD0⟩ := hv
  have hK := hU.1
  have hx := B.exec
  have hb := B.bytes
  have hr := B.returns
  have hts : ∀ w ∈ x_T, w.before ([.ref h0] : List Value).toArray s = true := fun w h => atoms_spec (ws := (Jvm.Cond.code ({ cls := "ChannelMachineModel", name := "due", desc := "()I" } : Jvm.MethodName) prog_12_method_30_code (3 : Nat) (Option.some Jvm.ClassFile.FieldType.int)) :: x_T) B.pre w (List.mem_cons_of_mem _ h)
  have hown : s.vm.findClass "ChannelMachineModel" = some m.cls := findClass_of_methodNamed B.named
  have hlocks := B.notSynchronized
  subst hsz
  have hD := hD0.self (sz := s.heap.size)
  have hAN := x_AN hD0 hN0
  generalize hAe : va_A (m_W h0 ad ar I T A U) s.heap.size = Bq at hD hAN ⊢
  have hA : ∀ q : Nat, s.heap.size ≤ q → Bq q := fun q h => by rw [← hAe]; exact Or.inr h
  have hS : va_S Bq s.heap s.heap [] := va_S.rf
  have hl := lv_entry ([.ref h0]) (n := 3) (Nat.le_of_ble_eq_true rfl)
  rw [lg_entry_eq]
  generalize (lg_sl ([.ref h0]) ++ List.replicate (3 - (lg_sl ([.ref h0])).length) Slot.unset).toArray = ls at hl ⊢
  have hl : lv_has ls 3 [(0, .ref h0)] := hl
  refine lv_iconst (v := (-1)) hx hb d_Mo_due_0 (by decide) ?_
  refine lv_istore_n (lv' := [(1, .int (-1)), (0, .ref h0)]) hx hb d_Mo_due_1 rfl hl (by decide) rfl (fun ls hl => ?_)
  refine lv_iconst (v := 0) hx hb d_Mo_due_2 (by decide) ?_
  refine W.eq (g2 := F0 m 3 ls [.int (Int32.ofNat 0)]) rfl ?_
  refine lv_istore_n (lv' := [(2, .int (Int32.ofNat 0)), (1, .int (-1)), (0, .ref h0)]) hx hb d_Mo_due_3 rfl hl (by decide) rfl (fun ls hl => ?_)
  refine x_while (fun n H locs ls => ∃ (f9 : Int32) (t1 : Nat), n = 90 - t1 ∧ t1 ≤ 90 ∧ ((f9 = -1 ∧ ∀ x, x < t1 → ¬ A 27 x = 0 → ¬ A 28 x = 0 → ¬ U x = T) ∨ ∃ t0 : Nat, t0 < 90 ∧ f9 = Int32.ofNat t0 ∧ ¬ A 27 t0 = 0 ∧ ¬ A 28 t0 = 0) ∧ va_P (dC, dI) x_cl (m_W h0 ad ar I T A U) H ∧ va_D Bq (m_W h0 ad ar I T A U) ∧ va_S Bq s.heap H locs ∧ lv_has ls 3 [(0, .ref h0), (1, .int f9), (2, .int (Int32.ofNat t1))]) (fun n ih H locs ls h9 => ?_) ⟨-1, 0, rfl, Nat.zero_le _, Or.inl ⟨rfl, fun x hx => absurd hx (Nat.not_lt_zero x)⟩, hP, hD, hS, lv_sub hl [2, 1, 0] rfl⟩
  obtain ⟨f9, t1, hn9, q1, hf, hP, hD, hS, hl⟩ := h9
  rcases hf with ⟨rfl, hf⟩ | ⟨t0, ht0, rfl, hf1, hf2⟩
  · have hl : lv_has ls 3 [(0, .ref h0), (1, .int (-1)), (2, .int (Int32.ofNat t1))] := hl
    refine lv_iload_n hx hb d_Mo_due_4 rfl (lv_at hl 2 rfl) ?_
    refine lv_bipush (v := 90) hx hb d_Mo_due_5 (by decide) ?_
    refine lv_icmp_ge (tgt := 69) hx hb d_Mo_due_7 (by decide) (fun c1 => ?_) (fun c1 => ?_)
    · have c1 : 90 ≤ t1 := (x_leN (a := 90) (b := t1) (by omega) (by omega)).mp c1
      refine lv_iload_n hx hb d_Mo_due_69 rfl (lv_at hl 1 rfl) ?_
      refine W.widen (k := 0) (n := 0) (Nat.le_of_ble_eq_true rfl) (Nat.le_of_ble_eq_true rfl) ?_
      exact W.iret (v := (-1)) hx hb hr (fun t ht hW => ⟨⟨(-1), (I, T, A, U), rfl, ⟨rfl, Or.inl ⟨rfl, fun x hx => hf x (by omega)⟩⟩, by dsimp only; rw [ht]; exact hP⟩, hS.F ht⟩) hS.2.2 d_Mo_due_70
    · have c1 : ¬ 90 ≤ t1 := fun h9 => c1 ((x_leN (a := 90) (b := t1) (by omega) (by omega)).mpr h9)
      refine lv_aload_n hx hb d_Mo_due_10 rfl (lv_at hl 0 rfl) ?_
      refine m_g hx hb hts hown hK hP 27 (by decide) rfl (hts _ k_994) (v := .ref (ad 27)) rfl d_Mo_due_11 ?_
      refine lv_iload_n hx hb d_Mo_due_14 rfl (lv_at hl 2 rfl) ?_
      refine m_zld hx hb hK hP 19 rfl (by decide) (j := (Int32.ofNat t1)) (x_inN (by omega) (by decide)) d_Mo_due_15 ?_
      refine W.eq (g2 := F0 m 16 ls [.int (A 27 (t1))]) (by rw [x_nat (a := t1) (by omega)]) ?_
      refine lv_if_eq (tgt := 63) hx hb d_Mo_due_16 (by decide) (fun c2 => ?_) (fun c2 => ?_)
      · refine lv_iinc (v := (Int32.ofNat (t1 + 1))) (lv' := [(2, .int (Int32.ofNat (t1 + 1))), (0, .ref h0), (1, .int (-1))]) hx hb d_Mo_due_63 hl (k := 2) rfl (x_incN t1) (by decide) rfl (fun ls hl => ?_)
        refine lv_goto (tgt := 4) hx hb d_Mo_due_66 (by decide) ?_
        exact ih (90 - (t1 + 1)) (by omega) H locs ls ⟨_, t1 + 1, rfl, by omega, Or.inl ⟨rfl, fun x hx h1 h2 => (if e : x = t1 then (by subst e; exact absurd c2 h1) else hf x (by omega) h1 h2)⟩, hP, hD, hS, lv_sub hl [1, 2, 0] rfl⟩
      · refine lv_aload_n hx hb d_Mo_due_19 rfl (lv_at hl 0 rfl) ?_
        refine m_g hx hb hts hown hK hP 28 (by decide) rfl (hts _ k_995) (v := .ref (ad 28)) rfl d_Mo_due_20 ?_
        refine lv_iload_n hx hb d_Mo_due_23 rfl (lv_at hl 2 rfl) ?_
        refine m_zld hx hb hK hP 20 rfl (by decide) (j := (Int32.ofNat t1)) (x_inN (by omega) (by decide)) d_Mo_due_24 ?_
        refine W.eq (g2 := F0 m 25 ls [.int (A 28 (t1))]) (by rw [x_nat (a := t1) (by omega)]) ?_
        refine lv_if_eq (tgt := 63) hx hb d_Mo_due_25 (by decide) (fun c3 => ?_) (fun c3 => ?_)
        · refine lv_iinc (v := (Int32.ofNat (t1 + 1))) (lv' := [(2, .int (Int32.ofNat (t1 + 1))), (0, .ref h0), (1, .int (-1))]) hx hb d_Mo_due_63 hl (k := 2) rfl (x_incN t1) (by decide) rfl (fun ls hl => ?_)
          refine lv_goto (tgt := 4) hx hb d_Mo_due_66 (by decide) ?_
          exact ih (90 - (t1 + 1)) (by omega) H locs ls ⟨_, t1 + 1, rfl, by omega, Or.inl ⟨rfl, fun x hx h1 h2 => (if e : x = t1 then (by subst e; exact absurd c3 h2) else hf x (by omega) h1 h2)⟩, hP, hD, hS, lv_sub hl [1, 2, 0] rfl⟩
        · refine lv_aload_n hx hb d_Mo_due_28 rfl (lv_at hl 0 rfl) ?_
          refine m_g hx hb hts hown hK hP 26 (by decide) rfl (hts _ k_993) (v := .ref (ad 26)) rfl d_Mo_due_29 ?_
          refine lv_iload_n hx hb d_Mo_due_32 rfl (lv_at hl 2 rfl) ?_
          refine m_lld hx hb hK hP 18 rfl (j := (Int32.ofNat t1)) (x_inN (by omega) (by decide)) d_Mo_due_33 ?_
          refine W.eq (g2 := F0 m 34 ls [.long (U t1)]) (by rw [x_nat (a := t1) (by omega)]) ?_
          refine lv_aload_n hx hb d_Mo_due_34 rfl (lv_at hl 0 rfl) ?_
          refine m_g hx hb hts hown hK hP 34 (by decide) rfl (hts _ k_1001) (v := .long T) rfl d_Mo_due_35 ?_
          refine x_lcmp hx hb d_Mo_due_38 (fun v4 hv4 => ?_)
          refine lv_if_ne (tgt := 63) hx hb d_Mo_due_39 (by decide) (fun c5 => ?_) (fun c5 => ?_)
          · refine lv_iinc (v := (Int32.ofNat (t1 + 1))) (lv' := [(2, .int (Int32.ofNat (t1 + 1))), (0, .ref h0), (1, .int (-1))]) hx hb d_Mo_due_63 hl (k := 2) rfl (x_incN t1) (by decide) rfl (fun ls hl => ?_)
            refine lv_goto (tgt := 4) hx hb d_Mo_due_66 (by decide) ?_
            exact ih (90 - (t1 + 1)) (by omega) H locs ls ⟨_, t1 + 1, rfl, by omega, Or.inl ⟨rfl, fun x hx h1 h2 => (if e : x = t1 then (by subst e; exact fun h3 => c5 (hv4.z.mpr h3)) else hf x (by omega) h1 h2)⟩, hP, hD, hS, lv_sub hl [1, 2, 0] rfl⟩
          · refine lv_iload_n hx hb d_Mo_due_42 rfl (lv_at hl 1 rfl) ?_
            refine lv_if_lt (tgt := 61) hx hb d_Mo_due_43 (by decide) (fun _ => ?_) (fun c6 => absurd (by decide) c6)
            refine lv_iload_n hx hb d_Mo_due_61 rfl (lv_at hl 2 rfl) ?_
            refine lv_istore_n (lv' := [(1, .int (Int32.ofNat t1)), (0, .ref h0), (2, .int (Int32.ofNat t1))]) hx hb d_Mo_due_62 rfl hl (by decide) rfl (fun ls hl => ?_)
            refine lv_iinc (v := (Int32.ofNat (t1 + 1))) (lv' := [(2, .int (Int32.ofNat (t1 + 1))), (1, .int (Int32.ofNat t1)), (0, .ref h0)]) hx hb d_Mo_due_63 hl (k := 2) rfl (x_incN t1) (by decide) rfl (fun ls hl => ?_)
            refine lv_goto (tgt := 4) hx hb d_Mo_due_66 (by decide) ?_
            exact ih (90 - (t1 + 1)) (by omega) H locs ls ⟨_, t1 + 1, rfl, by omega, Or.inr ⟨t1, by omega, rfl, c2, c3⟩, hP, hD, hS, lv_sub hl [2, 1, 0] rfl⟩
  · have hl : lv_has ls 3 [(0, .ref h0), (1, .int (Int32.ofNat t0)), (2, .int (Int32.ofNat t1))] := hl
    refine lv_iload_n hx hb d_Mo_due_4 rfl (lv_at hl 2 rfl) ?_
    refine lv_bipush (v := 90) hx hb d_Mo_due_5 (by decide) ?_
    refine lv_icmp_ge (tgt := 69) hx hb d_Mo_due_7 (by decide) (fun c7 => ?_) (fun c7 => ?_)
    · have c7 : 90 ≤ t1 := (x_leN (a := 90) (b := t1) (by omega) (by omega)).mp c7
      refine lv_iload_n hx hb d_Mo_due_69 rfl (lv_at hl 1 rfl) ?_
      refine W.widen (k := 0) (n := 0) (Nat.le_of_ble_eq_true rfl) (Nat.le_of_ble_eq_true rfl) ?_
      exact W.iret (v := (Int32.ofNat t0)) hx hb hr (fun t ht hW => ⟨⟨(Int32.ofNat t0), (I, T, A, U), rfl, ⟨rfl, Or.inr ⟨t0, ht0, rfl, hf1, hf2⟩⟩, by dsimp only; rw [ht]; exact hP⟩, hS.F ht⟩) hS.2.2 d_Mo_due_70
    · have c7 : ¬ 90 ≤ t1 := fun h9 => c7 ((x_leN (a := 90) (b := t1) (by omega) (by omega)).mpr h9)
      refine lv_aload_n hx hb d_Mo_due_10 rfl (lv_at hl 0 rfl) ?_
      refine m_g hx hb hts hown hK hP 27 (by decide) rfl (hts _ k_994) (v := .ref (ad 27)) rfl d_Mo_due_11 ?_
      refine lv_iload_n hx hb d_Mo_due_14 rfl (lv_at hl 2 rfl) ?_
      refine m_zld hx hb hK hP 19 rfl (by decide) (j := (Int32.ofNat t1)) (x_inN (by omega) (by decide)) d_Mo_due_15 ?_
      refine W.eq (g2 := F0 m 16 ls [.int (A 27 (t1))]) (by rw [x_nat (a := t1) (by omega)]) ?_
      refine lv_if_eq (tgt := 63) hx hb d_Mo_due_16 (by decide) (fun c8 => ?_) (fun c8 => ?_)
      · refine lv_iinc (v := (Int32.ofNat (t1 + 1))) (lv' := [(2, .int (Int32.ofNat (t1 + 1))), (0, .ref h0), (1, .int (Int32.ofNat t0))]) hx hb d_Mo_due_63 hl (k := 2) rfl (x_incN t1) (by decide) rfl (fun ls hl => ?_)
        refine lv_goto (tgt := 4) hx hb d_Mo_due_66 (by decide) ?_
        exact ih (90 - (t1 + 1)) (by omega) H locs ls ⟨_, t1 + 1, rfl, by omega, Or.inr ⟨t0, ht0, rfl, hf1, hf2⟩, hP, hD, hS, lv_sub hl [1, 2, 0] rfl⟩
      · refine lv_aload_n hx hb d_Mo_due_19 rfl (lv_at hl 0 rfl) ?_
        refine m_g hx hb hts hown hK hP 28 (by decide) rfl (hts _ k_995) (v := .ref (ad 28)) rfl d_Mo_due_20 ?_
        refine lv_iload_n hx hb d_Mo_due_23 rfl (lv_at hl 2 rfl) ?_
        refine m_zld hx hb hK hP 20 rfl (by decide) (j := (Int32.ofNat t1)) (x_inN (by omega) (by decide)) d_Mo_due_24 ?_
        refine W.eq (g2 := F0 m 25 ls [.int (A 28 (t1))]) (by rw [x_nat (a := t1) (by omega)]) ?_
        refine lv_if_eq (tgt := 63) hx hb d_Mo_due_25 (by decide) (fun c9 => ?_) (fun c9 => ?_)
        · refine lv_iinc (v := (Int32.ofNat (t1 + 1))) (lv' := [(2, .int (Int32.ofNat (t1 + 1))), (0, .ref h0), (1, .int (Int32.ofNat t0))]) hx hb d_Mo_due_63 hl (k := 2) rfl (x_incN t1) (by decide) rfl (fun ls hl => ?_)
          refine lv_goto (tgt := 4) hx hb d_Mo_due_66 (by decide) ?_
          exact ih (90 - (t1 + 1)) (by omega) H locs ls ⟨_, t1 + 1, rfl, by omega, Or.inr ⟨t0, ht0, rfl, hf1, hf2⟩, hP, hD, hS, lv_sub hl [1, 2, 0] rfl⟩
        · refine lv_aload_n hx hb d_Mo_due_28 rfl (lv_at hl 0 rfl) ?_
          refine m_g hx hb hts hown hK hP 26 (by decide) rfl (hts _ k_993) (v := .ref (ad 26)) rfl d_Mo_due_29 ?_
          refine lv_iload_n hx hb d_Mo_due_32 rfl (lv_at hl 2 rfl) ?_
          refine m_lld hx hb hK hP 18 rfl (j := (Int32.ofNat t1)) (x_inN (by omega) (by decide)) d_Mo_due_33 ?_
          refine W.eq (g2 := F0 m 34 ls [.long (U t1)]) (by rw [x_nat (a := t1) (by omega)]) ?_
          refine lv_aload_n hx hb d_Mo_due_34 rfl (lv_at hl 0 rfl) ?_
          refine m_g hx hb hts hown hK hP 34 (by decide) rfl (hts _ k_1001) (v := .long T) rfl d_Mo_due_35 ?_
          refine x_lcmp hx hb d_Mo_due_38 (fun v10 hv10 => ?_)
          refine lv_if_ne (tgt := 63) hx hb d_Mo_due_39 (by decide) (fun c11 => ?_) (fun c11 => ?_)
          · refine lv_iinc (v := (Int32.ofNat (t1 + 1))) (lv' := [(2, .int (Int32.ofNat (t1 + 1))), (0, .ref h0), (1, .int (Int32.ofNat t0))]) hx hb d_Mo_due_63 hl (k := 2) rfl (x_incN t1) (by decide) rfl (fun ls hl => ?_)
            refine lv_goto (tgt := 4) hx hb d_Mo_due_66 (by decide) ?_
            exact ih (90 - (t1 + 1)) (by omega) H locs ls ⟨_, t1 + 1, rfl, by omega, Or.inr ⟨t0, ht0, rfl, hf1, hf2⟩, hP, hD, hS, lv_sub hl [1, 2, 0] rfl⟩
          · refine lv_iload_n hx hb d_Mo_due_42 rfl (lv_at hl 1 rfl) ?_
            refine lv_if_lt (tgt := 61) hx hb d_Mo_due_43 (by decide) (fun c => absurd ((x_ltN (a := t0) (b := 0) (by omega) (by omega)).mp c) (Nat.not_lt_zero _)) (fun _ => ?_)
            refine lv_aload_n hx hb d_Mo_due_46 rfl (lv_at hl 0 rfl) ?_
            refine m_g hx hb hts hown hK hP 23 (by decide) rfl (hts _ k_990) (v := .ref (ad 23)) rfl d_Mo_due_47 ?_
            refine lv_iload_n hx hb d_Mo_due_50 rfl (lv_at hl 2 rfl) ?_
            refine m_ld hx hb hK hP 15 rfl (by decide) (j := (Int32.ofNat t1)) (x_inN (by omega) (by decide)) d_Mo_due_51 ?_
            refine W.eq (g2 := F0 m 52 ls [.int (A 23 (t1))]) (by rw [x_nat (a := t1) (by omega)]) ?_
            refine lv_aload_n hx hb d_Mo_due_52 rfl (lv_at hl 0 rfl) ?_
            refine m_g hx hb hts hown hK hP 23 (by decide) rfl (hts _ k_990) (v := .ref (ad 23)) rfl d_Mo_due_53 ?_
            refine lv_iload_n hx hb d_Mo_due_56 rfl (lv_at hl 1 rfl) ?_
            refine m_ld hx hb hK hP 15 rfl (by decide) (j := (Int32.ofNat t0)) (x_inN (by omega) (by decide)) d_Mo_due_57 ?_
            refine W.eq (g2 := F0 m 58 ls [.int (A 23 (t0)), .int (A 23 (t1))]) (by rw [x_nat (a := t0) (by omega)]) ?_
            refine lv_icmp_ge (tgt := 63) hx hb d_Mo_due_58 (by decide) (fun c12 => ?_) (fun c12 => ?_)
            · refine lv_iinc (v := (Int32.ofNat (t1 + 1))) (lv' := [(2, .int (Int32.ofNat (t1 + 1))), (0, .ref h0), (1, .int (Int32.ofNat t0))]) hx hb d_Mo_due_63 hl (k := 2) rfl (x_incN t1) (by decide) rfl (fun ls hl => ?_)
              refine lv_goto (tgt := 4) hx hb d_Mo_due_66 (by decide) ?_
              exact ih (90 - (t1 + 1)) (by omega) H locs ls ⟨_, t1 + 1, rfl, by omega, Or.inr ⟨t0, ht0, rfl, hf1, hf2⟩, hP, hD, hS, lv_sub hl [1, 2, 0] rfl⟩
            · refine lv_iload_n hx hb d_Mo_due_61 rfl (lv_at hl 2 rfl) ?_
              refine lv_istore_n (lv' := [(1, .int (Int32.ofNat t1)), (0, .ref h0), (2, .int (Int32.ofNat t1))]) hx hb d_Mo_due_62 rfl hl (by decide) rfl (fun ls hl => ?_)
              refine lv_iinc (v := (Int32.ofNat (t1 + 1))) (lv' := [(2, .int (Int32.ofNat (t1 + 1))), (1, .int (Int32.ofNat t1)), (0, .ref h0)]) hx hb d_Mo_due_63 hl (k := 2) rfl (x_incN t1) (by decide) rfl (fun ls hl => ?_)
              refine lv_goto (tgt := 4) hx hb d_Mo_due_66 (by decide) ?_
              exact ih (90 - (t1 + 1)) (by omega) H locs ls ⟨_, t1 + 1, rfl, by omega, Or.inr ⟨t1, by omega, rfl, c8, c9⟩, hP, hD, hS, lv_sub hl [2, 1, 0] rfl⟩
