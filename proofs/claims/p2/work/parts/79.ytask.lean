-- ===== 79.ytask: rows of values; a task finds its next ACT, by program =====
theorem k_18 : (Jvm.Cond.initialized "ChannelMachine$Task") ∈ x_T := x_at 18 (by decide +kernel) (by decide +kernel)
theorem k_449 : (Jvm.Cond.fieldLink "ChannelMachine$Task" (26 : Nat) "ChannelMachine$Task" "whole" "LChannelMachine$Process;") ∈ x_T := x_at 449 (by decide +kernel) (by decide +kernel)
theorem k_637 : (Jvm.Cond.instanceMethod ({ cls := "ChannelMachine$Task", name := "enter", desc := "(LChannelMachine$Process;)V" } : Jvm.MethodName)) ∈ x_T := x_at 637 (by decide +kernel) (by decide +kernel)
theorem k_638 : (Jvm.Cond.selects "ChannelMachine$Task" ({ cls := "ChannelMachine$Task", name := "enter", desc := "(LChannelMachine$Process;)V" } : Jvm.MethodName) ({ cls := "ChannelMachine$Task", name := "enter", desc := "(LChannelMachine$Process;)V" } : Jvm.MethodName)) ∈ x_T := x_at 638 (by decide +kernel) (by decide +kernel)
theorem k_639 : (Jvm.Cond.code ({ cls := "ChannelMachine$Task", name := "enter", desc := "(LChannelMachine$Process;)V" } : Jvm.MethodName) prog_10_method_2_code (2 : Nat) (Option.none : Option Jvm.ClassFile.FieldType)) ∈ x_T := x_at 639 (by decide +kernel) (by decide +kernel)
theorem k_644 : (Jvm.Cond.constant "ChannelMachine$Task" (37 : Nat) (1000000 : Int32)) ∈ x_T := x_at 644 (by decide +kernel) (by decide +kernel)
theorem k_645 : (Jvm.Cond.fieldLink "ChannelMachine$Task" (44 : Nat) "ChannelMachine$Kind" "SEQUENCE" "LChannelMachine$Kind;") ∈ x_T := x_at 645 (by decide +kernel) (by decide +kernel)
theorem k_646 : (Jvm.Cond.fieldLink "ChannelMachine$Task" (55 : Nat) "ChannelMachine$Kind" "LOOP" "LChannelMachine$Kind;") ∈ x_T := x_at 646 (by decide +kernel) (by decide +kernel)
theorem k_647 : (Jvm.Cond.methodLink "ChannelMachine$Task" (58 : Nat) ({ cls := "ChannelMachine$Task", name := "enter", desc := "(LChannelMachine$Process;)V" } : Jvm.MethodName)) ∈ x_T := x_at 647 (by decide +kernel) (by decide +kernel)
theorem k_866 : (Jvm.Cond.methodLink "ChannelMachine$Row" (19 : Nat) ({ cls := "java/lang/System", name := "arraycopy", desc := "(Ljava/lang/Object;ILjava/lang/Object;II)V" } : Jvm.MethodName)) ∈ x_T := x_at 866 (by decide +kernel) (by decide +kernel)
theorem kn_390 : (Jvm.Cond.fieldLinkNest "ChannelMachine$Task" (38 : Nat) "ChannelMachine$Process" "kind" "LChannelMachine$Kind;" "ChannelMachine") ∈ x_nest := x_nest_at 390 (by decide +kernel) (by decide +kernel)
theorem kn_394 : (Jvm.Cond.fieldLinkNest "ChannelMachine$Task" (52 : Nat) "ChannelMachine$Process" "parent" "LChannelMachine$Process;" "ChannelMachine") ∈ x_nest := x_nest_at 394 (by decide +kernel) (by decide +kernel)
theorem kn_396 : (Jvm.Cond.fieldLinkNest "ChannelMachine$Task" (49 : Nat) "ChannelMachine$Process" "first" "LChannelMachine$Process;" "ChannelMachine") ∈ x_nest := x_nest_at 396 (by decide +kernel) (by decide +kernel)
theorem kn_403 : (Jvm.Cond.fieldLinkNest "ChannelMachine$Task" (62 : Nat) "ChannelMachine$Process" "next" "LChannelMachine$Process;" "ChannelMachine") ∈ x_nest := x_nest_at 403 (by decide +kernel) (by decide +kernel)
theorem d_Row_isFull_0 : decode prog_9_method_2_code 0 = .ok (.aload_n 0, 1) := by decide +kernel
theorem d_Row_isFull_1 : decode prog_9_method_2_code 1 = .ok (.getfield 15, 3) := by decide +kernel
theorem d_Row_isFull_4 : decode prog_9_method_2_code 4 = .ok (.bipush 8, 2) := by decide +kernel
theorem d_Row_isFull_6 : decode prog_9_method_2_code 6 = .ok (.if_icmp .lt 7, 3) := by decide +kernel
theorem d_Row_isFull_9 : decode prog_9_method_2_code 9 = .ok (.iconst 1, 1) := by decide +kernel
theorem d_Row_isFull_10 : decode prog_9_method_2_code 10 = .ok (.goto 4, 3) := by decide +kernel
theorem d_Row_isFull_13 : decode prog_9_method_2_code 13 = .ok (.iconst 0, 1) := by decide +kernel
theorem d_Row_isFull_14 : decode prog_9_method_2_code 14 = .ok (.ireturn, 1) := by decide +kernel
theorem d_Row_addLast_0 : decode prog_9_method_3_code 0 = .ok (.aload_n 0, 1) := by decide +kernel
theorem d_Row_addLast_1 : decode prog_9_method_3_code 1 = .ok (.getfield 15, 3) := by decide +kernel
theorem d_Row_addLast_4 : decode prog_9_method_3_code 4 = .ok (.bipush 8, 2) := by decide +kernel
theorem d_Row_addLast_6 : decode prog_9_method_3_code 6 = .ok (.if_icmp .ge 23, 3) := by decide +kernel
theorem d_Row_addLast_9 : decode prog_9_method_3_code 9 = .ok (.aload_n 0, 1) := by decide +kernel
theorem d_Row_addLast_10 : decode prog_9_method_3_code 10 = .ok (.getfield 9, 3) := by decide +kernel
theorem d_Row_addLast_13 : decode prog_9_method_3_code 13 = .ok (.aload_n 0, 1) := by decide +kernel
theorem d_Row_addLast_14 : decode prog_9_method_3_code 14 = .ok (.getfield 15, 3) := by decide +kernel
theorem d_Row_addLast_17 : decode prog_9_method_3_code 17 = .ok (.iload_n 1, 1) := by decide +kernel
theorem d_Row_addLast_18 : decode prog_9_method_3_code 18 = .ok (.iastore, 1) := by decide +kernel
theorem d_Row_addLast_19 : decode prog_9_method_3_code 19 = .ok (.aload_n 0, 1) := by decide +kernel
theorem d_Row_addLast_20 : decode prog_9_method_3_code 20 = .ok (.dup, 1) := by decide +kernel
theorem d_Row_addLast_21 : decode prog_9_method_3_code 21 = .ok (.getfield 15, 3) := by decide +kernel
theorem d_Row_addLast_24 : decode prog_9_method_3_code 24 = .ok (.iconst 1, 1) := by decide +kernel
theorem d_Row_addLast_25 : decode prog_9_method_3_code 25 = .ok (.iadd, 1) := by decide +kernel
theorem d_Row_addLast_26 : decode prog_9_method_3_code 26 = .ok (.putfield 15, 3) := by decide +kernel
theorem d_Row_addLast_29 : decode prog_9_method_3_code 29 = .ok (.return_, 1) := by decide +kernel
theorem d_Row_removeFirst_0 : decode prog_9_method_4_code 0 = .ok (.aload_n 0, 1) := by decide +kernel
theorem d_Row_removeFirst_1 : decode prog_9_method_4_code 1 = .ok (.getfield 15, 3) := by decide +kernel
theorem d_Row_removeFirst_4 : decode prog_9_method_4_code 4 = .ok (.ifCond .ne 5, 3) := by decide +kernel
theorem d_Row_removeFirst_7 : decode prog_9_method_4_code 7 = .ok (.iconst 0, 1) := by decide +kernel
theorem d_Row_removeFirst_8 : decode prog_9_method_4_code 8 = .ok (.ireturn, 1) := by decide +kernel
theorem d_Row_removeFirst_9 : decode prog_9_method_4_code 9 = .ok (.aload_n 0, 1) := by decide +kernel
theorem d_Row_removeFirst_10 : decode prog_9_method_4_code 10 = .ok (.getfield 9, 3) := by decide +kernel
theorem d_Row_removeFirst_13 : decode prog_9_method_4_code 13 = .ok (.iconst 0, 1) := by decide +kernel
theorem d_Row_removeFirst_14 : decode prog_9_method_4_code 14 = .ok (.iaload, 1) := by decide +kernel
theorem d_Row_removeFirst_15 : decode prog_9_method_4_code 15 = .ok (.istore_n 1, 1) := by decide +kernel
theorem d_Row_removeFirst_16 : decode prog_9_method_4_code 16 = .ok (.aload_n 0, 1) := by decide +kernel
theorem d_Row_removeFirst_17 : decode prog_9_method_4_code 17 = .ok (.dup, 1) := by decide +kernel
theorem d_Row_removeFirst_18 : decode prog_9_method_4_code 18 = .ok (.getfield 15, 3) := by decide +kernel
theorem d_Row_removeFirst_21 : decode prog_9_method_4_code 21 = .ok (.iconst 1, 1) := by decide +kernel
theorem d_Row_removeFirst_22 : decode prog_9_method_4_code 22 = .ok (.isub, 1) := by decide +kernel
theorem d_Row_removeFirst_23 : decode prog_9_method_4_code 23 = .ok (.putfield 15, 3) := by decide +kernel
theorem d_Row_removeFirst_26 : decode prog_9_method_4_code 26 = .ok (.aload_n 0, 1) := by decide +kernel
theorem d_Row_removeFirst_27 : decode prog_9_method_4_code 27 = .ok (.getfield 9, 3) := by decide +kernel
theorem d_Row_removeFirst_30 : decode prog_9_method_4_code 30 = .ok (.iconst 1, 1) := by decide +kernel
theorem d_Row_removeFirst_31 : decode prog_9_method_4_code 31 = .ok (.aload_n 0, 1) := by decide +kernel
theorem d_Row_removeFirst_32 : decode prog_9_method_4_code 32 = .ok (.getfield 9, 3) := by decide +kernel
theorem d_Row_removeFirst_35 : decode prog_9_method_4_code 35 = .ok (.iconst 0, 1) := by decide +kernel
theorem d_Row_removeFirst_36 : decode prog_9_method_4_code 36 = .ok (.aload_n 0, 1) := by decide +kernel
theorem d_Row_removeFirst_37 : decode prog_9_method_4_code 37 = .ok (.getfield 15, 3) := by decide +kernel
theorem d_Row_removeFirst_40 : decode prog_9_method_4_code 40 = .ok (.invokestatic 19, 3) := by decide +kernel
theorem d_Row_removeFirst_43 : decode prog_9_method_4_code 43 = .ok (.iload_n 1, 1) := by decide +kernel
theorem d_Row_removeFirst_44 : decode prog_9_method_4_code 44 = .ok (.ireturn, 1) := by decide +kernel
theorem d_Task_findNext_0 : decode prog_10_method_4_code 0 = .ok (.iconst 0, 1) := by decide +kernel
theorem d_Task_findNext_1 : decode prog_10_method_4_code 1 = .ok (.istore_n 1, 1) := by decide +kernel
theorem d_Task_findNext_2 : decode prog_10_method_4_code 2 = .ok (.iload_n 1, 1) := by decide +kernel
theorem d_Task_findNext_3 : decode prog_10_method_4_code 3 = .ok (.ldc 37, 2) := by decide +kernel
theorem d_Task_findNext_5 : decode prog_10_method_4_code 5 = .ok (.if_icmp .ge 166, 3) := by decide +kernel
theorem d_Task_findNext_8 : decode prog_10_method_4_code 8 = .ok (.aload_n 0, 1) := by decide +kernel
theorem d_Task_findNext_9 : decode prog_10_method_4_code 9 = .ok (.getfield 9, 3) := by decide +kernel
theorem d_Task_findNext_12 : decode prog_10_method_4_code 12 = .ok (.ifCond .ne 50, 3) := by decide +kernel
theorem d_Task_findNext_15 : decode prog_10_method_4_code 15 = .ok (.aload_n 0, 1) := by decide +kernel
theorem d_Task_findNext_16 : decode prog_10_method_4_code 16 = .ok (.getfield 34, 3) := by decide +kernel
theorem d_Task_findNext_19 : decode prog_10_method_4_code 19 = .ok (.getfield 38, 3) := by decide +kernel
theorem d_Task_findNext_22 : decode prog_10_method_4_code 22 = .ok (.getstatic 44, 3) := by decide +kernel
theorem d_Task_findNext_25 : decode prog_10_method_4_code 25 = .ok (.if_acmp .eq 5, 3) := by decide +kernel
theorem d_Task_findNext_28 : decode prog_10_method_4_code 28 = .ok (.iconst 0, 1) := by decide +kernel
theorem d_Task_findNext_29 : decode prog_10_method_4_code 29 = .ok (.ireturn, 1) := by decide +kernel
theorem d_Task_findNext_30 : decode prog_10_method_4_code 30 = .ok (.aload_n 0, 1) := by decide +kernel
theorem d_Task_findNext_31 : decode prog_10_method_4_code 31 = .ok (.getfield 34, 3) := by decide +kernel
theorem d_Task_findNext_34 : decode prog_10_method_4_code 34 = .ok (.getfield 49, 3) := by decide +kernel
theorem d_Task_findNext_37 : decode prog_10_method_4_code 37 = .ok (.ifnonnull 11, 3) := by decide +kernel
theorem d_Task_findNext_40 : decode prog_10_method_4_code 40 = .ok (.aload_n 0, 1) := by decide +kernel
theorem d_Task_findNext_41 : decode prog_10_method_4_code 41 = .ok (.iconst 1, 1) := by decide +kernel
theorem d_Task_findNext_42 : decode prog_10_method_4_code 42 = .ok (.putfield 9, 3) := by decide +kernel
theorem d_Task_findNext_45 : decode prog_10_method_4_code 45 = .ok (.goto 120, 3) := by decide +kernel
theorem d_Task_findNext_48 : decode prog_10_method_4_code 48 = .ok (.aload_n 0, 1) := by decide +kernel
theorem d_Task_findNext_49 : decode prog_10_method_4_code 49 = .ok (.aload_n 0, 1) := by decide +kernel
theorem d_Task_findNext_50 : decode prog_10_method_4_code 50 = .ok (.getfield 34, 3) := by decide +kernel
theorem d_Task_findNext_53 : decode prog_10_method_4_code 53 = .ok (.getfield 49, 3) := by decide +kernel
theorem d_Task_findNext_56 : decode prog_10_method_4_code 56 = .ok (.putfield 34, 3) := by decide +kernel
theorem d_Task_findNext_59 : decode prog_10_method_4_code 59 = .ok (.goto 106, 3) := by decide +kernel
theorem d_Task_findNext_62 : decode prog_10_method_4_code 62 = .ok (.aload_n 0, 1) := by decide +kernel
theorem d_Task_findNext_63 : decode prog_10_method_4_code 63 = .ok (.getfield 34, 3) := by decide +kernel
theorem d_Task_findNext_66 : decode prog_10_method_4_code 66 = .ok (.aload_n 0, 1) := by decide +kernel
theorem d_Task_findNext_67 : decode prog_10_method_4_code 67 = .ok (.getfield 26, 3) := by decide +kernel
theorem d_Task_findNext_70 : decode prog_10_method_4_code 70 = .ok (.if_acmp .eq 13, 3) := by decide +kernel
theorem d_Task_findNext_73 : decode prog_10_method_4_code 73 = .ok (.aload_n 0, 1) := by decide +kernel
theorem d_Task_findNext_74 : decode prog_10_method_4_code 74 = .ok (.getfield 34, 3) := by decide +kernel
theorem d_Task_findNext_77 : decode prog_10_method_4_code 77 = .ok (.getfield 52, 3) := by decide +kernel
theorem d_Task_findNext_80 : decode prog_10_method_4_code 80 = .ok (.ifnonnull 5, 3) := by decide +kernel
theorem d_Task_findNext_83 : decode prog_10_method_4_code 83 = .ok (.iconst 2, 1) := by decide +kernel
theorem d_Task_findNext_84 : decode prog_10_method_4_code 84 = .ok (.ireturn, 1) := by decide +kernel
theorem d_Task_findNext_85 : decode prog_10_method_4_code 85 = .ok (.aload_n 0, 1) := by decide +kernel
theorem d_Task_findNext_86 : decode prog_10_method_4_code 86 = .ok (.getfield 34, 3) := by decide +kernel
theorem d_Task_findNext_89 : decode prog_10_method_4_code 89 = .ok (.getfield 52, 3) := by decide +kernel
theorem d_Task_findNext_92 : decode prog_10_method_4_code 92 = .ok (.getfield 38, 3) := by decide +kernel
theorem d_Task_findNext_95 : decode prog_10_method_4_code 95 = .ok (.getstatic 55, 3) := by decide +kernel
theorem d_Task_findNext_98 : decode prog_10_method_4_code 98 = .ok (.if_acmp .ne 16, 3) := by decide +kernel
theorem d_Task_findNext_101 : decode prog_10_method_4_code 101 = .ok (.aload_n 0, 1) := by decide +kernel
theorem d_Task_findNext_102 : decode prog_10_method_4_code 102 = .ok (.aload_n 0, 1) := by decide +kernel
theorem d_Task_findNext_103 : decode prog_10_method_4_code 103 = .ok (.getfield 34, 3) := by decide +kernel
theorem d_Task_findNext_106 : decode prog_10_method_4_code 106 = .ok (.getfield 52, 3) := by decide +kernel
theorem d_Task_findNext_109 : decode prog_10_method_4_code 109 = .ok (.invokevirtual 58, 3) := by decide +kernel
theorem d_Task_findNext_112 : decode prog_10_method_4_code 112 = .ok (.iconst 1, 1) := by decide +kernel
theorem d_Task_findNext_113 : decode prog_10_method_4_code 113 = .ok (.ireturn, 1) := by decide +kernel
theorem d_Task_findNext_114 : decode prog_10_method_4_code 114 = .ok (.aload_n 0, 1) := by decide +kernel
theorem d_Task_findNext_115 : decode prog_10_method_4_code 115 = .ok (.getfield 34, 3) := by decide +kernel
theorem d_Task_findNext_118 : decode prog_10_method_4_code 118 = .ok (.getfield 52, 3) := by decide +kernel
theorem d_Task_findNext_121 : decode prog_10_method_4_code 121 = .ok (.getfield 38, 3) := by decide +kernel
theorem d_Task_findNext_124 : decode prog_10_method_4_code 124 = .ok (.getstatic 44, 3) := by decide +kernel
theorem d_Task_findNext_127 : decode prog_10_method_4_code 127 = .ok (.if_acmp .ne 27, 3) := by decide +kernel
theorem d_Task_findNext_130 : decode prog_10_method_4_code 130 = .ok (.aload_n 0, 1) := by decide +kernel
theorem d_Task_findNext_131 : decode prog_10_method_4_code 131 = .ok (.getfield 34, 3) := by decide +kernel
theorem d_Task_findNext_134 : decode prog_10_method_4_code 134 = .ok (.getfield 62, 3) := by decide +kernel
theorem d_Task_findNext_137 : decode prog_10_method_4_code 137 = .ok (.ifnull 17, 3) := by decide +kernel
theorem d_Task_findNext_140 : decode prog_10_method_4_code 140 = .ok (.aload_n 0, 1) := by decide +kernel
theorem d_Task_findNext_141 : decode prog_10_method_4_code 141 = .ok (.aload_n 0, 1) := by decide +kernel
theorem d_Task_findNext_142 : decode prog_10_method_4_code 142 = .ok (.getfield 34, 3) := by decide +kernel
theorem d_Task_findNext_145 : decode prog_10_method_4_code 145 = .ok (.getfield 62, 3) := by decide +kernel
theorem d_Task_findNext_148 : decode prog_10_method_4_code 148 = .ok (.invokevirtual 58, 3) := by decide +kernel
theorem d_Task_findNext_151 : decode prog_10_method_4_code 151 = .ok (.goto 14, 3) := by decide +kernel
theorem d_Task_findNext_154 : decode prog_10_method_4_code 154 = .ok (.aload_n 0, 1) := by decide +kernel
theorem d_Task_findNext_155 : decode prog_10_method_4_code 155 = .ok (.aload_n 0, 1) := by decide +kernel
theorem d_Task_findNext_156 : decode prog_10_method_4_code 156 = .ok (.getfield 34, 3) := by decide +kernel
theorem d_Task_findNext_159 : decode prog_10_method_4_code 159 = .ok (.getfield 52, 3) := by decide +kernel
theorem d_Task_findNext_162 : decode prog_10_method_4_code 162 = .ok (.putfield 34, 3) := by decide +kernel
theorem d_Task_findNext_165 : decode prog_10_method_4_code 165 = .ok (.iinc 1 1, 3) := by decide +kernel
theorem d_Task_findNext_168 : decode prog_10_method_4_code 168 = .ok (.goto (-166), 3) := by decide +kernel
theorem d_Task_findNext_171 : decode prog_10_method_4_code 171 = .ok (.iconst 2, 1) := by decide +kernel
theorem d_Task_findNext_172 : decode prog_10_method_4_code 172 = .ok (.ireturn, 1) := by decide +kernel
section YX
variable {z : Nat → Nat} {ar : Nat → ClassId} {G : Nat → Nat} {C Gs : Nat → List Nat} {f : Nat → Option va_E} {I I' : Nat → Int32} {O O' : Nat → Option Nat} {n : Nat × Nat × Nat × Nat} {c : Nat}
theorem y_MI.r10 (h : y_MI z ar G C Gs I O f n) {g : Nat} (hg : g ≤ 8) : y_MI z ar G C Gs (upd I 10 (Int32.ofNat g)) O f n := ⟨h.1, h.2.1, h.2.2.1, h.2.2.2.1, h.2.2.2.2.1, h.2.2.2.2.2.1, ⟨g, hg, rfl⟩, h.2.2.2.2.2.2.2⟩
theorem y_MI.r11 (h : y_MI z ar G C Gs I O f n) {g : Nat} (hg : g ≤ 8) : y_MI z ar G C Gs (upd I 11 (Int32.ofNat g)) O f n := ⟨h.1, h.2.1, h.2.2.1, h.2.2.2.1, h.2.2.2.2.1, h.2.2.2.2.2.1, h.2.2.2.2.2.2.1, ⟨g, hg, rfl⟩⟩
theorem y_MI.ref (h : y_MI z ar G C Gs I O f n) (h1 : O' 1 = O 1) (h2 : O' 2 = O 2) (hch : ∀ c, c < 6 → y_o G 8 (O' (3 + 3 * c)) ∧ y_o G 8 (O' (4 + 3 * c)) ∧ (O' (4 + 3 * c) ≠ none → y_o G 7 (O' (5 + 3 * c)))) : y_MI z ar G C Gs I O' f n := by
  obtain ⟨b1, b2, b3, b4, b5, b6, b7, b8⟩ := h
  exact ⟨b1, by rw [h1]; exact b2, by rw [h2]; exact b3, by rw [h1, h2]; exact b4, b5, hch, b7, b8⟩
theorem y_up_s {k : Nat} {x : Option Nat} : y_up O k x k = x := if_pos rfl
theorem y_up_n {k j : Nat} {x : Option Nat} (h : j ≠ k) : y_up O k x j = O j := if_neg h
theorem y_MI.snd (h : y_MI z ar G C Gs I O f n) (hc : c < 6) {x : Option Nat} (hx : y_o G 8 x) : y_MI z ar G C Gs I (y_up O (3 + 3 * c) x) f n := by
  refine h.ref (y_up_n (by omega)) (y_up_n (by omega)) (fun d hd => ?_)
  obtain ⟨q1, q2, q3⟩ := h.2.2.2.2.2.1 d hd
  refine ⟨?_, by rw [y_up_n (by omega)]; exact q2, by rw [y_up_n (by omega), y_up_n (by omega)]; exact q3⟩
  by_cases e : d = c
  · rw [e, y_up_s]; exact hx
  · rw [y_up_n (by omega)]; exact q1
theorem y_MI.rcv0 (h : y_MI z ar G C Gs I O f n) (hc : c < 6) : y_MI z ar G C Gs I (y_up O (4 + 3 * c) none) f n := by
  refine h.ref (y_up_n (by omega)) (y_up_n (by omega)) (fun d hd => ?_)
  obtain ⟨q1, q2, q3⟩ := h.2.2.2.2.2.1 d hd
  by_cases e : d = c
  · subst e
    exact ⟨by rw [y_up_n (by omega)]; exact q1, by rw [y_up_s]; exact (fun a ha => nomatch ha), by rw [y_up_s]; exact (fun h9 => absurd rfl h9)⟩
  · exact ⟨by rw [y_up_n (by omega)]; exact q1, by rw [y_up_n (by omega)]; exact q2, by rw [y_up_n (by omega), y_up_n (by omega)]; exact q3⟩
theorem y_MI.rcv1 (h : y_MI z ar G C Gs I O f n) (hc : c < 6) {t : Nat} (ht : G t = 8) {x : Option Nat} (hx : y_o G 7 x) : y_MI z ar G C Gs I (y_up (y_up O (4 + 3 * c) (some t)) (5 + 3 * c) x) f n := by
  refine h.ref (by rw [y_up_n (by omega), y_up_n (by omega)]) (by rw [y_up_n (by omega), y_up_n (by omega)]) (fun d hd => ?_)
  obtain ⟨q1, q2, q3⟩ := h.2.2.2.2.2.1 d hd
  rw [y_up_n (show 3 + 3 * d ≠ 5 + 3 * c by omega), y_up_n (show 3 + 3 * d ≠ 4 + 3 * c by omega), y_up_n (show 4 + 3 * d ≠ 5 + 3 * c by omega)]
  by_cases e : d = c
  · subst e
    rw [y_up_s, y_up_s]
    exact ⟨q1, fun a ha => by cases ha; exact ht, fun _ => hx⟩
  · rw [y_up_n (show 4 + 3 * d ≠ 4 + 3 * c by omega), y_up_n (show 5 + 3 * d ≠ 5 + 3 * c by omega), y_up_n (show 5 + 3 * d ≠ 4 + 3 * c by omega)]
    exact ⟨q1, q2, q3⟩
theorem y_DY.head (h : y_DY z ar G C Gs f) {P p : Nat} (hP : G P = 7) (hp : (C P).head? = some p) : G p = 7 := (h.2.2.2.2.1 P 0 p hP (by rw [← List.head?_eq_getElem?]; exact hp)).1
theorem y_DY.last (h : y_DY z ar G C Gs f) {P p : Nat} (hP : G P = 7) (hp : (C P).getLast? = some p) : G p = 7 := (h.2.2.2.2.1 P ((C P).length - 1) p hP (by rw [← List.getLast?_eq_getElem?]; exact hp)).1
end YX
section YZ
variable {p : Program} {l : Launch} {e : Env} {R : Room} {s : State} {m : MethodId} {args : Array Value} {below : List Frame} {meth : Method} {c : Code} {H H0 : Heap} {locs : List Loc} {cells slots : Nat} {Q : State → Prop}
variable {cc : ByteArray} {pc : Nat} {ls : Array Slot} {rest : List Value} {dC : Nat → ClassId} {dI : Nat → Nat → Nat} {B : Nat → Prop}
variable {ad : Nat → Nat} {ar : Nat → ClassId} {I : Nat → Int32} {T : Int64} {A : Nat → Nat → Int32} {O : Nat → Option Nat} {pl : va_W}
theorem k_cpy (hx : p.tables.exec = Jvm.exec) (hb : c.code = cc) (hml : c.maxLocals = ls.size) (hK : va_K (dC, dI) y_cl (y_tys ar) s) (hP : va_P (dC, dI) y_cl (y_W ad ar I T A O pl) H) (hD : va_D B (y_W ad ar I T A O pl)) (hS : va_S B H0 H locs) {own : String} {index : Nat} (hown : s.vm.findClass own = some m.cls) (hlink : (Cond.methodLink own index arraycopyName).before args s = true) (hnat : (Cond.native arraycopyName).before args s = true) (hstat : (Cond.static arraycopyName).before args s = true) (hini : (Cond.initialized "java/lang/System").before args s = true)
    (i : Nat) (hi : i < 20) (hc : y_ci i = 100) (h6 : i ≠ 6) (h2 : i ≠ 2) {sp dp n : Nat} (hsm : y_n i < 100) (h4 : sp + n ≤ y_n i) (h5 : dp + n ≤ y_n i) (hframes : 1 ≤ R.frames) (hlocals : (rest.map fun v => v.category).sum + (nativeFrameWords "java/lang/System" "arraycopy" 5 + 11) ≤ R.locals) (hdg : decode cc pc = .ok (.invokestatic index, 3))
    (kk : ∀ (A1 : Nat → Nat → Int32) (H1 : Heap) (locs1 : List Loc), va_P (dC, dI) y_cl (y_W ad ar I T A1 O pl) H1 → va_D B (y_W ad ar I T A1 O pl) → va_S B H0 H1 locs1 → W p l e R s m args below meth c H1 locs1 cells slots Q (F0 m (pc + 3) ls rest)) : W p l e R s m args below meth c H locs cells slots Q (F0 m pc ls (.int (Int32.ofNat n) :: .int (Int32.ofNat dp) :: .ref (ad i) :: .int (Int32.ofNat sp) :: .ref (ad i) :: rest)) := by
  have e1 : (Int32.ofNat sp).toNatClampNeg = sp := x_nat (by omega)
  have e2 : (Int32.ofNat dp).toNatClampNeg = dp := x_nat (by omega)
  have e3 : (Int32.ofNat n).toNatClampNeg = n := x_nat (by omega)
  have ha : (y_W ad ar I T A O pl)[i]? = some (ad i, .inl (ar 0, y_n i, .inl (A i))) := by rw [y_W_ar hi hc h6, if_neg h2]
  refine va_copyi hx hb hml hown hlink hnat hstat hini hK hP hD hS i i 0 0 (c0 := ar 0) (c1 := ar 0) (ty := .int) ha ha rfl rfl rfl (x_nneg (by omega)) (x_nneg (by omega)) (x_nneg (by omega)) (by rw [e1, e3]; exact h4) (by rw [e2, e3]; exact h5) (fun _ _ => rfl) hframes hlocals hdg (fun H1 locs1 hP1 _ hS1 => ?_)
  have h9 := y_W_ars (ad := ad) (ar := ar) (I := I) (T := T) (A := A) (O := O) (pl := pl) (f := va_cpy (A i) (A i) (Int32.ofNat sp).toNatClampNeg (Int32.ofNat dp).toNatClampNeg (Int32.ofNat n).toNatClampNeg) hi hc h6
  rw [if_neg h2] at h9
  rw [h9] at hP1
  exact kk _ H1 locs1 hP1 (y_D hD) hS1
end YZ
set_option maxHeartbeats 4000000 in
set_option maxRecDepth 100000 in
theorem c_R_isFull7 (l : Launch) (dC : Nat → ClassId) (dI : Nat → Nat → Nat) (ar : Nat → ClassId) (N0 : Nat) (z : Nat → Nat) (ad : Nat → Nat) (I : Nat → Int32) (T : Int64) (A : Nat → Nat → Int32) (O : Nat → Option Nat) (pl : va_W) (G : Nat → Nat) (C Gs : Nat → List Nat) (qn sn cq cs : Nat) (sz w0 : Nat) (hmi : y_MI z ar G C Gs I O (y_L pl) (qn, sn, cq, cs))  : Met l ({ cls := "ChannelMachine$Row", name := "isFull", desc := "()Z" } : Jvm.MethodName) ((Jvm.Cond.code ({ cls := "ChannelMachine$Row", name := "isFull", desc := "()Z" } : Jvm.MethodName) prog_9_method_2_code (1 : Nat) (Option.some Jvm.ClassFile.FieldType.boolean)) :: x_T) ({ frames := 0, cells := 0, slots := 0, locals := 0 }) (y_Pc (dC, dI) ar N0 z (y_W ad ar I T A O pl) sz w0 [.ref (ad 7)]) (va_Qi (fun (r : Int32) (u : (Nat → Int32) × Int64 × (Nat → Nat → Int32) × (Nat → Option Nat) × va_W × (Nat × Nat × Nat × Nat)) => u = (I, T, A, O, pl, qn, sn, cq, cs) ∧ (r = 0 ∨ r = 1)) (fun u t => va_P (dC, dI) y_cl (y_W ad ar u.1 u.2.1 u.2.2.1 u.2.2.2.1 u.2.2.2.2.1) t.heap ∧ va_D (va_A (y_W ad ar I T A O pl) sz) (y_W ad ar u.1 u.2.1 u.2.2.1 u.2.2.2.1 u.2.2.2.2.1) ∧ y_ac (cq + cs) sz w0 (u.2.2.2.2.2.2.2.1 + u.2.2.2.2.2.2.2.2) t.heap) (va_A (y_W ad ar I T A O pl) sz)) (0) (0) (va_A (y_W ad ar I T A O pl) sz) := by
  refine Met.ofW (cc := prog_9_method_2_code) (maxL := 1) (ret := (some .boolean)) (by decide) rfl ?_
  intro p e s m args below meth c s₁ B hml hv
  obtain ⟨rfl, hsz, hN0, hP, hU, hZ, hD0, hw0⟩ := hv
  have hK := hU.2.1
  have hx := B.exec
  have hb := B.bytes
  have hr := B.returns
  have hts : ∀ w ∈ x_T, w.before ([.ref (ad 7)] : List Value).toArray s = true := fun w h => atoms_spec (ws := (Jvm.Cond.code ({ cls := "ChannelMachine$Row", name := "isFull", desc := "()Z" } : Jvm.MethodName) prog_9_method_2_code (1 : Nat) (Option.some Jvm.ClassFile.FieldType.boolean)) :: x_T) B.pre w (List.mem_cons_of_mem _ h)
  have hown : s.vm.findClass "ChannelMachine$Row" = some m.cls := findClass_of_methodNamed B.named
  have hlocks := B.notSynchronized
  subst hsz
  subst hw0
  have hD := hD0.self (sz := s.heap.size)
  have hAN := x_AN hD0 hN0
  generalize hAe : va_A (y_W ad ar I T A O pl) s.heap.size = Bq at hD hAN ⊢
  have hA : ∀ q : Nat, s.heap.size ≤ q → Bq q := fun q h => by rw [← hAe]; exact Or.inr h
  have hS : va_S Bq s.heap s.heap [] := va_S.rf
  have hl := lv_entry ([.ref (ad 7)]) (n := 1) (Nat.le_of_ble_eq_true rfl)
  rw [lg_entry_eq]
  generalize (lg_sl ([.ref (ad 7)]) ++ List.replicate (1 - (lg_sl ([.ref (ad 7)])).length) Slot.unset).toArray = ls at hl ⊢
  have hl : lv_has ls 1 [(0, .ref (ad 7))] := hl
  obtain ⟨gn, hgn, hg9⟩ := hmi.2.2.2.2.2.2.1
  refine lv_aload_n hx hb d_Row_isFull_0 rfl (lv_at hl 0 rfl) ?_
  refine k_g (C := "ChannelMachine$Row") (F := F_Row) (N := 2) hx hb hts i_Row hown hK hP 7 1 (by decide) (by decide) rfl (by decide) (d := (1, 10)) rfl (hts _ k_92) (fun _ h9 => h9) (v := .int (Int32.ofNat gn)) (congrArg Value.int hg9) d_Row_isFull_1 ?_
  refine lv_bipush (v := 8) hx hb d_Row_isFull_4 (by decide) ?_
  refine lv_icmp_lt (tgt := 13) hx hb d_Row_isFull_6 (by decide) (fun c_1 => ?_) (fun c_1 => ?_)
  · have c_1 : gn < 8 := (x_ltN (a := gn) (b := 8) (by omega) (by omega)).mp c_1
    refine lv_iconst (v := 0) hx hb d_Row_isFull_13 (by decide) ?_
    refine y_know (fun hy91 hy92 hy93 hy94 => ?_)
    have hac9 : y_ac (cq + cs) s.heap.size (y_hs s.heap) (cq + cs) s.heap := ⟨by omega, by omega⟩
    refine W.widen (k := 0) (n := 0) (by omega) (by omega) ?_
    exact W.zret (v := 0) hx hb hr (rfl) (fun t ht hW => ⟨⟨0, (I, T, A, O, pl, (qn, sn, cq, cs)), rfl, ⟨rfl, Or.inl rfl⟩, (by dsimp only; rw [ht]; exact ⟨hP, hD, hac9⟩)⟩, hS.F ht⟩) hS.2.2 d_Row_isFull_14
  · have c_1 : ¬ gn < 8 := fun h9 => c_1 ((x_ltN (a := gn) (b := 8) (by omega) (by omega)).mpr h9)
    refine lv_iconst (v := 1) hx hb d_Row_isFull_9 (by decide) ?_
    refine lv_goto (tgt := 14) hx hb d_Row_isFull_10 (by decide) ?_
    refine y_know (fun hy91 hy92 hy93 hy94 => ?_)
    have hac9 : y_ac (cq + cs) s.heap.size (y_hs s.heap) (cq + cs) s.heap := ⟨by omega, by omega⟩
    refine W.widen (k := 0) (n := 0) (by omega) (by omega) ?_
    exact W.zret (v := 1) hx hb hr (rfl) (fun t ht hW => ⟨⟨1, (I, T, A, O, pl, (qn, sn, cq, cs)), rfl, ⟨rfl, Or.inr rfl⟩, (by dsimp only; rw [ht]; exact ⟨hP, hD, hac9⟩)⟩, hS.F ht⟩) hS.2.2 d_Row_isFull_14
set_option maxHeartbeats 4000000 in
set_option maxRecDepth 100000 in
theorem c_R_isFull9 (l : Launch) (dC : Nat → ClassId) (dI : Nat → Nat → Nat) (ar : Nat → ClassId) (N0 : Nat) (z : Nat → Nat) (ad : Nat → Nat) (I : Nat → Int32) (T : Int64) (A : Nat → Nat → Int32) (O : Nat → Option Nat) (pl : va_W) (G : Nat → Nat) (C Gs : Nat → List Nat) (qn sn cq cs : Nat) (sz w0 : Nat) (hmi : y_MI z ar G C Gs I O (y_L pl) (qn, sn, cq, cs))  : Met l ({ cls := "ChannelMachine$Row", name := "isFull", desc := "()Z" } : Jvm.MethodName) ((Jvm.Cond.code ({ cls := "ChannelMachine$Row", name := "isFull", desc := "()Z" } : Jvm.MethodName) prog_9_method_2_code (1 : Nat) (Option.some Jvm.ClassFile.FieldType.boolean)) :: x_T) ({ frames := 0, cells := 0, slots := 0, locals := 0 }) (y_Pc (dC, dI) ar N0 z (y_W ad ar I T A O pl) sz w0 [.ref (ad 9)]) (va_Qi (fun (r : Int32) (u : (Nat → Int32) × Int64 × (Nat → Nat → Int32) × (Nat → Option Nat) × va_W × (Nat × Nat × Nat × Nat)) => u = (I, T, A, O, pl, qn, sn, cq, cs) ∧ (r = 0 ∨ r = 1)) (fun u t => va_P (dC, dI) y_cl (y_W ad ar u.1 u.2.1 u.2.2.1 u.2.2.2.1 u.2.2.2.2.1) t.heap ∧ va_D (va_A (y_W ad ar I T A O pl) sz) (y_W ad ar u.1 u.2.1 u.2.2.1 u.2.2.2.1 u.2.2.2.2.1) ∧ y_ac (cq + cs) sz w0 (u.2.2.2.2.2.2.2.1 + u.2.2.2.2.2.2.2.2) t.heap) (va_A (y_W ad ar I T A O pl) sz)) (0) (0) (va_A (y_W ad ar I T A O pl) sz) := by
  refine Met.ofW (cc := prog_9_method_2_code) (maxL := 1) (ret := (some .boolean)) (by decide) rfl ?_
  intro p e s m args below meth c s₁ B hml hv
  obtain ⟨rfl, hsz, hN0, hP, hU, hZ, hD0, hw0⟩ := hv
  have hK := hU.2.1
  have hx := B.exec
  have hb := B.bytes
  have hr := B.returns
  have hts : ∀ w ∈ x_T, w.before ([.ref (ad 9)] : List Value).toArray s = true := fun w h => atoms_spec (ws := (Jvm.Cond.code ({ cls := "ChannelMachine$Row", name := "isFull", desc := "()Z" } : Jvm.MethodName) prog_9_method_2_code (1 : Nat) (Option.some Jvm.ClassFile.FieldType.boolean)) :: x_T) B.pre w (List.mem_cons_of_mem _ h)
  have hown : s.vm.findClass "ChannelMachine$Row" = some m.cls := findClass_of_methodNamed B.named
  have hlocks := B.notSynchronized
  subst hsz
  subst hw0
  have hD := hD0.self (sz := s.heap.size)
  have hAN := x_AN hD0 hN0
  generalize hAe : va_A (y_W ad ar I T A O pl) s.heap.size = Bq at hD hAN ⊢
  have hA : ∀ q : Nat, s.heap.size ≤ q → Bq q := fun q h => by rw [← hAe]; exact Or.inr h
  have hS : va_S Bq s.heap s.heap [] := va_S.rf
  have hl := lv_entry ([.ref (ad 9)]) (n := 1) (Nat.le_of_ble_eq_true rfl)
  rw [lg_entry_eq]
  generalize (lg_sl ([.ref (ad 9)]) ++ List.replicate (1 - (lg_sl ([.ref (ad 9)])).length) Slot.unset).toArray = ls at hl ⊢
  have hl : lv_has ls 1 [(0, .ref (ad 9))] := hl
  obtain ⟨gn, hgn, hg9⟩ := hmi.2.2.2.2.2.2.2
  refine lv_aload_n hx hb d_Row_isFull_0 rfl (lv_at hl 0 rfl) ?_
  refine k_g (C := "ChannelMachine$Row") (F := F_Row) (N := 2) hx hb hts i_Row hown hK hP 9 1 (by decide) (by decide) rfl (by decide) (d := (1, 11)) rfl (hts _ k_92) (fun _ h9 => h9) (v := .int (Int32.ofNat gn)) (congrArg Value.int hg9) d_Row_isFull_1 ?_
  refine lv_bipush (v := 8) hx hb d_Row_isFull_4 (by decide) ?_
  refine lv_icmp_lt (tgt := 13) hx hb d_Row_isFull_6 (by decide) (fun c_1 => ?_) (fun c_1 => ?_)
  · have c_1 : gn < 8 := (x_ltN (a := gn) (b := 8) (by omega) (by omega)).mp c_1
    refine lv_iconst (v := 0) hx hb d_Row_isFull_13 (by decide) ?_
    refine y_know (fun hy91 hy92 hy93 hy94 => ?_)
    have hac9 : y_ac (cq + cs) s.heap.size (y_hs s.heap) (cq + cs) s.heap := ⟨by omega, by omega⟩
    refine W.widen (k := 0) (n := 0) (by omega) (by omega) ?_
    exact W.zret (v := 0) hx hb hr (rfl) (fun t ht hW => ⟨⟨0, (I, T, A, O, pl, (qn, sn, cq, cs)), rfl, ⟨rfl, Or.inl rfl⟩, (by dsimp only; rw [ht]; exact ⟨hP, hD, hac9⟩)⟩, hS.F ht⟩) hS.2.2 d_Row_isFull_14
  · have c_1 : ¬ gn < 8 := fun h9 => c_1 ((x_ltN (a := gn) (b := 8) (by omega) (by omega)).mpr h9)
    refine lv_iconst (v := 1) hx hb d_Row_isFull_9 (by decide) ?_
    refine lv_goto (tgt := 14) hx hb d_Row_isFull_10 (by decide) ?_
    refine y_know (fun hy91 hy92 hy93 hy94 => ?_)
    have hac9 : y_ac (cq + cs) s.heap.size (y_hs s.heap) (cq + cs) s.heap := ⟨by omega, by omega⟩
    refine W.widen (k := 0) (n := 0) (by omega) (by omega) ?_
    exact W.zret (v := 1) hx hb hr (rfl) (fun t ht hW => ⟨⟨1, (I, T, A, O, pl, (qn, sn, cq, cs)), rfl, ⟨rfl, Or.inr rfl⟩, (by dsimp only; rw [ht]; exact ⟨hP, hD, hac9⟩)⟩, hS.F ht⟩) hS.2.2 d_Row_isFull_14
set_option maxHeartbeats 4000000 in
set_option maxRecDepth 100000 in
theorem c_R_addLast7 (l : Launch) (dC : Nat → ClassId) (dI : Nat → Nat → Nat) (ar : Nat → ClassId) (N0 : Nat) (z : Nat → Nat) (ad : Nat → Nat) (I : Nat → Int32) (T : Int64) (A : Nat → Nat → Int32) (O : Nat → Option Nat) (pl : va_W) (G : Nat → Nat) (C Gs : Nat → List Nat) (qn sn cq cs : Nat) (vv : Int32) (sz w0 : Nat) (hmi : y_MI z ar G C Gs I O (y_L pl) (qn, sn, cq, cs))  : Met l ({ cls := "ChannelMachine$Row", name := "addLast", desc := "(I)V" } : Jvm.MethodName) ((Jvm.Cond.code ({ cls := "ChannelMachine$Row", name := "addLast", desc := "(I)V" } : Jvm.MethodName) prog_9_method_3_code (2 : Nat) (Option.none : Option Jvm.ClassFile.FieldType)) :: x_T) ({ frames := 0, cells := 0, slots := 0, locals := 0 }) (y_Pc (dC, dI) ar N0 z (y_W ad ar I T A O pl) sz w0 [.ref (ad 7), .int vv]) (va_Qv (fun (u : (Nat → Int32) × Int64 × (Nat → Nat → Int32) × (Nat → Option Nat) × va_W × (Nat × Nat × Nat × Nat)) => y_MI z ar G C Gs u.1 u.2.2.2.1 (y_L u.2.2.2.2.1) u.2.2.2.2.2 ∧ y_bd (qn, sn, cq, cs) u.2.2.2.2.2 0 0 ∧ m_fr [10, 11] I u.1) (fun u t => va_P (dC, dI) y_cl (y_W ad ar u.1 u.2.1 u.2.2.1 u.2.2.2.1 u.2.2.2.2.1) t.heap ∧ va_D (va_A (y_W ad ar I T A O pl) sz) (y_W ad ar u.1 u.2.1 u.2.2.1 u.2.2.2.1 u.2.2.2.2.1) ∧ y_ac (cq + cs) sz w0 (u.2.2.2.2.2.2.2.1 + u.2.2.2.2.2.2.2.2) t.heap) (va_A (y_W ad ar I T A O pl) sz)) (0) (0) (va_A (y_W ad ar I T A O pl) sz) := by
  refine Met.ofW (cc := prog_9_method_3_code) (maxL := 2) (ret := none) (by decide) rfl ?_
  intro p e s m args below meth c s₁ B hml hv
  obtain ⟨rfl, hsz, hN0, hP, hU, hZ, hD0, hw0⟩ := hv
  have hK := hU.2.1
  have hx := B.exec
  have hb := B.bytes
  have hr := B.returns
  have hts : ∀ w ∈ x_T, w.before ([.ref (ad 7), .int vv] : List Value).toArray s = true := fun w h => atoms_spec (ws := (Jvm.Cond.code ({ cls := "ChannelMachine$Row", name := "addLast", desc := "(I)V" } : Jvm.MethodName) prog_9_method_3_code (2 : Nat) (Option.none : Option Jvm.ClassFile.FieldType)) :: x_T) B.pre w (List.mem_cons_of_mem _ h)
  have hown : s.vm.findClass "ChannelMachine$Row" = some m.cls := findClass_of_methodNamed B.named
  have hlocks := B.notSynchronized
  subst hsz
  subst hw0
  have hD := hD0.self (sz := s.heap.size)
  have hAN := x_AN hD0 hN0
  generalize hAe : va_A (y_W ad ar I T A O pl) s.heap.size = Bq at hD hAN ⊢
  have hA : ∀ q : Nat, s.heap.size ≤ q → Bq q := fun q h => by rw [← hAe]; exact Or.inr h
  have hS : va_S Bq s.heap s.heap [] := va_S.rf
  have hl := lv_entry ([.ref (ad 7), .int vv]) (n := 2) (Nat.le_of_ble_eq_true rfl)
  rw [lg_entry_eq]
  generalize (lg_sl ([.ref (ad 7), .int vv]) ++ List.replicate (2 - (lg_sl ([.ref (ad 7), .int vv])).length) Slot.unset).toArray = ls at hl ⊢
  have hl : lv_has ls 2 [(0, .ref (ad 7)), (1, .int vv)] := hl
  obtain ⟨gn, hgn, hg9⟩ := hmi.2.2.2.2.2.2.1
  refine lv_aload_n hx hb d_Row_addLast_0 rfl (lv_at hl 0 rfl) ?_
  refine k_g (C := "ChannelMachine$Row") (F := F_Row) (N := 2) hx hb hts i_Row hown hK hP 7 1 (by decide) (by decide) rfl (by decide) (d := (1, 10)) rfl (hts _ k_92) (fun _ h9 => h9) (v := .int (Int32.ofNat gn)) (congrArg Value.int hg9) d_Row_addLast_1 ?_
  refine lv_bipush (v := 8) hx hb d_Row_addLast_4 (by decide) ?_
  refine lv_icmp_ge (tgt := 29) hx hb d_Row_addLast_6 (by decide) (fun c_1 => ?_) (fun c_1 => ?_)
  · have c_1 : 8 ≤ gn := (x_leN (a := 8) (b := gn) (by omega) (by omega)).mp c_1
    refine y_know (fun hy91 hy92 hy93 hy94 => ?_)
    have hac9 : y_ac (cq + cs) s.heap.size (y_hs s.heap) (cq + cs) s.heap := ⟨by omega, by omega⟩
    refine W.widen (k := 0) (n := 0) (by omega) (by omega) ?_
    exact W.vret hx hb hr (fun t ht hW => ⟨⟨(I, T, A, O, pl, (qn, sn, cq, cs)), rfl, ⟨hmi, y_bd.rf, m_fr.rf⟩, (by dsimp only; rw [ht]; exact ⟨hP, hD, hac9⟩)⟩, hS.F ht⟩) hS.2.2 d_Row_addLast_29
  · have c_1 : ¬ 8 ≤ gn := fun h9 => c_1 ((x_leN (a := 8) (b := gn) (by omega) (by omega)).mpr h9)
    refine lv_aload_n hx hb d_Row_addLast_9 rfl (lv_at hl 0 rfl) ?_
    refine k_g (C := "ChannelMachine$Row") (F := F_Row) (N := 2) hx hb hts i_Row hown hK hP 7 0 (by decide) (by decide) rfl (by decide) (d := (0, 8)) rfl (hts _ k_91) (fun _ h9 => h9) (v := .ref (ad 8)) rfl d_Row_addLast_10 ?_
    refine lv_aload_n hx hb d_Row_addLast_13 rfl (lv_at hl 0 rfl) ?_
    refine k_g (C := "ChannelMachine$Row") (F := F_Row) (N := 2) hx hb hts i_Row hown hK hP 7 1 (by decide) (by decide) rfl (by decide) (d := (1, 10)) rfl (hts _ k_92) (fun _ h9 => h9) (v := .int (Int32.ofNat gn)) (congrArg Value.int hg9) d_Row_addLast_14 ?_
    refine lv_iload_n hx hb d_Row_addLast_17 rfl (lv_at hl 1 rfl) ?_
    refine k_st hx hb hK hP hD hS 8 (by decide) (by decide) (by decide) (by decide) (j := (Int32.ofNat gn)) (x := vv) (x_inN (show gn < 8 from by omega) (by decide)) d_Row_addLast_18 (fun H locs hP hD hS => ?_)
    generalize m_up A 8 _ = A2 at hP hD
    refine lv_aload_n hx hb d_Row_addLast_19 rfl (lv_at hl 0 rfl) ?_
    refine lv_dup hx hb d_Row_addLast_20 rfl ?_
    refine k_g (C := "ChannelMachine$Row") (F := F_Row) (N := 2) hx hb hts i_Row hown hK hP 7 1 (by decide) (by decide) rfl (by decide) (d := (1, 10)) rfl (hts _ k_92) (fun _ h9 => h9) (v := .int (Int32.ofNat gn)) (congrArg Value.int hg9) d_Row_addLast_21 ?_
    refine lv_iconst (v := 1) hx hb d_Row_addLast_24 (by decide) ?_
    refine lv_iadd hx hb d_Row_addLast_25 ?_
    refine W.eq (g2 := F0 m 26 ls [.int (Int32.ofNat (gn + 1)), .ref (ad 7)]) (by rw [← x_addN (a := gn) (b := 1)] <;> rfl) ?_
    refine k_pi (C := "ChannelMachine$Row") (F := F_Row) (N := 2) hx hb hts i_Row hown t_Row t_Row_ok n_Row hK hP hD hS 7 1 (by decide) (by decide) rfl (by decide) (j := 10) (x := (Int32.ofNat (gn + 1))) rfl (hts _ k_92) (fun _ h9 => h9) rfl (by decide +kernel) d_Row_addLast_26 (fun H locs hP hD hS => ?_)
    have hmi : y_MI z ar G C Gs (upd I 10 (Int32.ofNat (gn + 1))) O (y_L pl) (qn, sn, cq, cs) := hmi.r10 (by omega)
    refine y_know (fun hy91 hy92 hy93 hy94 => ?_)
    have hac9 : y_ac (cq + cs) s.heap.size (y_hs s.heap) (cq + cs) H := ⟨by omega, by omega⟩
    refine W.widen (k := 0) (n := 0) (by omega) (by omega) ?_
    exact W.vret hx hb hr (fun t ht hW => ⟨⟨((upd I 10 (Int32.ofNat (gn + 1))), T, A2, O, pl, (qn, sn, cq, cs)), rfl, ⟨hmi, y_bd.rf, (m_fr.rf.up (by decide) _)⟩, (by dsimp only; rw [ht]; exact ⟨hP, hD, hac9⟩)⟩, hS.F ht⟩) hS.2.2 d_Row_addLast_29
set_option maxHeartbeats 4000000 in
set_option maxRecDepth 100000 in
theorem c_R_addLast9 (l : Launch) (dC : Nat → ClassId) (dI : Nat → Nat → Nat) (ar : Nat → ClassId) (N0 : Nat) (z : Nat → Nat) (ad : Nat → Nat) (I : Nat → Int32) (T : Int64) (A : Nat → Nat → Int32) (O : Nat → Option Nat) (pl : va_W) (G : Nat → Nat) (C Gs : Nat → List Nat) (qn sn cq cs : Nat) (vv : Int32) (sz w0 : Nat) (hmi : y_MI z ar G C Gs I O (y_L pl) (qn, sn, cq, cs))  : Met l ({ cls := "ChannelMachine$Row", name := "addLast", desc := "(I)V" } : Jvm.MethodName) ((Jvm.Cond.code ({ cls := "ChannelMachine$Row", name := "addLast", desc := "(I)V" } : Jvm.MethodName) prog_9_method_3_code (2 : Nat) (Option.none : Option Jvm.ClassFile.FieldType)) :: x_T) ({ frames := 0, cells := 0, slots := 0, locals := 0 }) (y_Pc (dC, dI) ar N0 z (y_W ad ar I T A O pl) sz w0 [.ref (ad 9), .int vv]) (va_Qv (fun (u : (Nat → Int32) × Int64 × (Nat → Nat → Int32) × (Nat → Option Nat) × va_W × (Nat × Nat × Nat × Nat)) => y_MI z ar G C Gs u.1 u.2.2.2.1 (y_L u.2.2.2.2.1) u.2.2.2.2.2 ∧ y_bd (qn, sn, cq, cs) u.2.2.2.2.2 0 0 ∧ m_fr [10, 11] I u.1) (fun u t => va_P (dC, dI) y_cl (y_W ad ar u.1 u.2.1 u.2.2.1 u.2.2.2.1 u.2.2.2.2.1) t.heap ∧ va_D (va_A (y_W ad ar I T A O pl) sz) (y_W ad ar u.1 u.2.1 u.2.2.1 u.2.2.2.1 u.2.2.2.2.1) ∧ y_ac (cq + cs) sz w0 (u.2.2.2.2.2.2.2.1 + u.2.2.2.2.2.2.2.2) t.heap) (va_A (y_W ad ar I T A O pl) sz)) (0) (0) (va_A (y_W ad ar I T A O pl) sz) := by
  refine Met.ofW (cc := prog_9_method_3_code) (maxL := 2) (ret := none) (by decide) rfl ?_
  intro p e s m args below meth c s₁ B hml hv
  obtain ⟨rfl, hsz, hN0, hP, hU, hZ, hD0, hw0⟩ := hv
  have hK := hU.2.1
  have hx := B.exec
  have hb := B.bytes
  have hr := B.returns
  have hts : ∀ w ∈ x_T, w.before ([.ref (ad 9), .int vv] : List Value).toArray s = true := fun w h => atoms_spec (ws := (Jvm.Cond.code ({ cls := "ChannelMachine$Row", name := "addLast", desc := "(I)V" } : Jvm.MethodName) prog_9_method_3_code (2 : Nat) (Option.none : Option Jvm.ClassFile.FieldType)) :: x_T) B.pre w (List.mem_cons_of_mem _ h)
  have hown : s.vm.findClass "ChannelMachine$Row" = some m.cls := findClass_of_methodNamed B.named
  have hlocks := B.notSynchronized
  subst hsz
  subst hw0
  have hD := hD0.self (sz := s.heap.size)
  have hAN := x_AN hD0 hN0
  generalize hAe : va_A (y_W ad ar I T A O pl) s.heap.size = Bq at hD hAN ⊢
  have hA : ∀ q : Nat, s.heap.size ≤ q → Bq q := fun q h => by rw [← hAe]; exact Or.inr h
  have hS : va_S Bq s.heap s.heap [] := va_S.rf
  have hl := lv_entry ([.ref (ad 9), .int vv]) (n := 2) (Nat.le_of_ble_eq_true rfl)
  rw [lg_entry_eq]
  generalize (lg_sl ([.ref (ad 9), .int vv]) ++ List.replicate (2 - (lg_sl ([.ref (ad 9), .int vv])).length) Slot.unset).toArray = ls at hl ⊢
  have hl : lv_has ls 2 [(0, .ref (ad 9)), (1, .int vv)] := hl
  obtain ⟨gn, hgn, hg9⟩ := hmi.2.2.2.2.2.2.2
  refine lv_aload_n hx hb d_Row_addLast_0 rfl (lv_at hl 0 rfl) ?_
  refine k_g (C := "ChannelMachine$Row") (F := F_Row) (N := 2) hx hb hts i_Row hown hK hP 9 1 (by decide) (by decide) rfl (by decide) (d := (1, 11)) rfl (hts _ k_92) (fun _ h9 => h9) (v := .int (Int32.ofNat gn)) (congrArg Value.int hg9) d_Row_addLast_1 ?_
  refine lv_bipush (v := 8) hx hb d_Row_addLast_4 (by decide) ?_
  refine lv_icmp_ge (tgt := 29) hx hb d_Row_addLast_6 (by decide) (fun c_1 => ?_) (fun c_1 => ?_)
  · have c_1 : 8 ≤ gn := (x_leN (a := 8) (b := gn) (by omega) (by omega)).mp c_1
    refine y_know (fun hy91 hy92 hy93 hy94 => ?_)
    have hac9 : y_ac (cq + cs) s.heap.size (y_hs s.heap) (cq + cs) s.heap := ⟨by omega, by omega⟩
    refine W.widen (k := 0) (n := 0) (by omega) (by omega) ?_
    exact W.vret hx hb hr (fun t ht hW => ⟨⟨(I, T, A, O, pl, (qn, sn, cq, cs)), rfl, ⟨hmi, y_bd.rf, m_fr.rf⟩, (by dsimp only; rw [ht]; exact ⟨hP, hD, hac9⟩)⟩, hS.F ht⟩) hS.2.2 d_Row_addLast_29
  · have c_1 : ¬ 8 ≤ gn := fun h9 => c_1 ((x_leN (a := 8) (b := gn) (by omega) (by omega)).mpr h9)
    refine lv_aload_n hx hb d_Row_addLast_9 rfl (lv_at hl 0 rfl) ?_
    refine k_g (C := "ChannelMachine$Row") (F := F_Row) (N := 2) hx hb hts i_Row hown hK hP 9 0 (by decide) (by decide) rfl (by decide) (d := (0, 10)) rfl (hts _ k_91) (fun _ h9 => h9) (v := .ref (ad 10)) rfl d_Row_addLast_10 ?_
    refine lv_aload_n hx hb d_Row_addLast_13 rfl (lv_at hl 0 rfl) ?_
    refine k_g (C := "ChannelMachine$Row") (F := F_Row) (N := 2) hx hb hts i_Row hown hK hP 9 1 (by decide) (by decide) rfl (by decide) (d := (1, 11)) rfl (hts _ k_92) (fun _ h9 => h9) (v := .int (Int32.ofNat gn)) (congrArg Value.int hg9) d_Row_addLast_14 ?_
    refine lv_iload_n hx hb d_Row_addLast_17 rfl (lv_at hl 1 rfl) ?_
    refine k_st hx hb hK hP hD hS 10 (by decide) (by decide) (by decide) (by decide) (j := (Int32.ofNat gn)) (x := vv) (x_inN (show gn < 8 from by omega) (by decide)) d_Row_addLast_18 (fun H locs hP hD hS => ?_)
    generalize m_up A 10 _ = A2 at hP hD
    refine lv_aload_n hx hb d_Row_addLast_19 rfl (lv_at hl 0 rfl) ?_
    refine lv_dup hx hb d_Row_addLast_20 rfl ?_
    refine k_g (C := "ChannelMachine$Row") (F := F_Row) (N := 2) hx hb hts i_Row hown hK hP 9 1 (by decide) (by decide) rfl (by decide) (d := (1, 11)) rfl (hts _ k_92) (fun _ h9 => h9) (v := .int (Int32.ofNat gn)) (congrArg Value.int hg9) d_Row_addLast_21 ?_
    refine lv_iconst (v := 1) hx hb d_Row_addLast_24 (by decide) ?_
    refine lv_iadd hx hb d_Row_addLast_25 ?_
    refine W.eq (g2 := F0 m 26 ls [.int (Int32.ofNat (gn + 1)), .ref (ad 9)]) (by rw [← x_addN (a := gn) (b := 1)] <;> rfl) ?_
    refine k_pi (C := "ChannelMachine$Row") (F := F_Row) (N := 2) hx hb hts i_Row hown t_Row t_Row_ok n_Row hK hP hD hS 9 1 (by decide) (by decide) rfl (by decide) (j := 11) (x := (Int32.ofNat (gn + 1))) rfl (hts _ k_92) (fun _ h9 => h9) rfl (by decide +kernel) d_Row_addLast_26 (fun H locs hP hD hS => ?_)
    have hmi : y_MI z ar G C Gs (upd I 11 (Int32.ofNat (gn + 1))) O (y_L pl) (qn, sn, cq, cs) := hmi.r11 (by omega)
    refine y_know (fun hy91 hy92 hy93 hy94 => ?_)
    have hac9 : y_ac (cq + cs) s.heap.size (y_hs s.heap) (cq + cs) H := ⟨by omega, by omega⟩
    refine W.widen (k := 0) (n := 0) (by omega) (by omega) ?_
    exact W.vret hx hb hr (fun t ht hW => ⟨⟨((upd I 11 (Int32.ofNat (gn + 1))), T, A2, O, pl, (qn, sn, cq, cs)), rfl, ⟨hmi, y_bd.rf, (m_fr.rf.up (by decide) _)⟩, (by dsimp only; rw [ht]; exact ⟨hP, hD, hac9⟩)⟩, hS.F ht⟩) hS.2.2 d_Row_addLast_29
set_option maxHeartbeats 4000000 in
set_option maxRecDepth 100000 in
theorem c_R_removeFirst7 (l : Launch) (dC : Nat → ClassId) (dI : Nat → Nat → Nat) (ar : Nat → ClassId) (N0 : Nat) (z : Nat → Nat) (ad : Nat → Nat) (I : Nat → Int32) (T : Int64) (A : Nat → Nat → Int32) (O : Nat → Option Nat) (pl : va_W) (G : Nat → Nat) (C Gs : Nat → List Nat) (qn sn cq cs : Nat) (sz w0 : Nat) (hmi : y_MI z ar G C Gs I O (y_L pl) (qn, sn, cq, cs))  : Met l ({ cls := "ChannelMachine$Row", name := "removeFirst", desc := "()I" } : Jvm.MethodName) ((Jvm.Cond.code ({ cls := "ChannelMachine$Row", name := "removeFirst", desc := "()I" } : Jvm.MethodName) prog_9_method_4_code (2 : Nat) (Option.some Jvm.ClassFile.FieldType.int)) :: x_T) ({ frames := 1, cells := 0, slots := 0, locals := 60 }) (y_Pc (dC, dI) ar N0 z (y_W ad ar I T A O pl) sz w0 [.ref (ad 7)]) (va_Qi (fun (r : Int32) (u : (Nat → Int32) × Int64 × (Nat → Nat → Int32) × (Nat → Option Nat) × va_W × (Nat × Nat × Nat × Nat)) => y_MI z ar G C Gs u.1 u.2.2.2.1 (y_L u.2.2.2.2.1) u.2.2.2.2.2 ∧ y_bd (qn, sn, cq, cs) u.2.2.2.2.2 0 0 ∧ m_fr [10, 11] I u.1) (fun u t => va_P (dC, dI) y_cl (y_W ad ar u.1 u.2.1 u.2.2.1 u.2.2.2.1 u.2.2.2.2.1) t.heap ∧ va_D (va_A (y_W ad ar I T A O pl) sz) (y_W ad ar u.1 u.2.1 u.2.2.1 u.2.2.2.1 u.2.2.2.2.1) ∧ y_ac (cq + cs) sz w0 (u.2.2.2.2.2.2.2.1 + u.2.2.2.2.2.2.2.2) t.heap) (va_A (y_W ad ar I T A O pl) sz)) (0) (0) (va_A (y_W ad ar I T A O pl) sz) := by
  refine Met.ofW (cc := prog_9_method_4_code) (maxL := 2) (ret := (some .int)) (by decide) rfl ?_
  intro p e s m args below meth c s₁ B hml hv
  obtain ⟨rfl, hsz, hN0, hP, hU, hZ, hD0, hw0⟩ := hv
  have hK := hU.2.1
  have hx := B.exec
  have hb := B.bytes
  have hr := B.returns
  have hts : ∀ w ∈ x_T, w.before ([.ref (ad 7)] : List Value).toArray s = true := fun w h => atoms_spec (ws := (Jvm.Cond.code ({ cls := "ChannelMachine$Row", name := "removeFirst", desc := "()I" } : Jvm.MethodName) prog_9_method_4_code (2 : Nat) (Option.some Jvm.ClassFile.FieldType.int)) :: x_T) B.pre w (List.mem_cons_of_mem _ h)
  have hown : s.vm.findClass "ChannelMachine$Row" = some m.cls := findClass_of_methodNamed B.named
  have hlocks := B.notSynchronized
  subst hsz
  subst hw0
  have hD := hD0.self (sz := s.heap.size)
  have hAN := x_AN hD0 hN0
  generalize hAe : va_A (y_W ad ar I T A O pl) s.heap.size = Bq at hD hAN ⊢
  have hA : ∀ q : Nat, s.heap.size ≤ q → Bq q := fun q h => by rw [← hAe]; exact Or.inr h
  have hS : va_S Bq s.heap s.heap [] := va_S.rf
  have hl := lv_entry ([.ref (ad 7)]) (n := 2) (Nat.le_of_ble_eq_true rfl)
  rw [lg_entry_eq]
  generalize (lg_sl ([.ref (ad 7)]) ++ List.replicate (2 - (lg_sl ([.ref (ad 7)])).length) Slot.unset).toArray = ls at hl ⊢
  have hl : lv_has ls 2 [(0, .ref (ad 7))] := hl
  obtain ⟨gn, hgn, hg9⟩ := hmi.2.2.2.2.2.2.1
  refine lv_aload_n hx hb d_Row_removeFirst_0 rfl (lv_at hl 0 rfl) ?_
  refine k_g (C := "ChannelMachine$Row") (F := F_Row) (N := 2) hx hb hts i_Row hown hK hP 7 1 (by decide) (by decide) rfl (by decide) (d := (1, 10)) rfl (hts _ k_92) (fun _ h9 => h9) (v := .int (Int32.ofNat gn)) (congrArg Value.int hg9) d_Row_removeFirst_1 ?_
  refine lv_if_ne (tgt := 9) hx hb d_Row_removeFirst_4 (by decide) (fun c_1 => ?_) (fun c_1 => ?_)
  · have c_1 : ¬ gn = 0 := fun h9 => c_1 ((x_eqN (a := gn) (b := 0) (by omega) (by omega)).mpr h9)
    refine lv_aload_n hx hb d_Row_removeFirst_9 rfl (lv_at hl 0 rfl) ?_
    refine k_g (C := "ChannelMachine$Row") (F := F_Row) (N := 2) hx hb hts i_Row hown hK hP 7 0 (by decide) (by decide) rfl (by decide) (d := (0, 8)) rfl (hts _ k_91) (fun _ h9 => h9) (v := .ref (ad 8)) rfl d_Row_removeFirst_10 ?_
    refine lv_iconst (v := 0) hx hb d_Row_removeFirst_13 (by decide) ?_
    refine k_ld hx hb hK hP 8 (by decide) (by decide) (by decide) (by decide) (j := 0) (by unfold vp_in; decide) d_Row_removeFirst_14 ?_
    refine W.eq (g2 := F0 m 15 ls [.int (A 8 (0))]) (by rw [show Int32.toNatClampNeg (0 : Int32) = 0 from by decide]) ?_
    refine lv_istore_n (lv' := [(1, .int (A 8 (0))), (0, .ref (ad 7))]) hx hb d_Row_removeFirst_15 rfl hl (by decide) rfl (fun ls hl => ?_)
    refine lv_aload_n hx hb d_Row_removeFirst_16 rfl (lv_at hl 1 rfl) ?_
    refine lv_dup hx hb d_Row_removeFirst_17 rfl ?_
    refine k_g (C := "ChannelMachine$Row") (F := F_Row) (N := 2) hx hb hts i_Row hown hK hP 7 1 (by decide) (by decide) rfl (by decide) (d := (1, 10)) rfl (hts _ k_92) (fun _ h9 => h9) (v := .int (Int32.ofNat gn)) (congrArg Value.int hg9) d_Row_removeFirst_18 ?_
    refine lv_iconst (v := 1) hx hb d_Row_removeFirst_21 (by decide) ?_
    refine lv_isub hx hb d_Row_removeFirst_22 ?_
    refine W.eq (g2 := F0 m 23 ls [.int (Int32.ofNat (gn - 1)), .ref (ad 7)]) (by rw [← x_subN (a := gn) (b := 1) (by omega)] <;> rfl) ?_
    refine k_pi (C := "ChannelMachine$Row") (F := F_Row) (N := 2) hx hb hts i_Row hown t_Row t_Row_ok n_Row hK hP hD hS 7 1 (by decide) (by decide) rfl (by decide) (j := 10) (x := (Int32.ofNat (gn - 1))) rfl (hts _ k_92) (fun _ h9 => h9) rfl (by decide +kernel) d_Row_removeFirst_23 (fun H locs hP hD hS => ?_)
    have hmi : y_MI z ar G C Gs (upd I 10 (Int32.ofNat (gn - 1))) O (y_L pl) (qn, sn, cq, cs) := hmi.r10 (by omega)
    refine lv_aload_n hx hb d_Row_removeFirst_26 rfl (lv_at hl 1 rfl) ?_
    refine k_g (C := "ChannelMachine$Row") (F := F_Row) (N := 2) hx hb hts i_Row hown hK hP 7 0 (by decide) (by decide) rfl (by decide) (d := (0, 8)) rfl (hts _ k_91) (fun _ h9 => h9) (v := .ref (ad 8)) rfl d_Row_removeFirst_27 ?_
    refine lv_iconst (v := 1) hx hb d_Row_removeFirst_30 (by decide) ?_
    refine lv_aload_n hx hb d_Row_removeFirst_31 rfl (lv_at hl 1 rfl) ?_
    refine k_g (C := "ChannelMachine$Row") (F := F_Row) (N := 2) hx hb hts i_Row hown hK hP 7 0 (by decide) (by decide) rfl (by decide) (d := (0, 8)) rfl (hts _ k_91) (fun _ h9 => h9) (v := .ref (ad 8)) rfl d_Row_removeFirst_32 ?_
    refine lv_iconst (v := 0) hx hb d_Row_removeFirst_35 (by decide) ?_
    refine lv_aload_n hx hb d_Row_removeFirst_36 rfl (lv_at hl 1 rfl) ?_
    refine k_g (C := "ChannelMachine$Row") (F := F_Row) (N := 2) hx hb hts i_Row hown hK hP 7 1 (by decide) (by decide) rfl (by decide) (d := (1, 10)) rfl (hts _ k_92) (fun _ h9 => h9) (v := .int (Int32.ofNat (gn - 1))) rfl d_Row_removeFirst_37 ?_
    refine W.eq (g2 := F0 m 40 ls [.int (Int32.ofNat (gn - 1)), .int (Int32.ofNat 0), .ref (ad 8), .int (Int32.ofNat 1), .ref (ad 8)]) rfl ?_
    refine k_cpy hx hb (by rw [hml]; exact hl.1.symm) hK hP hD hS hown (hts _ k_866) (hts _ k_545) (hts _ k_544) (hts _ k_22) 8 (by decide) (by decide) (by decide) (by decide) (sp := 1) (dp := 0) (n := gn - 1) (by decide) (by show 1 + (gn - 1) ≤ 8; omega) (by show 0 + (gn - 1) ≤ 8; omega) (Nat.le_of_ble_eq_true rfl) (Nat.le_of_ble_eq_true rfl) d_Row_removeFirst_40 (fun A9 H locs hP hD hS => ?_)
    refine lv_iload_n hx hb d_Row_removeFirst_43 rfl (lv_at hl 0 rfl) ?_
    refine y_know (fun hy91 hy92 hy93 hy94 => ?_)
    have hac9 : y_ac (cq + cs) s.heap.size (y_hs s.heap) (cq + cs) H := ⟨by omega, by omega⟩
    refine W.widen (k := 0) (n := 0) (by omega) (by omega) ?_
    exact W.iret (v := (A 8 (0))) hx hb hr (fun t ht hW => ⟨⟨(A 8 (0)), ((upd I 10 (Int32.ofNat (gn - 1))), T, A9, O, pl, (qn, sn, cq, cs)), rfl, ⟨hmi, y_bd.rf, (m_fr.rf.up (by decide) _)⟩, (by dsimp only; rw [ht]; exact ⟨hP, hD, hac9⟩)⟩, hS.F ht⟩) hS.2.2 d_Row_removeFirst_44
  · have c_1 : gn = 0 := (x_eqN (a := gn) (b := 0) (by omega) (by omega)).mp c_1
    refine lv_iconst (v := 0) hx hb d_Row_removeFirst_7 (by decide) ?_
    refine y_know (fun hy91 hy92 hy93 hy94 => ?_)
    have hac9 : y_ac (cq + cs) s.heap.size (y_hs s.heap) (cq + cs) s.heap := ⟨by omega, by omega⟩
    refine W.widen (k := 0) (n := 0) (by omega) (by omega) ?_
    exact W.iret (v := 0) hx hb hr (fun t ht hW => ⟨⟨0, (I, T, A, O, pl, (qn, sn, cq, cs)), rfl, ⟨hmi, y_bd.rf, m_fr.rf⟩, (by dsimp only; rw [ht]; exact ⟨hP, hD, hac9⟩)⟩, hS.F ht⟩) hS.2.2 d_Row_removeFirst_8
set_option maxHeartbeats 4000000 in
set_option maxRecDepth 100000 in
theorem c_R_removeFirst9 (l : Launch) (dC : Nat → ClassId) (dI : Nat → Nat → Nat) (ar : Nat → ClassId) (N0 : Nat) (z : Nat → Nat) (ad : Nat → Nat) (I : Nat → Int32) (T : Int64) (A : Nat → Nat → Int32) (O : Nat → Option Nat) (pl : va_W) (G : Nat → Nat) (C Gs : Nat → List Nat) (qn sn cq cs : Nat) (sz w0 : Nat) (hmi : y_MI z ar G C Gs I O (y_L pl) (qn, sn, cq, cs))  : Met l ({ cls := "ChannelMachine$Row", name := "removeFirst", desc := "()I" } : Jvm.MethodName) ((Jvm.Cond.code ({ cls := "ChannelMachine$Row", name := "removeFirst", desc := "()I" } : Jvm.MethodName) prog_9_method_4_code (2 : Nat) (Option.some Jvm.ClassFile.FieldType.int)) :: x_T) ({ frames := 1, cells := 0, slots := 0, locals := 60 }) (y_Pc (dC, dI) ar N0 z (y_W ad ar I T A O pl) sz w0 [.ref (ad 9)]) (va_Qi (fun (r : Int32) (u : (Nat → Int32) × Int64 × (Nat → Nat → Int32) × (Nat → Option Nat) × va_W × (Nat × Nat × Nat × Nat)) => y_MI z ar G C Gs u.1 u.2.2.2.1 (y_L u.2.2.2.2.1) u.2.2.2.2.2 ∧ y_bd (qn, sn, cq, cs) u.2.2.2.2.2 0 0 ∧ m_fr [10, 11] I u.1) (fun u t => va_P (dC, dI) y_cl (y_W ad ar u.1 u.2.1 u.2.2.1 u.2.2.2.1 u.2.2.2.2.1) t.heap ∧ va_D (va_A (y_W ad ar I T A O pl) sz) (y_W ad ar u.1 u.2.1 u.2.2.1 u.2.2.2.1 u.2.2.2.2.1) ∧ y_ac (cq + cs) sz w0 (u.2.2.2.2.2.2.2.1 + u.2.2.2.2.2.2.2.2) t.heap) (va_A (y_W ad ar I T A O pl) sz)) (0) (0) (va_A (y_W ad ar I T A O pl) sz) := by
  refine Met.ofW (cc := prog_9_method_4_code) (maxL := 2) (ret := (some .int)) (by decide) rfl ?_
  intro p e s m args below meth c s₁ B hml hv
  obtain ⟨rfl, hsz, hN0, hP, hU, hZ, hD0, hw0⟩ := hv
  have hK := hU.2.1
  have hx := B.exec
  have hb := B.bytes
  have hr := B.returns
  have hts : ∀ w ∈ x_T, w.before ([.ref (ad 9)] : List Value).toArray s = true := fun w h => atoms_spec (ws := (Jvm.Cond.code ({ cls := "ChannelMachine$Row", name := "removeFirst", desc := "()I" } : Jvm.MethodName) prog_9_method_4_code (2 : Nat) (Option.some Jvm.ClassFile.FieldType.int)) :: x_T) B.pre w (List.mem_cons_of_mem _ h)
  have hown : s.vm.findClass "ChannelMachine$Row" = some m.cls := findClass_of_methodNamed B.named
  have hlocks := B.notSynchronized
  subst hsz
  subst hw0
  have hD := hD0.self (sz := s.heap.size)
  have hAN := x_AN hD0 hN0
  generalize hAe : va_A (y_W ad ar I T A O pl) s.heap.size = Bq at hD hAN ⊢
  have hA : ∀ q : Nat, s.heap.size ≤ q → Bq q := fun q h => by rw [← hAe]; exact Or.inr h
  have hS : va_S Bq s.heap s.heap [] := va_S.rf
  have hl := lv_entry ([.ref (ad 9)]) (n := 2) (Nat.le_of_ble_eq_true rfl)
  rw [lg_entry_eq]
  generalize (lg_sl ([.ref (ad 9)]) ++ List.replicate (2 - (lg_sl ([.ref (ad 9)])).length) Slot.unset).toArray = ls at hl ⊢
  have hl : lv_has ls 2 [(0, .ref (ad 9))] := hl
  obtain ⟨gn, hgn, hg9⟩ := hmi.2.2.2.2.2.2.2
  refine lv_aload_n hx hb d_Row_removeFirst_0 rfl (lv_at hl 0 rfl) ?_
  refine k_g (C := "ChannelMachine$Row") (F := F_Row) (N := 2) hx hb hts i_Row hown hK hP 9 1 (by decide) (by decide) rfl (by decide) (d := (1, 11)) rfl (hts _ k_92) (fun _ h9 => h9) (v := .int (Int32.ofNat gn)) (congrArg Value.int hg9) d_Row_removeFirst_1 ?_
  refine lv_if_ne (tgt := 9) hx hb d_Row_removeFirst_4 (by decide) (fun c_1 => ?_) (fun c_1 => ?_)
  · have c_1 : ¬ gn = 0 := fun h9 => c_1 ((x_eqN (a := gn) (b := 0) (by omega) (by omega)).mpr h9)
    refine lv_aload_n hx hb d_Row_removeFirst_9 rfl (lv_at hl 0 rfl) ?_
    refine k_g (C := "ChannelMachine$Row") (F := F_Row) (N := 2) hx hb hts i_Row hown hK hP 9 0 (by decide) (by decide) rfl (by decide) (d := (0, 10)) rfl (hts _ k_91) (fun _ h9 => h9) (v := .ref (ad 10)) rfl d_Row_removeFirst_10 ?_
    refine lv_iconst (v := 0) hx hb d_Row_removeFirst_13 (by decide) ?_
    refine k_ld hx hb hK hP 10 (by decide) (by decide) (by decide) (by decide) (j := 0) (by unfold vp_in; decide) d_Row_removeFirst_14 ?_
    refine W.eq (g2 := F0 m 15 ls [.int (A 10 (0))]) (by rw [show Int32.toNatClampNeg (0 : Int32) = 0 from by decide]) ?_
    refine lv_istore_n (lv' := [(1, .int (A 10 (0))), (0, .ref (ad 9))]) hx hb d_Row_removeFirst_15 rfl hl (by decide) rfl (fun ls hl => ?_)
    refine lv_aload_n hx hb d_Row_removeFirst_16 rfl (lv_at hl 1 rfl) ?_
    refine lv_dup hx hb d_Row_removeFirst_17 rfl ?_
    refine k_g (C := "ChannelMachine$Row") (F := F_Row) (N := 2) hx hb hts i_Row hown hK hP 9 1 (by decide) (by decide) rfl (by decide) (d := (1, 11)) rfl (hts _ k_92) (fun _ h9 => h9) (v := .int (Int32.ofNat gn)) (congrArg Value.int hg9) d_Row_removeFirst_18 ?_
    refine lv_iconst (v := 1) hx hb d_Row_removeFirst_21 (by decide) ?_
    refine lv_isub hx hb d_Row_removeFirst_22 ?_
    refine W.eq (g2 := F0 m 23 ls [.int (Int32.ofNat (gn - 1)), .ref (ad 9)]) (by rw [← x_subN (a := gn) (b := 1) (by omega)] <;> rfl) ?_
    refine k_pi (C := "ChannelMachine$Row") (F := F_Row) (N := 2) hx hb hts i_Row hown t_Row t_Row_ok n_Row hK hP hD hS 9 1 (by decide) (by decide) rfl (by decide) (j := 11) (x := (Int32.ofNat (gn - 1))) rfl (hts _ k_92) (fun _ h9 => h9) rfl (by decide +kernel) d_Row_removeFirst_23 (fun H locs hP hD hS => ?_)
    have hmi : y_MI z ar G C Gs (upd I 11 (Int32.ofNat (gn - 1))) O (y_L pl) (qn, sn, cq, cs) := hmi.r11 (by omega)
    refine lv_aload_n hx hb d_Row_removeFirst_26 rfl (lv_at hl 1 rfl) ?_
    refine k_g (C := "ChannelMachine$Row") (F := F_Row) (N := 2) hx hb hts i_Row hown hK hP 9 0 (by decide) (by decide) rfl (by decide) (d := (0, 10)) rfl (hts _ k_91) (fun _ h9 => h9) (v := .ref (ad 10)) rfl d_Row_removeFirst_27 ?_
    refine lv_iconst (v := 1) hx hb d_Row_removeFirst_30 (by decide) ?_
    refine lv_aload_n hx hb d_Row_removeFirst_31 rfl (lv_at hl 1 rfl) ?_
    refine k_g (C := "ChannelMachine$Row") (F := F_Row) (N := 2) hx hb hts i_Row hown hK hP 9 0 (by decide) (by decide) rfl (by decide) (d := (0, 10)) rfl (hts _ k_91) (fun _ h9 => h9) (v := .ref (ad 10)) rfl d_Row_removeFirst_32 ?_
    refine lv_iconst (v := 0) hx hb d_Row_removeFirst_35 (by decide) ?_
    refine lv_aload_n hx hb d_Row_removeFirst_36 rfl (lv_at hl 1 rfl) ?_
    refine k_g (C := "ChannelMachine$Row") (F := F_Row) (N := 2) hx hb hts i_Row hown hK hP 9 1 (by decide) (by decide) rfl (by decide) (d := (1, 11)) rfl (hts _ k_92) (fun _ h9 => h9) (v := .int (Int32.ofNat (gn - 1))) rfl d_Row_removeFirst_37 ?_
    refine W.eq (g2 := F0 m 40 ls [.int (Int32.ofNat (gn - 1)), .int (Int32.ofNat 0), .ref (ad 10), .int (Int32.ofNat 1), .ref (ad 10)]) rfl ?_
    refine k_cpy hx hb (by rw [hml]; exact hl.1.symm) hK hP hD hS hown (hts _ k_866) (hts _ k_545) (hts _ k_544) (hts _ k_22) 10 (by decide) (by decide) (by decide) (by decide) (sp := 1) (dp := 0) (n := gn - 1) (by decide) (by show 1 + (gn - 1) ≤ 8; omega) (by show 0 + (gn - 1) ≤ 8; omega) (Nat.le_of_ble_eq_true rfl) (Nat.le_of_ble_eq_true rfl) d_Row_removeFirst_40 (fun A9 H locs hP hD hS => ?_)
    refine lv_iload_n hx hb d_Row_removeFirst_43 rfl (lv_at hl 0 rfl) ?_
    refine y_know (fun hy91 hy92 hy93 hy94 => ?_)
    have hac9 : y_ac (cq + cs) s.heap.size (y_hs s.heap) (cq + cs) H := ⟨by omega, by omega⟩
    refine W.widen (k := 0) (n := 0) (by omega) (by omega) ?_
    exact W.iret (v := (A 10 (0))) hx hb hr (fun t ht hW => ⟨⟨(A 10 (0)), ((upd I 11 (Int32.ofNat (gn - 1))), T, A9, O, pl, (qn, sn, cq, cs)), rfl, ⟨hmi, y_bd.rf, (m_fr.rf.up (by decide) _)⟩, (by dsimp only; rw [ht]; exact ⟨hP, hD, hac9⟩)⟩, hS.F ht⟩) hS.2.2 d_Row_removeFirst_44
  · have c_1 : gn = 0 := (x_eqN (a := gn) (b := 0) (by omega) (by omega)).mp c_1
    refine lv_iconst (v := 0) hx hb d_Row_removeFirst_7 (by decide) ?_
    refine y_know (fun hy91 hy92 hy93 hy94 => ?_)
    have hac9 : y_ac (cq + cs) s.heap.size (y_hs s.heap) (cq + cs) s.heap := ⟨by omega, by omega⟩
    refine W.widen (k := 0) (n := 0) (by omega) (by omega) ?_
    exact W.iret (v := 0) hx hb hr (fun t ht hW => ⟨⟨0, (I, T, A, O, pl, (qn, sn, cq, cs)), rfl, ⟨hmi, y_bd.rf, m_fr.rf⟩, (by dsimp only; rw [ht]; exact ⟨hP, hD, hac9⟩)⟩, hS.F ht⟩) hS.2.2 d_Row_removeFirst_8
set_option maxHeartbeats 4000000 in
set_option maxRecDepth 100000 in
theorem c_T_findNext (l : Launch) (dC : Nat → ClassId) (dI : Nat → Nat → Nat) (ar : Nat → ClassId) (N0 : Nat) (z : Nat → Nat) (ad : Nat → Nat) (I : Nat → Int32) (T : Int64) (A : Nat → Nat → Int32) (O : Nat → Option Nat) (pl : va_W) (G : Nat → Nat) (C Gs : Nat → List Nat) (qn sn cq cs : Nat) (tt : Nat) (sz w0 : Nat) (hmi : y_MI z ar G C Gs I O (y_L pl) (qn, sn, cq, cs)) (htt : G tt = 8) : Met l ({ cls := "ChannelMachine$Task", name := "findNext", desc := "()I" } : Jvm.MethodName) ((Jvm.Cond.code ({ cls := "ChannelMachine$Task", name := "findNext", desc := "()I" } : Jvm.MethodName) prog_10_method_4_code (2 : Nat) (Option.some Jvm.ClassFile.FieldType.int)) :: x_T) ({ frames := 1, cells := 0, slots := 0, locals := 21 }) (y_Pc (dC, dI) ar N0 z (y_W ad ar I T A O pl) sz w0 [.ref tt]) (va_Qi (fun (r : Int32) (u : (Nat → Int32) × Int64 × (Nat → Nat → Int32) × (Nat → Option Nat) × va_W × (Nat × Nat × Nat × Nat)) => u.1 = I ∧ u.2.1 = T ∧ u.2.2.1 = A ∧ u.2.2.2.1 = O ∧ u.2.2.2.2.2 = (qn, sn, cq, cs) ∧ y_MI z ar G C Gs u.1 u.2.2.2.1 (y_L u.2.2.2.2.1) u.2.2.2.2.2 ∧ (r = 0 ∨ r = 1 ∨ r = 2)) (fun u t => va_P (dC, dI) y_cl (y_W ad ar u.1 u.2.1 u.2.2.1 u.2.2.2.1 u.2.2.2.2.1) t.heap ∧ va_D (va_A (y_W ad ar I T A O pl) sz) (y_W ad ar u.1 u.2.1 u.2.2.1 u.2.2.2.1 u.2.2.2.2.1) ∧ y_ac (cq + cs) sz w0 (u.2.2.2.2.2.2.2.1 + u.2.2.2.2.2.2.2.2) t.heap) (va_A (y_W ad ar I T A O pl) sz)) (0) (0) (va_A (y_W ad ar I T A O pl) sz) := by
  refine Met.ofW (cc := prog_10_method_4_code) (maxL := 2) (ret := (some .int)) (by decide) rfl ?_
  intro p e s m args below meth c s₁ B hml hv
  obtain ⟨rfl, hsz, hN0, hP, hU, hZ, hD0, hw0⟩ := hv
  have hK := hU.2.1
  have hx := B.exec
  have hb := B.bytes
  have hr := B.returns
  have hts : ∀ w ∈ x_T, w.before ([.ref tt] : List Value).toArray s = true := fun w h => atoms_spec (ws := (Jvm.Cond.code ({ cls := "ChannelMachine$Task", name := "findNext", desc := "()I" } : Jvm.MethodName) prog_10_method_4_code (2 : Nat) (Option.some Jvm.ClassFile.FieldType.int)) :: x_T) B.pre w (List.mem_cons_of_mem _ h)
  have hown : s.vm.findClass "ChannelMachine$Task" = some m.cls := findClass_of_methodNamed B.named
  have hlocks := B.notSynchronized
  subst hsz
  subst hw0
  have hD := hD0.self (sz := s.heap.size)
  have hAN := x_AN hD0 hN0
  generalize hAe : va_A (y_W ad ar I T A O pl) s.heap.size = Bq at hD hAN ⊢
  have hA : ∀ q : Nat, s.heap.size ≤ q → Bq q := fun q h => by rw [← hAe]; exact Or.inr h
  have hS : va_S Bq s.heap s.heap [] := va_S.rf
  have hl := lv_entry ([.ref tt]) (n := 2) (Nat.le_of_ble_eq_true rfl)
  rw [lg_entry_eq]
  generalize (lg_sl ([.ref tt]) ++ List.replicate (2 - (lg_sl ([.ref tt])).length) Slot.unset).toArray = ls at hl ⊢
  have hl : lv_has ls 2 [(0, .ref tt)] := hl
  refine lv_iconst (v := 0) hx hb d_Task_findNext_0 (by decide) ?_
  refine W.eq (g2 := F0 m 1 ls [.int (Int32.ofNat 0)]) rfl ?_
  refine lv_istore_n (lv' := [(1, .int (Int32.ofNat 0)), (0, .ref tt)]) hx hb d_Task_findNext_1 rfl hl (by decide) rfl (fun ls hl => ?_)
  refine x_while (fun n H locs ls => ∃ (pl1 : va_W) (i1 : Nat), n = 1000000 - i1 ∧ i1 ≤ 1000000 ∧ y_MI z ar G C Gs I O (y_L pl1) (qn, sn, cq, cs) ∧ va_P (dC, dI) y_cl (y_W ad ar I T A O pl1) H ∧ va_D Bq (y_W ad ar I T A O pl1) ∧ va_S Bq s.heap H locs ∧ lv_has ls 2 [(0, .ref tt), (1, .int (Int32.ofNat i1))]) (fun n ih H locs ls h9 => ?_) ⟨pl, 0, rfl, Nat.zero_le _, hmi, hP, hD, hS, lv_sub hl [1, 0] rfl⟩
  clear hmi hP hD hS hl
  obtain ⟨pl1, i1, hn9, q1, hmi, hP, hD, hS, hl⟩ := h9
  refine lv_iload_n hx hb d_Task_findNext_2 rfl (lv_at hl 1 rfl) ?_
  refine lv_ldc (v := (1000000 : Int32)) hx hb hown (hts _ k_644) d_Task_findNext_3 ?_
  refine W.eq (g2 := F0 m 5 ls [.int (Int32.ofNat 1000000), .int (Int32.ofNat i1)]) rfl ?_
  refine lv_icmp_ge (tgt := 171) hx hb d_Task_findNext_5 (by decide) (fun c_1 => ?_) (fun c_1 => ?_)
  · have c_1 : 1000000 ≤ i1 := (x_leN (a := 1000000) (b := i1) (by omega) (by omega)).mp c_1
    refine lv_iconst (v := 2) hx hb d_Task_findNext_171 (by decide) ?_
    refine y_know (fun hy91 hy92 hy93 hy94 => ?_)
    have hac9 : y_ac (cq + cs) s.heap.size (y_hs s.heap) (cq + cs) H := ⟨by omega, by omega⟩
    refine W.widen (k := 0) (n := 0) (by omega) (by omega) ?_
    exact W.iret (v := 2) hx hb hr (fun t ht hW => ⟨⟨2, (I, T, A, O, pl1, (qn, sn, cq, cs)), rfl, ⟨rfl, rfl, rfl, rfl, rfl, hmi, Or.inr (Or.inr rfl)⟩, (by dsimp only; rw [ht]; exact ⟨hP, hD, hac9⟩)⟩, hS.F ht⟩) hS.2.2 d_Task_findNext_172
  · have c_1 : ¬ 1000000 ≤ i1 := fun h9 => c_1 ((x_leN (a := 1000000) (b := i1) (by omega) (by omega)).mpr h9)
    refine lv_aload_n hx hb d_Task_findNext_8 rfl (lv_at hl 0 rfl) ?_
    obtain ⟨w2, m2, a2, b2, r2, v2, u2, hf2, hw2, hm2, ha2⟩ := hmi.1.2.1 tt htt
    refine d_g (C := "ChannelMachine$Task") (F := F_Task) (N := 7) hx hb hts i_Task hown hK hP hf2 3 rfl (by decide) (hts _ k_455) (fun _ h9 => h9) (v := .int b2) rfl d_Task_findNext_9 ?_
    refine lv_if_ne (tgt := 62) hx hb d_Task_findNext_12 (by decide) (fun c3 => ?_) (fun c3 => ?_)
    · refine lv_aload_n hx hb d_Task_findNext_62 rfl (lv_at hl 0 rfl) ?_
      refine d_g (C := "ChannelMachine$Task") (F := F_Task) (N := 7) hx hb hts i_Task hown hK hP hf2 2 rfl (by decide) (hts _ k_453) (fun _ h9 => h9) (v := .ref a2) rfl d_Task_findNext_63 ?_
      refine lv_aload_n hx hb d_Task_findNext_66 rfl (lv_at hl 0 rfl) ?_
      refine d_g (C := "ChannelMachine$Task") (F := F_Task) (N := 7) hx hb hts i_Task hown hK hP hf2 0 rfl (by decide) (hts _ k_449) (fun _ h9 => h9) (v := .ref w2) rfl d_Task_findNext_67 ?_
      refine lv_acmp_eq (rx := (some a2)) (ry := (some w2)) (tgt := 83) hx hb d_Task_findNext_70 (by decide) (fun h_4 => ?_) (fun h_4 => ?_)
      · refine lv_iconst (v := 2) hx hb d_Task_findNext_83 (by decide) ?_
        refine y_know (fun hy91 hy92 hy93 hy94 => ?_)
        have hac9 : y_ac (cq + cs) s.heap.size (y_hs s.heap) (cq + cs) H := ⟨by omega, by omega⟩
        refine W.widen (k := 0) (n := 0) (by omega) (by omega) ?_
        exact W.iret (v := 2) hx hb hr (fun t ht hW => ⟨⟨2, (I, T, A, O, pl1, (qn, sn, cq, cs)), rfl, ⟨rfl, rfl, rfl, rfl, rfl, hmi, Or.inr (Or.inr rfl)⟩, (by dsimp only; rw [ht]; exact ⟨hP, hD, hac9⟩)⟩, hS.F ht⟩) hS.2.2 d_Task_findNext_84
      · refine lv_aload_n hx hb d_Task_findNext_73 rfl (lv_at hl 0 rfl) ?_
        refine d_g (C := "ChannelMachine$Task") (F := F_Task) (N := 7) hx hb hts i_Task hown hK hP hf2 2 rfl (by decide) (hts _ k_453) (fun _ h9 => h9) (v := .ref a2) rfl d_Task_findNext_74 ?_
        obtain ⟨j5, par5, nx5, tk5, co5, ch5, va5, hf5, hpk5⟩ := hmi.1.1 a2 ha2
        have hpar5 := hpk5.2.1
        have hnx5 := hpk5.2.2.1
        obtain ⟨t5, rfl, ht5⟩ := hpk5.2.2.2.1
        refine d_gN (C := "ChannelMachine$Process") (F := F_Process) (N := 10) hx hb hts i_Process hown hK hP hf5 1 rfl (by decide) (hU.1.2.1 _ kn_394) (fun _ h9 => h9) (v := va_rf par5) rfl d_Task_findNext_77 ?_
        rcases par5 with _ | x6
        · refine W.eq (g2 := F0 m 80 ls [.null]) rfl ?_
          refine lv_ifnonnullN hx hb d_Task_findNext_80 ?_
          refine lv_iconst (v := 2) hx hb d_Task_findNext_83 (by decide) ?_
          refine y_know (fun hy91 hy92 hy93 hy94 => ?_)
          have hac9 : y_ac (cq + cs) s.heap.size (y_hs s.heap) (cq + cs) H := ⟨by omega, by omega⟩
          refine W.widen (k := 0) (n := 0) (by omega) (by omega) ?_
          exact W.iret (v := 2) hx hb hr (fun t ht hW => ⟨⟨2, (I, T, A, O, pl1, (qn, sn, cq, cs)), rfl, ⟨rfl, rfl, rfl, rfl, rfl, hmi, Or.inr (Or.inr rfl)⟩, (by dsimp only; rw [ht]; exact ⟨hP, hD, hac9⟩)⟩, hS.F ht⟩) hS.2.2 d_Task_findNext_84
        · have hx6 := hpar5 x6 rfl
          refine W.eq (g2 := F0 m 80 ls [.ref x6]) rfl ?_
          refine lv_ifnonnull (tgt := 85) hx hb d_Task_findNext_80 (by decide) ?_
          refine lv_aload_n hx hb d_Task_findNext_85 rfl (lv_at hl 0 rfl) ?_
          refine d_g (C := "ChannelMachine$Task") (F := F_Task) (N := 7) hx hb hts i_Task hown hK hP hf2 2 rfl (by decide) (hts _ k_453) (fun _ h9 => h9) (v := .ref a2) rfl d_Task_findNext_86 ?_
          refine d_gN (C := "ChannelMachine$Process") (F := F_Process) (N := 10) hx hb hts i_Process hown hK hP hf5 1 rfl (by decide) (hU.1.2.1 _ kn_394) (fun _ h9 => h9) (v := .ref x6) rfl d_Task_findNext_89 ?_
          obtain ⟨j7, par7, nx7, tk7, co7, ch7, va7, hf7, hpk7⟩ := hmi.1.1 x6 hx6
          have hpar7 := hpk7.2.1
          have hnx7 := hpk7.2.2.1
          obtain ⟨t7, rfl, ht7⟩ := hpk7.2.2.2.1
          refine d_gN (C := "ChannelMachine$Process") (F := F_Process) (N := 10) hx hb hts i_Process hown hK hP hf7 0 rfl (by decide) (hU.1.2.1 _ kn_390) (fun _ h9 => h9) (v := .ref (z (3 + j7))) rfl d_Task_findNext_92 ?_
          refine va_gets hx hb ((hZ.2.1.1 7 (by decide)).1.narrow hAN) hS hown (hts _ k_646) (fun _ h9 => h9) d_Task_findNext_95 ?_
          refine lv_acmp_ne (rx := (some ((z (3 + j7))))) (ry := (some ((z (3 + 7))))) (tgt := 114) hx hb d_Task_findNext_98 (by decide) (fun h_8 => ?_) (fun h_8 => ?_)
          · refine lv_aload_n hx hb d_Task_findNext_114 rfl (lv_at hl 0 rfl) ?_
            refine d_g (C := "ChannelMachine$Task") (F := F_Task) (N := 7) hx hb hts i_Task hown hK hP hf2 2 rfl (by decide) (hts _ k_453) (fun _ h9 => h9) (v := .ref a2) rfl d_Task_findNext_115 ?_
            refine d_gN (C := "ChannelMachine$Process") (F := F_Process) (N := 10) hx hb hts i_Process hown hK hP hf5 1 rfl (by decide) (hU.1.2.1 _ kn_394) (fun _ h9 => h9) (v := .ref x6) rfl d_Task_findNext_118 ?_
            refine d_gN (C := "ChannelMachine$Process") (F := F_Process) (N := 10) hx hb hts i_Process hown hK hP hf7 0 rfl (by decide) (hU.1.2.1 _ kn_390) (fun _ h9 => h9) (v := .ref (z (3 + j7))) rfl d_Task_findNext_121 ?_
            refine va_gets hx hb ((hZ.2.1.1 5 (by decide)).1.narrow hAN) hS hown (hts _ k_645) (fun _ h9 => h9) d_Task_findNext_124 ?_
            refine lv_acmp_ne (rx := (some ((z (3 + j7))))) (ry := (some ((z (3 + 5))))) (tgt := 154) hx hb d_Task_findNext_127 (by decide) (fun h_9 => ?_) (fun h_9 => ?_)
            · refine lv_aload_n hx hb d_Task_findNext_154 rfl (lv_at hl 0 rfl) ?_
              refine lv_aload_n hx hb d_Task_findNext_155 rfl (lv_at hl 0 rfl) ?_
              refine d_g (C := "ChannelMachine$Task") (F := F_Task) (N := 7) hx hb hts i_Task hown hK hP hf2 2 rfl (by decide) (hts _ k_453) (fun _ h9 => h9) (v := .ref a2) rfl d_Task_findNext_156 ?_
              refine d_gN (C := "ChannelMachine$Process") (F := F_Process) (N := 10) hx hb hts i_Process hown hK hP hf5 1 rfl (by decide) (hU.1.2.1 _ kn_394) (fun _ h9 => h9) (v := .ref x6) rfl d_Task_findNext_159 ?_
              refine d_p (C := "ChannelMachine$Task") (F := F_Task) (N := 7) hx hb hts i_Task hown t_Task t_Task_ok n_Task hK hP hD hS hf2 2 rfl (by decide) (hts _ k_453) (fun _ h9 => h9) rfl (ty := (.object "ChannelMachine$Process")) (v := .ref x6) (by decide +kernel) rfl rfl (Nat.le_of_ble_eq_true rfl) d_Task_findNext_162 (fun pl10 H locs hL hP hD hS => ?_)
              have hmi := y_MI.task hmi (t := tt) (w := w2) (m := m2) (a := x6) (b := b2) (r := r2) (v := v2) (u := u2) htt hw2 hm2 hx6
              have hfo2 := hf2
              have hf2 : y_L pl10 tt = some (.inr (8, y_Tf w2 m2 x6 b2 r2 v2 u2)) := by rw [hL]; exact y_Lu_s
              have hmi : y_MI z ar G C Gs I O (y_L pl10) (qn, sn, cq, cs) := by rw [hL]; exact hmi
              clear hL
              refine lv_iinc (v := (Int32.ofNat (i1 + 1))) (lv' := [(1, .int (Int32.ofNat (i1 + 1))), (0, .ref tt)]) hx hb d_Task_findNext_165 hl (k := 1) rfl (x_incN i1) (by decide) rfl (fun ls hl => ?_)
              refine lv_goto (tgt := 2) hx hb d_Task_findNext_168 (by decide) ?_
              exact ih (1000000 - (i1 + 1)) (by omega) H locs ls ⟨pl10, i1 + 1, rfl, by omega, hmi, hP, hD, hS, lv_sub hl [1, 0] rfl⟩
            · refine lv_aload_n hx hb d_Task_findNext_130 rfl (lv_at hl 0 rfl) ?_
              refine d_g (C := "ChannelMachine$Task") (F := F_Task) (N := 7) hx hb hts i_Task hown hK hP hf2 2 rfl (by decide) (hts _ k_453) (fun _ h9 => h9) (v := .ref a2) rfl d_Task_findNext_131 ?_
              refine d_gN (C := "ChannelMachine$Process") (F := F_Process) (N := 10) hx hb hts i_Process hown hK hP hf5 4 rfl (by decide) (hU.1.2.1 _ kn_403) (fun _ h9 => h9) (v := va_rf nx5) rfl d_Task_findNext_134 ?_
              rcases nx5 with _ | x11
              · refine W.eq (g2 := F0 m 137 ls [.null]) rfl ?_
                refine lv_ifnullN (tgt := 154) hx hb d_Task_findNext_137 (by decide) ?_
                refine lv_aload_n hx hb d_Task_findNext_154 rfl (lv_at hl 0 rfl) ?_
                refine lv_aload_n hx hb d_Task_findNext_155 rfl (lv_at hl 0 rfl) ?_
                refine d_g (C := "ChannelMachine$Task") (F := F_Task) (N := 7) hx hb hts i_Task hown hK hP hf2 2 rfl (by decide) (hts _ k_453) (fun _ h9 => h9) (v := .ref a2) rfl d_Task_findNext_156 ?_
                refine d_gN (C := "ChannelMachine$Process") (F := F_Process) (N := 10) hx hb hts i_Process hown hK hP hf5 1 rfl (by decide) (hU.1.2.1 _ kn_394) (fun _ h9 => h9) (v := .ref x6) rfl d_Task_findNext_159 ?_
                refine d_p (C := "ChannelMachine$Task") (F := F_Task) (N := 7) hx hb hts i_Task hown t_Task t_Task_ok n_Task hK hP hD hS hf2 2 rfl (by decide) (hts _ k_453) (fun _ h9 => h9) rfl (ty := (.object "ChannelMachine$Process")) (v := .ref x6) (by decide +kernel) rfl rfl (Nat.le_of_ble_eq_true rfl) d_Task_findNext_162 (fun pl12 H locs hL hP hD hS => ?_)
                have hmi := y_MI.task hmi (t := tt) (w := w2) (m := m2) (a := x6) (b := b2) (r := r2) (v := v2) (u := u2) htt hw2 hm2 hx6
                have hfo2 := hf2
                have hf2 : y_L pl12 tt = some (.inr (8, y_Tf w2 m2 x6 b2 r2 v2 u2)) := by rw [hL]; exact y_Lu_s
                have hmi : y_MI z ar G C Gs I O (y_L pl12) (qn, sn, cq, cs) := by rw [hL]; exact hmi
                clear hL
                refine lv_iinc (v := (Int32.ofNat (i1 + 1))) (lv' := [(1, .int (Int32.ofNat (i1 + 1))), (0, .ref tt)]) hx hb d_Task_findNext_165 hl (k := 1) rfl (x_incN i1) (by decide) rfl (fun ls hl => ?_)
                refine lv_goto (tgt := 2) hx hb d_Task_findNext_168 (by decide) ?_
                exact ih (1000000 - (i1 + 1)) (by omega) H locs ls ⟨pl12, i1 + 1, rfl, by omega, hmi, hP, hD, hS, lv_sub hl [1, 0] rfl⟩
              · have hx11 := hnx5 x11 rfl
                refine W.eq (g2 := F0 m 137 ls [.ref x11]) rfl ?_
                refine lv_ifnull hx hb d_Task_findNext_137 ?_
                refine lv_aload_n hx hb d_Task_findNext_140 rfl (lv_at hl 0 rfl) ?_
                refine lv_aload_n hx hb d_Task_findNext_141 rfl (lv_at hl 0 rfl) ?_
                refine d_g (C := "ChannelMachine$Task") (F := F_Task) (N := 7) hx hb hts i_Task hown hK hP hf2 2 rfl (by decide) (hts _ k_453) (fun _ h9 => h9) (v := .ref a2) rfl d_Task_findNext_142 ?_
                refine d_gN (C := "ChannelMachine$Process") (F := F_Process) (N := 10) hx hb hts i_Process hown hK hP hf5 4 rfl (by decide) (hU.1.2.1 _ kn_403) (fun _ h9 => h9) (v := .ref x11) rfl d_Task_findNext_145 ?_
                have hFc := y_free hD hS hA
                refine va_callv (va_runV (As := [.ref x11]) (rest := []) ⟨hx, hb, hml, hown, hts⟩ (c_T_enter l dC dI ar N0 z ad I T A O pl1 G C Gs qn sn cq cs tt x11 H.size (y_hs H) hmi htt hx11) (cwV 1 hts (x_goodV k_647 k_637 k_638 k_18 k_639) rfl rfl rfl (by decide +kernel) ⟨Nat.le_of_ble_eq_true rfl, Nat.le_of_ble_eq_true rfl⟩) ⟨y_blind, (by obtain ⟨q9, hq9⟩ := y_L_at hf2; exact va_recv hK hP (ci := 8) (q0 := 20 + q9) rfl (by rw [y_W_pl]; exact hq9)), fun U9 hU9 hW9 => y_pre hU9 hW9 hP hD hU hZ hS hAN hN0⟩ rfl rfl hl.1 rfl (lv_room (Nat.le_of_ble_eq_true rfl)) d_Task_findNext_148 ⟨(by show 0 + (0) ≤ 0; omega), (by show 0 + (0) ≤ 0; omega)⟩) hS (fun q _ h => hFc q h) hFc (fun u t H1 locs ht hvm hw hB hz1 hk1 hS => ?_)
                obtain ⟨I13, T13, A13, O13, pl13, q13, s13, cq13, cs13⟩ := u
                dsimp only at hw hB
                rw [ht] at hB
                obtain ⟨hP, hD1, hac13⟩ := hB
                have hD : va_D Bq (y_W ad ar I13 T13 A13 O13 pl13) := hD1.weaken (fun _ q _ h => hFc q.1 h)
                generalize H1 = H at hP hS hac13 ⊢
                refine W.widen (k := 0) (n := 0) (by omega) (by omega) ?_
                obtain ⟨e1, e2, e3, e4, e5, hmi⟩ := hw
                cases e5
                rw [e1, e2, e3, e4] at hP hD
                rw [e1, e4] at hmi
                have hmi : y_MI z ar G C Gs I O (y_L pl13) (qn, sn, cq, cs) := hmi
                refine lv_goto (tgt := 165) hx hb d_Task_findNext_151 (by decide) ?_
                refine lv_iinc (v := (Int32.ofNat (i1 + 1))) (lv' := [(1, .int (Int32.ofNat (i1 + 1))), (0, .ref tt)]) hx hb d_Task_findNext_165 hl (k := 1) rfl (x_incN i1) (by decide) rfl (fun ls hl => ?_)
                refine lv_goto (tgt := 2) hx hb d_Task_findNext_168 (by decide) ?_
                exact ih (1000000 - (i1 + 1)) (by omega) H locs ls ⟨pl13, i1 + 1, rfl, by omega, hmi, hP, hD, hS, lv_sub hl [1, 0] rfl⟩
          · refine lv_aload_n hx hb d_Task_findNext_101 rfl (lv_at hl 0 rfl) ?_
            refine lv_aload_n hx hb d_Task_findNext_102 rfl (lv_at hl 0 rfl) ?_
            refine d_g (C := "ChannelMachine$Task") (F := F_Task) (N := 7) hx hb hts i_Task hown hK hP hf2 2 rfl (by decide) (hts _ k_453) (fun _ h9 => h9) (v := .ref a2) rfl d_Task_findNext_103 ?_
            refine d_gN (C := "ChannelMachine$Process") (F := F_Process) (N := 10) hx hb hts i_Process hown hK hP hf5 1 rfl (by decide) (hU.1.2.1 _ kn_394) (fun _ h9 => h9) (v := .ref x6) rfl d_Task_findNext_106 ?_
            have hFc := y_free hD hS hA
            refine va_callv (va_runV (As := [.ref x6]) (rest := []) ⟨hx, hb, hml, hown, hts⟩ (c_T_enter l dC dI ar N0 z ad I T A O pl1 G C Gs qn sn cq cs tt x6 H.size (y_hs H) hmi htt hx6) (cwV 1 hts (x_goodV k_647 k_637 k_638 k_18 k_639) rfl rfl rfl (by decide +kernel) ⟨Nat.le_of_ble_eq_true rfl, Nat.le_of_ble_eq_true rfl⟩) ⟨y_blind, (by obtain ⟨q9, hq9⟩ := y_L_at hf2; exact va_recv hK hP (ci := 8) (q0 := 20 + q9) rfl (by rw [y_W_pl]; exact hq9)), fun U9 hU9 hW9 => y_pre hU9 hW9 hP hD hU hZ hS hAN hN0⟩ rfl rfl hl.1 rfl (lv_room (Nat.le_of_ble_eq_true rfl)) d_Task_findNext_109 ⟨(by show 0 + (0) ≤ 0; omega), (by show 0 + (0) ≤ 0; omega)⟩) hS (fun q _ h => hFc q h) hFc (fun u t H1 locs ht hvm hw hB hz1 hk1 hS => ?_)
            obtain ⟨I14, T14, A14, O14, pl14, q14, s14, cq14, cs14⟩ := u
            dsimp only at hw hB
            rw [ht] at hB
            obtain ⟨hP, hD1, hac14⟩ := hB
            have hD : va_D Bq (y_W ad ar I14 T14 A14 O14 pl14) := hD1.weaken (fun _ q _ h => hFc q.1 h)
            generalize H1 = H at hP hS hac14 ⊢
            refine W.widen (k := 0) (n := 0) (by omega) (by omega) ?_
            obtain ⟨e1, e2, e3, e4, e5, hmi⟩ := hw
            cases e5
            rw [e1, e2, e3, e4] at hP hD
            rw [e1, e4] at hmi
            have hmi : y_MI z ar G C Gs I O (y_L pl14) (qn, sn, cq, cs) := hmi
            refine lv_iconst (v := 1) hx hb d_Task_findNext_112 (by decide) ?_
            refine y_know (fun hy91 hy92 hy93 hy94 => ?_)
            have hac9 : y_ac (cq + cs) s.heap.size (y_hs s.heap) (cq + cs) H := ⟨by omega, by omega⟩
            refine W.widen (k := 0) (n := 0) (by omega) (by omega) ?_
            exact W.iret (v := 1) hx hb hr (fun t ht hW => ⟨⟨1, (I, T, A, O, pl14, (qn, sn, cq, cs)), rfl, ⟨rfl, rfl, rfl, rfl, rfl, hmi, Or.inr (Or.inl rfl)⟩, (by dsimp only; rw [ht]; exact ⟨hP, hD, hac9⟩)⟩, hS.F ht⟩) hS.2.2 d_Task_findNext_113
    · refine lv_aload_n hx hb d_Task_findNext_15 rfl (lv_at hl 0 rfl) ?_
      refine d_g (C := "ChannelMachine$Task") (F := F_Task) (N := 7) hx hb hts i_Task hown hK hP hf2 2 rfl (by decide) (hts _ k_453) (fun _ h9 => h9) (v := .ref a2) rfl d_Task_findNext_16 ?_
      obtain ⟨j15, par15, nx15, tk15, co15, ch15, va15, hf15, hpk15⟩ := hmi.1.1 a2 ha2
      have hpar15 := hpk15.2.1
      have hnx15 := hpk15.2.2.1
      obtain ⟨t15, rfl, ht15⟩ := hpk15.2.2.2.1
      refine d_gN (C := "ChannelMachine$Process") (F := F_Process) (N := 10) hx hb hts i_Process hown hK hP hf15 0 rfl (by decide) (hU.1.2.1 _ kn_390) (fun _ h9 => h9) (v := .ref (z (3 + j15))) rfl d_Task_findNext_19 ?_
      refine va_gets hx hb ((hZ.2.1.1 5 (by decide)).1.narrow hAN) hS hown (hts _ k_645) (fun _ h9 => h9) d_Task_findNext_22 ?_
      refine lv_acmp_eq (rx := (some ((z (3 + j15))))) (ry := (some ((z (3 + 5))))) (tgt := 30) hx hb d_Task_findNext_25 (by decide) (fun h_16 => ?_) (fun h_16 => ?_)
      · refine lv_aload_n hx hb d_Task_findNext_30 rfl (lv_at hl 0 rfl) ?_
        refine d_g (C := "ChannelMachine$Task") (F := F_Task) (N := 7) hx hb hts i_Task hown hK hP hf2 2 rfl (by decide) (hts _ k_453) (fun _ h9 => h9) (v := .ref a2) rfl d_Task_findNext_31 ?_
        refine d_gN (C := "ChannelMachine$Process") (F := F_Process) (N := 10) hx hb hts i_Process hown hK hP hf15 2 rfl (by decide) (hU.1.2.1 _ kn_396) (fun _ h9 => h9) (v := va_rf (C a2).head?) rfl d_Task_findNext_34 ?_
        rcases hhy17 : (C a2).head? with _ | y17
        · refine W.eq (g2 := F0 m 37 ls [.null]) rfl ?_
          refine lv_ifnonnullN hx hb d_Task_findNext_37 ?_
          refine lv_aload_n hx hb d_Task_findNext_40 rfl (lv_at hl 0 rfl) ?_
          refine lv_iconst (v := 1) hx hb d_Task_findNext_41 (by decide) ?_
          refine d_p (C := "ChannelMachine$Task") (F := F_Task) (N := 7) hx hb hts i_Task hown t_Task t_Task_ok n_Task hK hP hD hS hf2 3 rfl (by decide) (hts _ k_455) (fun _ h9 => h9) rfl (ty := .boolean) (v := .int 1) (by decide +kernel) rfl rfl (Nat.le_of_ble_eq_true rfl) d_Task_findNext_42 (fun pl18 H locs hL hP hD hS => ?_)
          have hmi := y_MI.task hmi (t := tt) (w := w2) (m := m2) (a := a2) (b := 1) (r := r2) (v := v2) (u := u2) htt hw2 hm2 ha2
          have hfo2 := hf2
          have hf2 : y_L pl18 tt = some (.inr (8, y_Tf w2 m2 a2 1 r2 v2 u2)) := by rw [hL]; exact y_Lu_s
          have hmi : y_MI z ar G C Gs I O (y_L pl18) (qn, sn, cq, cs) := by rw [hL]; exact hmi
          clear hL
          refine lv_goto (tgt := 165) hx hb d_Task_findNext_45 (by decide) ?_
          refine lv_iinc (v := (Int32.ofNat (i1 + 1))) (lv' := [(1, .int (Int32.ofNat (i1 + 1))), (0, .ref tt)]) hx hb d_Task_findNext_165 hl (k := 1) rfl (x_incN i1) (by decide) rfl (fun ls hl => ?_)
          refine lv_goto (tgt := 2) hx hb d_Task_findNext_168 (by decide) ?_
          exact ih (1000000 - (i1 + 1)) (by omega) H locs ls ⟨pl18, i1 + 1, rfl, by omega, hmi, hP, hD, hS, lv_sub hl [1, 0] rfl⟩
        · have hy17 := hmi.1.head ha2 hhy17
          refine W.eq (g2 := F0 m 37 ls [.ref y17]) rfl ?_
          refine lv_ifnonnull (tgt := 48) hx hb d_Task_findNext_37 (by decide) ?_
          refine lv_aload_n hx hb d_Task_findNext_48 rfl (lv_at hl 0 rfl) ?_
          refine lv_aload_n hx hb d_Task_findNext_49 rfl (lv_at hl 0 rfl) ?_
          refine d_g (C := "ChannelMachine$Task") (F := F_Task) (N := 7) hx hb hts i_Task hown hK hP hf2 2 rfl (by decide) (hts _ k_453) (fun _ h9 => h9) (v := .ref a2) rfl d_Task_findNext_50 ?_
          refine d_gN (C := "ChannelMachine$Process") (F := F_Process) (N := 10) hx hb hts i_Process hown hK hP hf15 2 rfl (by decide) (hU.1.2.1 _ kn_396) (fun _ h9 => h9) (v := .ref y17) (by show some (va_rf (C a2).head?) = _; rw [hhy17]; rfl) d_Task_findNext_53 ?_
          refine d_p (C := "ChannelMachine$Task") (F := F_Task) (N := 7) hx hb hts i_Task hown t_Task t_Task_ok n_Task hK hP hD hS hf2 2 rfl (by decide) (hts _ k_453) (fun _ h9 => h9) rfl (ty := (.object "ChannelMachine$Process")) (v := .ref y17) (by decide +kernel) rfl rfl (Nat.le_of_ble_eq_true rfl) d_Task_findNext_56 (fun pl19 H locs hL hP hD hS => ?_)
          have hmi := y_MI.task hmi (t := tt) (w := w2) (m := m2) (a := y17) (b := b2) (r := r2) (v := v2) (u := u2) htt hw2 hm2 hy17
          have hfo2 := hf2
          have hf2 : y_L pl19 tt = some (.inr (8, y_Tf w2 m2 y17 b2 r2 v2 u2)) := by rw [hL]; exact y_Lu_s
          have hmi : y_MI z ar G C Gs I O (y_L pl19) (qn, sn, cq, cs) := by rw [hL]; exact hmi
          clear hL
          refine lv_goto (tgt := 165) hx hb d_Task_findNext_59 (by decide) ?_
          refine lv_iinc (v := (Int32.ofNat (i1 + 1))) (lv' := [(1, .int (Int32.ofNat (i1 + 1))), (0, .ref tt)]) hx hb d_Task_findNext_165 hl (k := 1) rfl (x_incN i1) (by decide) rfl (fun ls hl => ?_)
          refine lv_goto (tgt := 2) hx hb d_Task_findNext_168 (by decide) ?_
          exact ih (1000000 - (i1 + 1)) (by omega) H locs ls ⟨pl19, i1 + 1, rfl, by omega, hmi, hP, hD, hS, lv_sub hl [1, 0] rfl⟩
      · refine lv_iconst (v := 0) hx hb d_Task_findNext_28 (by decide) ?_
        refine y_know (fun hy91 hy92 hy93 hy94 => ?_)
        have hac9 : y_ac (cq + cs) s.heap.size (y_hs s.heap) (cq + cs) H := ⟨by omega, by omega⟩
        refine W.widen (k := 0) (n := 0) (by omega) (by omega) ?_
        exact W.iret (v := 0) hx hb hr (fun t ht hW => ⟨⟨0, (I, T, A, O, pl1, (qn, sn, cq, cs)), rfl, ⟨rfl, rfl, rfl, rfl, rfl, hmi, Or.inl rfl⟩, (by dsimp only; rw [ht]; exact ⟨hP, hD, hac9⟩)⟩, hS.F ht⟩) hS.2.2 d_Task_findNext_29
