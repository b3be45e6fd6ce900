-- ===== 88.yperf: the room of a method that throws; perform of the machine, by program =====
theorem k_721 : (Jvm.Cond.methodLink "ChannelMachine$Machine" (106 : Nat) ({ cls := "ChannelMachine$Machine", name := "settle", desc := "()V" } : Jvm.MethodName)) ∈ x_T := x_at 721 (by decide +kernel) (by decide +kernel)
theorem k_723 : (Jvm.Cond.instanceMethod ({ cls := "ChannelMachine$Machine", name := "settle", desc := "()V" } : Jvm.MethodName)) ∈ x_T := x_at 723 (by decide +kernel) (by decide +kernel)
theorem k_724 : (Jvm.Cond.code ({ cls := "ChannelMachine$Machine", name := "settle", desc := "()V" } : Jvm.MethodName) prog_6_method_7_code (4 : Nat) (Option.none : Option Jvm.ClassFile.FieldType)) ∈ x_T := x_at 724 (by decide +kernel) (by decide +kernel)
theorem k_781 : (Jvm.Cond.methodLink "ChannelMachine$Machine" (118 : Nat) ({ cls := "ChannelMachine$Machine", name := "act", desc := "(LChannelMachine$Task;)V" } : Jvm.MethodName)) ∈ x_T := x_at 781 (by decide +kernel) (by decide +kernel)
theorem k_783 : (Jvm.Cond.instanceMethod ({ cls := "ChannelMachine$Machine", name := "act", desc := "(LChannelMachine$Task;)V" } : Jvm.MethodName)) ∈ x_T := x_at 783 (by decide +kernel) (by decide +kernel)
theorem k_784 : (Jvm.Cond.code ({ cls := "ChannelMachine$Machine", name := "act", desc := "(LChannelMachine$Task;)V" } : Jvm.MethodName) prog_6_method_12_code (3 : Nat) (Option.none : Option Jvm.ClassFile.FieldType)) ∈ x_T := x_at 784 (by decide +kernel) (by decide +kernel)
theorem k_883 : (Jvm.Cond.methodLink "ChannelMachine$Machine" (122 : Nat) ({ cls := "ChannelMachine$Machine", name := "growTime", desc := "()V" } : Jvm.MethodName)) ∈ x_T := x_at 883 (by decide +kernel) (by decide +kernel)
theorem k_885 : (Jvm.Cond.instanceMethod ({ cls := "ChannelMachine$Machine", name := "growTime", desc := "()V" } : Jvm.MethodName)) ∈ x_T := x_at 885 (by decide +kernel) (by decide +kernel)
theorem k_886 : (Jvm.Cond.code ({ cls := "ChannelMachine$Machine", name := "growTime", desc := "()V" } : Jvm.MethodName) prog_6_method_11_code (4 : Nat) (Option.none : Option Jvm.ClassFile.FieldType)) ∈ x_T := x_at 886 (by decide +kernel) (by decide +kernel)
theorem k_892 : (Jvm.Cond.methodLink "ChannelMachine$Machine" (125 : Nat) ({ cls := "ChannelMachine$Machine", name := "isHostAwaited", desc := "()Z" } : Jvm.MethodName)) ∈ x_T := x_at 892 (by decide +kernel) (by decide +kernel)
theorem k_894 : (Jvm.Cond.instanceMethod ({ cls := "ChannelMachine$Machine", name := "isHostAwaited", desc := "()Z" } : Jvm.MethodName)) ∈ x_T := x_at 894 (by decide +kernel) (by decide +kernel)
theorem k_895 : (Jvm.Cond.code ({ cls := "ChannelMachine$Machine", name := "isHostAwaited", desc := "()Z" } : Jvm.MethodName) prog_6_method_6_code (1 : Nat) (Option.some Jvm.ClassFile.FieldType.boolean)) ∈ x_T := x_at 895 (by decide +kernel) (by decide +kernel)
theorem kp_25 : (Jvm.Cond.selects "ChannelMachine$Machine" ({ cls := "ChannelMachine$Machine", name := "settle", desc := "()V" } : Jvm.MethodName) ({ cls := "ChannelMachine$Machine", name := "settle", desc := "()V" } : Jvm.MethodName)) ∈ x_T := x_sel (q := (({ cls := "ChannelMachine$Machine", name := "settle", desc := "()V" } : Jvm.MethodName), 11)) 25 (by decide +kernel) (by decide +kernel)
theorem kp_29 : (Jvm.Cond.selects "ChannelMachine$Machine" ({ cls := "ChannelMachine$Machine", name := "act", desc := "(LChannelMachine$Task;)V" } : Jvm.MethodName) ({ cls := "ChannelMachine$Machine", name := "act", desc := "(LChannelMachine$Task;)V" } : Jvm.MethodName)) ∈ x_T := x_sel (q := (({ cls := "ChannelMachine$Machine", name := "act", desc := "(LChannelMachine$Task;)V" } : Jvm.MethodName), 11)) 29 (by decide +kernel) (by decide +kernel)
theorem kp_46 : (Jvm.Cond.selects "ChannelMachine$Machine" ({ cls := "ChannelMachine$Machine", name := "growTime", desc := "()V" } : Jvm.MethodName) ({ cls := "ChannelMachine$Machine", name := "growTime", desc := "()V" } : Jvm.MethodName)) ∈ x_T := x_sel (q := (({ cls := "ChannelMachine$Machine", name := "growTime", desc := "()V" } : Jvm.MethodName), 11)) 46 (by decide +kernel) (by decide +kernel)
theorem kp_47 : (Jvm.Cond.selects "ChannelMachine$Machine" ({ cls := "ChannelMachine$Machine", name := "isHostAwaited", desc := "()Z" } : Jvm.MethodName) ({ cls := "ChannelMachine$Machine", name := "isHostAwaited", desc := "()Z" } : Jvm.MethodName)) ∈ x_T := x_sel (q := (({ cls := "ChannelMachine$Machine", name := "isHostAwaited", desc := "()Z" } : Jvm.MethodName), 11)) 47 (by decide +kernel) (by decide +kernel)
theorem d_Machine_perform_0 : decode prog_6_method_5_code 0 = .ok (.aload_n 0, 1) := by decide +kernel
theorem d_Machine_perform_1 : decode prog_6_method_5_code 1 = .ok (.getfield 51, 3) := by decide +kernel
theorem d_Machine_perform_4 : decode prog_6_method_5_code 4 = .ok (.iload_n 1, 1) := by decide +kernel
theorem d_Machine_perform_5 : decode prog_6_method_5_code 5 = .ok (.iadd, 1) := by decide +kernel
theorem d_Machine_perform_6 : decode prog_6_method_5_code 6 = .ok (.istore_n 2, 1) := by decide +kernel
theorem d_Machine_perform_7 : decode prog_6_method_5_code 7 = .ok (.aload_n 0, 1) := by decide +kernel
theorem d_Machine_perform_8 : decode prog_6_method_5_code 8 = .ok (.invokevirtual 106, 3) := by decide +kernel
theorem d_Machine_perform_11 : decode prog_6_method_5_code 11 = .ok (.iconst 0, 1) := by decide +kernel
theorem d_Machine_perform_12 : decode prog_6_method_5_code 12 = .ok (.istore_n 3, 1) := by decide +kernel
theorem d_Machine_perform_13 : decode prog_6_method_5_code 13 = .ok (.iload_n 3, 1) := by decide +kernel
theorem d_Machine_perform_14 : decode prog_6_method_5_code 14 = .ok (.ldc 109, 2) := by decide +kernel
theorem d_Machine_perform_16 : decode prog_6_method_5_code 16 = .ok (.if_icmp .ge 108, 3) := by decide +kernel
theorem d_Machine_perform_19 : decode prog_6_method_5_code 19 = .ok (.aload_n 0, 1) := by decide +kernel
theorem d_Machine_perform_20 : decode prog_6_method_5_code 20 = .ok (.getfield 44, 3) := by decide +kernel
theorem d_Machine_perform_23 : decode prog_6_method_5_code 23 = .ok (.iconst 2, 1) := by decide +kernel
theorem d_Machine_perform_24 : decode prog_6_method_5_code 24 = .ok (.if_icmp .ne 5, 3) := by decide +kernel
theorem d_Machine_perform_27 : decode prog_6_method_5_code 27 = .ok (.iconst 0, 1) := by decide +kernel
theorem d_Machine_perform_28 : decode prog_6_method_5_code 28 = .ok (.ireturn, 1) := by decide +kernel
theorem d_Machine_perform_29 : decode prog_6_method_5_code 29 = .ok (.aload_n 0, 1) := by decide +kernel
theorem d_Machine_perform_30 : decode prog_6_method_5_code 30 = .ok (.getfield 51, 3) := by decide +kernel
theorem d_Machine_perform_33 : decode prog_6_method_5_code 33 = .ok (.iload_n 2, 1) := by decide +kernel
theorem d_Machine_perform_34 : decode prog_6_method_5_code 34 = .ok (.if_icmp .lt 5, 3) := by decide +kernel
theorem d_Machine_perform_37 : decode prog_6_method_5_code 37 = .ok (.iconst 1, 1) := by decide +kernel
theorem d_Machine_perform_38 : decode prog_6_method_5_code 38 = .ok (.ireturn, 1) := by decide +kernel
theorem d_Machine_perform_39 : decode prog_6_method_5_code 39 = .ok (.aload_n 0, 1) := by decide +kernel
theorem d_Machine_perform_40 : decode prog_6_method_5_code 40 = .ok (.getfield 34, 3) := by decide +kernel
theorem d_Machine_perform_43 : decode prog_6_method_5_code 43 = .ok (.invokeinterface 110 1, 5) := by decide +kernel
theorem d_Machine_perform_48 : decode prog_6_method_5_code 48 = .ok (.ifCond .ne 23, 3) := by decide +kernel
theorem d_Machine_perform_51 : decode prog_6_method_5_code 51 = .ok (.aload_n 0, 1) := by decide +kernel
theorem d_Machine_perform_52 : decode prog_6_method_5_code 52 = .ok (.aload_n 0, 1) := by decide +kernel
theorem d_Machine_perform_53 : decode prog_6_method_5_code 53 = .ok (.getfield 34, 3) := by decide +kernel
theorem d_Machine_perform_56 : decode prog_6_method_5_code 56 = .ok (.iconst 0, 1) := by decide +kernel
theorem d_Machine_perform_57 : decode prog_6_method_5_code 57 = .ok (.invokeinterface 114 2, 5) := by decide +kernel
theorem d_Machine_perform_62 : decode prog_6_method_5_code 62 = .ok (.checkcast 77, 3) := by decide +kernel
theorem d_Machine_perform_65 : decode prog_6_method_5_code 65 = .ok (.invokevirtual 118, 3) := by decide +kernel
theorem d_Machine_perform_68 : decode prog_6_method_5_code 68 = .ok (.goto 46, 3) := by decide +kernel
theorem d_Machine_perform_71 : decode prog_6_method_5_code 71 = .ok (.aload_n 0, 1) := by decide +kernel
theorem d_Machine_perform_72 : decode prog_6_method_5_code 72 = .ok (.getfield 38, 3) := by decide +kernel
theorem d_Machine_perform_75 : decode prog_6_method_5_code 75 = .ok (.invokeinterface 110 1, 5) := by decide +kernel
theorem d_Machine_perform_80 : decode prog_6_method_5_code 80 = .ok (.ifCond .ne 10, 3) := by decide +kernel
theorem d_Machine_perform_83 : decode prog_6_method_5_code 83 = .ok (.aload_n 0, 1) := by decide +kernel
theorem d_Machine_perform_84 : decode prog_6_method_5_code 84 = .ok (.invokevirtual 122, 3) := by decide +kernel
theorem d_Machine_perform_87 : decode prog_6_method_5_code 87 = .ok (.goto 27, 3) := by decide +kernel
theorem d_Machine_perform_90 : decode prog_6_method_5_code 90 = .ok (.aload_n 0, 1) := by decide +kernel
theorem d_Machine_perform_91 : decode prog_6_method_5_code 91 = .ok (.invokevirtual 125, 3) := by decide +kernel
theorem d_Machine_perform_94 : decode prog_6_method_5_code 94 = .ok (.ifCond .eq 5, 3) := by decide +kernel
theorem d_Machine_perform_97 : decode prog_6_method_5_code 97 = .ok (.iconst 2, 1) := by decide +kernel
theorem d_Machine_perform_98 : decode prog_6_method_5_code 98 = .ok (.ireturn, 1) := by decide +kernel
theorem d_Machine_perform_99 : decode prog_6_method_5_code 99 = .ok (.aload_n 0, 1) := by decide +kernel
theorem d_Machine_perform_100 : decode prog_6_method_5_code 100 = .ok (.iconst 3, 1) := by decide +kernel
theorem d_Machine_perform_101 : decode prog_6_method_5_code 101 = .ok (.invokevirtual 59, 3) := by decide +kernel
theorem d_Machine_perform_104 : decode prog_6_method_5_code 104 = .ok (.new 128, 3) := by decide +kernel
theorem d_Machine_perform_107 : decode prog_6_method_5_code 107 = .ok (.dup, 1) := by decide +kernel
theorem d_Machine_perform_108 : decode prog_6_method_5_code 108 = .ok (.ldc 130, 2) := by decide +kernel
theorem d_Machine_perform_110 : decode prog_6_method_5_code 110 = .ok (.invokespecial 132, 3) := by decide +kernel
theorem d_Machine_perform_113 : decode prog_6_method_5_code 113 = .ok (.athrow, 1) := by decide +kernel
theorem d_Machine_perform_114 : decode prog_6_method_5_code 114 = .ok (.aload_n 0, 1) := by decide +kernel
theorem d_Machine_perform_115 : decode prog_6_method_5_code 115 = .ok (.invokevirtual 106, 3) := by decide +kernel
theorem d_Machine_perform_118 : decode prog_6_method_5_code 118 = .ok (.iinc 3 1, 3) := by decide +kernel
theorem d_Machine_perform_121 : decode prog_6_method_5_code 121 = .ok (.goto (-108), 3) := by decide +kernel
theorem d_Machine_perform_124 : decode prog_6_method_5_code 124 = .ok (.iconst 1, 1) := by decide +kernel
theorem d_Machine_perform_125 : decode prog_6_method_5_code 125 = .ok (.ireturn, 1) := by decide +kernel
theorem y_hs_f : ∀ (l : List Cell) (n : Nat), l.foldl (fun n c => n + c.slots.size) n = n + (l.map (·.slots.size)).sum := by
  intro l
  induction l with
  | nil => intro n; simp
  | cons c l ih => intro n; simp only [List.foldl_cons, List.map_cons, List.sum_cons]; rw [ih]; omega
theorem y_hs_l (H : Heap) : y_hs H = (H.toList.map (·.slots.size)).sum := by
  unfold y_hs
  rw [← Array.foldl_toList, y_hs_f]
  omega
/-- the room of a heap after a method, by its frame -/
theorem y_same {s t : State} {L : List Loc} {k n : Nat} (h : s.sameButNew t L k n) : y_hs t.heap ≤ y_hs s.heap + n := by
  obtain ⟨_, h1, _, _, h2, h3⟩ := h
  have e : (t.heap.toList.take s.heap.size).map (·.slots.size) = s.heap.toList.map (·.slots.size) := by
    apply List.ext_getElem?
    intro a
    by_cases ha : a < s.heap.size
    · obtain ⟨c', q1, _, q2, _⟩ := h3 a s.heap[a] (Array.getElem?_eq_getElem ha)
      rw [List.getElem?_map, List.getElem?_map, List.getElem?_take_of_lt ha, Array.getElem?_toList, Array.getElem?_toList, q1, Array.getElem?_eq_getElem ha]
      simp [q2]
    · rw [List.getElem?_eq_none (by simp; omega), List.getElem?_eq_none (by simp; omega)]
  have e2 : y_hs t.heap = ((t.heap.toList.take s.heap.size).map (·.slots.size)).sum + ((t.heap.toList.drop s.heap.size).map (·.slots.size)).sum := by
    rw [y_hs_l, ← List.sum_append, ← List.map_append, List.take_append_drop]
  rw [e2, e, ← y_hs_l]
  omega
section YXW
variable {p : Program} {l : Launch} {e : Env} {R : Room} {s : State} {m : MethodId} {args : Array Value} {below : List Frame} {meth : Method} {c : Code} {H : Heap} {locs : List Loc} {cells slots : Nat} {free : Addr → Prop} {Qc : Array Value → State → Outcome → State → Prop} {XC XC' : String → State → State → Prop}
theorem y_xW {g : JFrame} {mc ms mc' ms' : Nat} (h1 : mc' ≤ mc) (h2 : ms' ≤ ms) (hx : ∀ E t, XC' E s t → t.heap.size ≤ s.heap.size + mc' → y_hs t.heap ≤ y_hs s.heap + ms' → XC E s t) (k : W p l e R s m args below meth c H locs cells slots (vx_MQ below Qc XC' args s mc' ms' free) g) : W p l e R s m args below meth c H locs cells slots (vx_MQ below Qc XC args s mc ms free) g := by
  intro T hT X
  obtain ⟨t, a1, o, b1, b2, b3⟩ := k T hT X
  refine ⟨t, a1, o, b1, b2, ?_⟩
  rcases b3 with ⟨q1, L, q2, q3⟩ | ⟨q, e1, E, ce, L, c1, c2, c3, c4, c5, c6, c7⟩
  · exact Or.inl ⟨q1, L, ⟨q2.1, q2.2.1, q2.2.2.mono h1 h2⟩, q3⟩
  · exact Or.inr ⟨q, e1, E, ce, L, hx E t c1 c6.2.2.1 (by have h9 := y_same c6; exact h9), c2, c3, c4, c5, c6.mono h1 h2, c7⟩
end YXW
theorem y_mx.le {a b c : Nat} (h1 : a ≤ c) (h2 : b ≤ c) : y_mx a b ≤ c := by unfold y_mx; omega
theorem y_rmB {cq cs cq1 cs1 A B Mq Ms k k' : Nat} (h3 : cq ≤ cq1) (h4 : cs ≤ cs1) (hA1 : cq1 ≤ A) (hB1 : cs1 ≤ B) (hA : A ≤ Mq) (hB : B ≤ Ms) (hk : k ≤ 6) (hk' : k' ≤ 106) : (cq1 + cs1 - (cq + cs)) / 5 + ((A - cq1 + (B - cs1)) / 5 + k) ≤ (Mq - cq + (Ms - cs)) / 5 + 6 ∧ 4 * (cq1 + cs1 - (cq + cs)) + (4 * (A - cq1 + (B - cs1)) + k') ≤ 4 * (Mq - cq + (Ms - cs)) + 106 := by
  constructor <;> omega
theorem y_bd.gt {n n1 n2 : Nat × Nat × Nat × Nat} {K a : Nat} (h : y_bd n n1 K a) (h' : y_bd n1 n2 n1.2.1 0) (hq : n1.1 = 0) (hK : n.2.1 + a ≤ n.1 + K) : y_bd n n2 K a := by
  obtain ⟨h1, h2, h3, h4⟩ := h
  obtain ⟨g1, g2, g3, g4⟩ := h'
  refine ⟨by omega, by omega, ?_, ?_⟩ <;> omega
theorem pf_a0 {Mq mo qn sn : Nat} (h0 : 2 * (qn + (sn + mo - qn + 4 * mo)) + 12 ≤ Mq) : 2 * qn + 12 ≤ Mq := by omega
theorem pf_a1 {Ms mo sn : Nat} (h0 : 2 * (sn + mo) + 12 ≤ Ms) : 2 * sn + 12 ≤ Ms := by omega
theorem pf_a2 {mo qn sn : Nat} : 0 + 0 ≤ sn + mo - qn + 4 * mo := by omega
theorem pf_a3 {mo : Nat} : 0 + 0 ≤ mo := by omega
theorem pf_a4 {qn sn : Nat} : 0 + 0 ≤ sn + 0 - qn + 4 * 0 := by omega
theorem pf_a5 : 0 + 0 ≤ 0 := by omega
theorem pf_a6 {a1 mo qn sn : Nat} (h0 : a1 ≤ mo) : sn + a1 - qn + 4 * a1 ≤ sn + mo - qn + 4 * mo := by omega
theorem pf_a7 {a1 mo : Nat} (h0 : a1 ≤ mo) : a1 ≤ mo := by omega
theorem pf_a8 {a1 mo qn sn : Nat} (h0 : a1 ≤ mo) (h1 : a1 + 1 ≤ mo) : sn + a1 - qn + 4 * a1 + 0 ≤ sn + mo - qn + 4 * mo := by omega
theorem pf_a9 {a1 mo : Nat} (h0 : a1 ≤ mo) (h1 : a1 + 1 ≤ mo) : a1 + 0 ≤ mo := by omega
theorem pf_a10 {a1 mo qn sn : Nat} (h0 : a1 ≤ mo) (h1 : a1 + 1 ≤ mo) : sn + a1 - qn + 4 * a1 + 0 ≤ sn + mo - qn + 4 * mo := by omega
theorem pf_a11 {a1 mo : Nat} (h0 : a1 ≤ mo) (h1 : a1 + 1 ≤ mo) : a1 + 0 ≤ mo := by omega
theorem pf_a12 {a1 mo qn sn : Nat} (h0 : a1 ≤ mo) (h1 : a1 + 1 ≤ mo) : sn + a1 - qn + 4 * a1 ≤ sn + mo - qn + 4 * mo := by omega
theorem pf_a13 {a1 mo : Nat} (h0 : a1 ≤ mo) (h1 : a1 + 1 ≤ mo) : a1 ≤ mo := by omega
theorem pf_a14 {Mq a1 mo q1 qn s1 sn : Nat} (h0 : 2 * (qn + (sn + mo - qn + 4 * mo)) + 12 ≤ Mq) (h1 : q1 ≤ qn + (sn + a1 - qn + 4 * a1)) (h2 : s1 ≤ sn + a1) (h3 : a1 ≤ mo) (h4 : a1 + 1 ≤ mo) (h5 : q1 = 0) : 2 * (q1 + s1) + 12 ≤ Mq := by omega
theorem pf_a15 {Ms a1 mo s1 sn : Nat} (h0 : 2 * (sn + mo) + 12 ≤ Ms) (h1 : s1 ≤ sn + a1) (h2 : a1 ≤ mo) (h3 : a1 + 1 ≤ mo) : 2 * (s1 + 0) + 12 ≤ Ms := by omega
theorem pf_a16 {a1 mo qn sn : Nat} (h0 : a1 ≤ mo) (h1 : a1 + 1 ≤ mo) : sn + a1 - qn + 4 * a1 ≤ sn + mo - qn + 4 * mo := by omega
theorem pf_a17 {a1 mo : Nat} (h0 : a1 ≤ mo) (h1 : a1 + 1 ≤ mo) : a1 ≤ mo := by omega
theorem pf_a18 {Mq mo q17 qn sn : Nat} (h0 : 2 * (qn + (sn + mo - qn + 4 * mo)) + 12 ≤ Mq) (h1 : q17 ≤ qn + (sn + mo - qn + 4 * mo)) : 2 * q17 + 12 ≤ Mq := by omega
theorem pf_a19 {Ms mo s17 sn : Nat} (h0 : 2 * (sn + mo) + 12 ≤ Ms) (h1 : s17 ≤ sn + mo) : 2 * s17 + 12 ≤ Ms := by omega
theorem pf_a20 {a1 mo qn sn : Nat} (h0 : a1 ≤ mo) (h1 : a1 + 1 ≤ mo) : sn + a1 - qn + 4 * a1 + 0 ≤ sn + mo - qn + 4 * mo := by omega
theorem pf_a21 {a1 mo : Nat} (h0 : a1 ≤ mo) (h1 : a1 + 1 ≤ mo) : a1 + 0 ≤ mo := by omega
theorem pf_a22 {a1 mo qn sn : Nat} (h0 : a1 ≤ mo) (h1 : a1 + 1 ≤ mo) : sn + a1 - qn + 4 * a1 + 0 ≤ sn + (a1) - qn + 4 * (a1) := by omega
theorem pf_a23 {a1 mo : Nat} (h0 : a1 ≤ mo) (h1 : a1 + 1 ≤ mo) : a1 + 0 ≤ a1 := by omega
theorem pf_a24 {Mq a1 mo q1 qn s1 sn : Nat} (h0 : 2 * (qn + (sn + mo - qn + 4 * mo)) + 12 ≤ Mq) (h1 : q1 ≤ qn + (sn + a1 - qn + 4 * a1)) (h2 : s1 ≤ sn + a1) (h3 : a1 ≤ mo) (h4 : a1 + 1 ≤ mo) : 2 * (q1 + 4) + 12 ≤ Mq := by omega
theorem pf_a25 {Ms a1 mo s1 sn : Nat} (h0 : 2 * (sn + mo) + 12 ≤ Ms) (h1 : s1 ≤ sn + a1) (h2 : a1 ≤ mo) (h3 : a1 + 1 ≤ mo) : 2 * (s1 + 1) + 12 ≤ Ms := by omega
theorem pf_a26 {a1 mo qn sn : Nat} (h0 : a1 ≤ mo) (h1 : a1 + 1 ≤ mo) : sn + a1 - qn + 4 * a1 + 4 ≤ sn + mo - qn + 4 * mo := by omega
theorem pf_a27 {a1 mo : Nat} (h0 : a1 ≤ mo) (h1 : a1 + 1 ≤ mo) : a1 + 1 ≤ mo := by omega
theorem pf_a28 {a1 mo qn sn : Nat} (h0 : a1 ≤ mo) (h1 : a1 + 1 ≤ mo) : sn + a1 - qn + 4 * a1 + 4 ≤ sn + mo - qn + 4 * mo := by omega
theorem pf_a29 {a1 mo : Nat} (h0 : a1 ≤ mo) (h1 : a1 + 1 ≤ mo) : a1 + 1 ≤ mo := by omega
theorem pf_a30 {Mq mo q25 qn sn : Nat} (h0 : 2 * (qn + (sn + mo - qn + 4 * mo)) + 12 ≤ Mq) (h1 : q25 ≤ qn + (sn + mo - qn + 4 * mo)) : 2 * q25 + 12 ≤ Mq := by omega
theorem pf_a31 {Ms mo s25 sn : Nat} (h0 : 2 * (sn + mo) + 12 ≤ Ms) (h1 : s25 ≤ sn + mo) : 2 * s25 + 12 ≤ Ms := by omega
theorem pf_a32 {a1 mo qn sn : Nat} (h0 : a1 ≤ mo) (h1 : a1 + 1 ≤ mo) : sn + a1 - qn + 4 * a1 + 4 + 0 ≤ sn + mo - qn + 4 * mo := by omega
theorem pf_a33 {a1 mo : Nat} (h0 : a1 ≤ mo) (h1 : a1 + 1 ≤ mo) : a1 + 1 + 0 ≤ mo := by omega
theorem pf_a34 {a1 mo qn sn : Nat} (h0 : a1 ≤ mo) (h1 : a1 + 1 ≤ mo) : sn + a1 - qn + 4 * a1 + 4 + 0 ≤ sn + (a1 + 1) - qn + 4 * (a1 + 1) := by omega
theorem pf_a35 {a1 mo : Nat} (h0 : a1 ≤ mo) (h1 : a1 + 1 ≤ mo) : a1 + 1 + 0 ≤ a1 + 1 := by omega
theorem pf_a36 {a1 mo qn sn : Nat} (h0 : a1 ≤ mo) : sn + a1 - qn + 4 * a1 ≤ sn + mo - qn + 4 * mo := by omega
theorem pf_a37 {a1 mo : Nat} (h0 : a1 ≤ mo) : a1 ≤ mo := by omega
theorem pf_a38 {a1 mo qn sn : Nat} (h0 : a1 ≤ mo) : sn + a1 - qn + 4 * a1 ≤ sn + mo - qn + 4 * mo := by omega
theorem pf_a39 {a1 mo : Nat} (h0 : a1 ≤ mo) : a1 ≤ mo := by omega
set_option maxHeartbeats 4000000 in
set_option maxRecDepth 100000 in
theorem c_M_perform (l : Launch) (hst : l.stackTraces = false) (dC : Nat → ClassId) (dI : Nat → Nat → Nat) (ar : Nat → ClassId) (N0 : Nat) (z : Nat → Nat) (ad : Nat → Nat) (I : Nat → Int32) (T : Int64) (A : Nat → Nat → Int32) (O : Nat → Option Nat) (pl : va_W) (G : Nat → Nat) (C Gs : Nat → List Nat) (qn sn cq cs : Nat) (mo a0 : Nat) (sz w0 : Nat) (hmi : y_MI z ar G C Gs I O (y_L pl) (qn, sn, cq, cs)) (ha : I 9 = Int32.ofNat a0) (ha0 : a0 ≤ 1000000) (hmo : mo ≤ 200) (hq0 : qn ≤ 1000000) (hs0 : sn ≤ 1000000) : vx_Met l ({ cls := "ChannelMachine$Machine", name := "perform", desc := "(I)I" } : Jvm.MethodName) ((Jvm.Cond.code ({ cls := "ChannelMachine$Machine", name := "perform", desc := "(I)I" } : Jvm.MethodName) prog_6_method_5_code (4 : Nat) (Option.some Jvm.ClassFile.FieldType.int)) :: x_T) ({ frames := 12, cells := (y_mx cq (2 * (qn + (sn + mo - qn + 4 * mo)) + 12) - cq + (y_mx cs (2 * (sn + mo) + 12) - cs)) / 5 + 6, slots := 4 * (y_mx cq (2 * (qn + (sn + mo - qn + 4 * mo)) + 12) - cq + (y_mx cs (2 * (sn + mo) + 12) - cs)) + 106, locals := 301 }) (y_Pc (dC, dI) ar N0 z (y_W ad ar I T A O pl) sz w0 [.ref (ad 4), .int (Int32.ofNat mo)]) (va_Qi (fun (r : Int32) (u : (Nat → Int32) × Int64 × (Nat → Nat → Int32) × (Nat → Option Nat) × va_W × (Nat × Nat × Nat × Nat)) => y_MI z ar G C Gs u.1 u.2.2.2.1 (y_L u.2.2.2.2.1) u.2.2.2.2.2 ∧ y_bd (qn, sn, cq, cs) u.2.2.2.2.2 (sn + mo - qn + 4 * mo) mo ∧ m_fr [7, 8, 9, 10, 11, 12, 13, 14, 15, 16, 17, 18, 19, 20, 21] I u.1 ∧ (∃ a1 : Nat, a1 ≤ mo ∧ u.1 9 = Int32.ofNat (a0 + a1)) ∧ (r = 0 ∨ r = 1 ∨ r = 2)) (fun u t => va_P (dC, dI) y_cl (y_W ad ar u.1 u.2.1 u.2.2.1 u.2.2.2.1 u.2.2.2.2.1) t.heap ∧ va_D (va_A (y_W ad ar I T A O pl) sz) (y_W ad ar u.1 u.2.1 u.2.2.1 u.2.2.2.1 u.2.2.2.2.1) ∧ y_ac (cq + cs) sz w0 (u.2.2.2.2.2.2.2.1 + u.2.2.2.2.2.2.2.2) t.heap) (va_A (y_W ad ar I T A O pl) sz)) (vx_X (fun (u : (Nat → Int32) × Int64 × (Nat → Nat → Int32) × (Nat → Option Nat) × va_W × (Nat × Nat × Nat × Nat)) => y_MI z ar G C Gs u.1 u.2.2.2.1 (y_L u.2.2.2.2.1) u.2.2.2.2.2 ∧ y_bd (qn, sn, cq, cs) u.2.2.2.2.2 (sn + mo - qn + 4 * mo) mo ∧ m_fr [7, 8, 9, 10, 11, 12, 13, 14, 15, 16, 17, 18, 19, 20, 21] I u.1 ∧ u.1 7 = 3) (fun E u t => va_P (dC, dI) y_cl (y_W ad ar u.1 u.2.1 u.2.2.1 u.2.2.2.1 u.2.2.2.2.1) t.heap ∧ va_D (va_A (y_W ad ar I T A O pl) sz) (y_W ad ar u.1 u.2.1 u.2.2.1 u.2.2.2.1 u.2.2.2.2.1) ∧ (E = "java/lang/IllegalStateException" ∨ E = "java/lang/ArithmeticException") ∧ y_ac (cq + cs) (sz + 1) (w0 + 6) (u.2.2.2.2.2.2.2.1 + u.2.2.2.2.2.2.2.2) t.heap) (va_A (y_W ad ar I T A O pl) sz)) ((y_mx cq (2 * (qn + (sn + mo - qn + 4 * mo)) + 12) - cq + (y_mx cs (2 * (sn + mo) + 12) - cs)) / 5 + 6) (4 * (y_mx cq (2 * (qn + (sn + mo - qn + 4 * mo)) + 12) - cq + (y_mx cs (2 * (sn + mo) + 12) - cs)) + 106) (va_A (y_W ad ar I T A O pl) sz) := by
  refine vx_ofW (cc := prog_6_method_5_code) (maxL := 4) (ret := (some .int)) (by decide) rfl ?_
  intro p e s m args below meth c s₁ B hml htb hv
  obtain ⟨rfl, hsz, hN0, hP, hU, hZ, hD0, hw0⟩ := hv
  have hK := hU.2.1
  have hx := B.exec
  have hb := B.bytes
  have hr := B.returns
  have hts : ∀ w ∈ x_T, w.before ([.ref (ad 4), .int (Int32.ofNat mo)] : List Value).toArray s = true := fun w h => atoms_spec (ws := (Jvm.Cond.code ({ cls := "ChannelMachine$Machine", name := "perform", desc := "(I)I" } : Jvm.MethodName) prog_6_method_5_code (4 : Nat) (Option.some Jvm.ClassFile.FieldType.int)) :: x_T) B.pre w (List.mem_cons_of_mem _ h)
  have hown : s.vm.findClass "ChannelMachine$Machine" = some m.cls := findClass_of_methodNamed B.named
  have hlocks := B.notSynchronized
  subst hsz
  subst hw0
  have hD := hD0.self (sz := s.heap.size)
  have hAN := x_AN hD0 hN0
  generalize hAe : va_A (y_W ad ar I T A O pl) s.heap.size = Bq at hD hAN ⊢
  have hA : ∀ q : Nat, s.heap.size ≤ q → Bq q := fun q h => by rw [← hAe]; exact Or.inr h
  have hS : va_S Bq s.heap s.heap [] := va_S.rf
  have hl := lv_entry ([.ref (ad 4), .int (Int32.ofNat mo)]) (n := 4) (Nat.le_of_ble_eq_true rfl)
  rw [lg_entry_eq]
  generalize (lg_sl ([.ref (ad 4), .int (Int32.ofNat mo)]) ++ List.replicate (4 - (lg_sl ([.ref (ad 4), .int (Int32.ofNat mo)])).length) Slot.unset).toArray = ls at hl ⊢
  have hl : lv_has ls 4 [(0, .ref (ad 4)), (1, .int (Int32.ofNat mo))] := hl
  have hle := y_LS.le hmi.2.1.2
  have hle2 := y_LS.le hmi.2.2.1.2
  have hcap := hmi.2.2.2.2.1
  dsimp only at hle hle2 hcap
  have hm1 := @y_mx.r cq (2 * (qn + (sn + mo - qn + 4 * mo)) + 12)
  have hm2 := @y_mx.l cq (2 * (qn + (sn + mo - qn + 4 * mo)) + 12)
  have hm3 := @y_mx.l cs (2 * (sn + mo) + 12)
  have hm4 := @y_mx.r cs (2 * (sn + mo) + 12)
  refine lv_aload_n hx hb d_Machine_perform_0 rfl (lv_at hl 0 rfl) ?_
  refine k_g (C := "ChannelMachine$Machine") (F := F_Machine) (N := 11) hx hb hts i_Machine hown hK hP 4 9 (by decide) (by decide) rfl (by decide) (d := (1, 9)) rfl (hts _ k_167) (fun _ h9 => h9) (v := .int (Int32.ofNat a0)) (congrArg Value.int ha) d_Machine_perform_1 ?_
  refine lv_iload_n hx hb d_Machine_perform_4 rfl (lv_at hl 1 rfl) ?_
  refine lv_iadd hx hb d_Machine_perform_5 ?_
  refine W.eq (g2 := F0 m 6 ls [.int (Int32.ofNat (a0 + mo))]) (by rw [← x_addN (a := a0) (b := mo)] <;> rfl) ?_
  refine lv_istore_n (lv' := [(2, .int (Int32.ofNat (a0 + mo))), (0, .ref (ad 4)), (1, .int (Int32.ofNat mo))]) hx hb d_Machine_perform_6 rfl hl (by decide) rfl (fun ls hl => ?_)
  refine lv_aload_n hx hb d_Machine_perform_7 rfl (lv_at hl 1 rfl) ?_
  refine W.widen (k := (cq + cs - (cq + cs)) / 5) (n := 4 * (cq + cs - (cq + cs))) (by omega) (by omega) ?_
  have hrA : 2 * qn + 12 ≤ y_mx cq (2 * (qn + (sn + mo - qn + 4 * mo)) + 12) := (pf_a0 hm1)
  have hrB : 2 * sn + 12 ≤ y_mx cs (2 * (sn + mo) + 12) := (pf_a1 hm4)
  have hrm := y_rmB (cq := cq) (cs := cs) (cq1 := cq) (cs1 := cs) (A := y_mx cq (2 * qn + 12)) (B := y_mx cs (2 * sn + 12)) (Mq := y_mx cq (2 * (qn + (sn + mo - qn + 4 * mo)) + 12)) (Ms := y_mx cs (2 * (sn + mo) + 12)) (k := 5) (k' := 100) (Nat.le_refl _) (Nat.le_refl _) y_mx.l y_mx.l (y_mx.le hm2 hrA) (y_mx.le hm3 hrB) (by decide) (by decide)
  refine y_know (fun hya1 hya2 hya3 hya4 => ?_)
  have hFc := y_free hD hS hA
  refine va_callv (va_runV (As := []) (rest := []) ⟨hx, hb, hml, hown, hts⟩ (c_M_settle l dC dI ar N0 z ad I T A O pl G C Gs qn sn cq cs s.heap.size (y_hs s.heap) hmi (by omega)) (cwV 0 hts (x_goodV k_721 k_723 kp_25 k_3 k_724) rfl rfl rfl (by decide +kernel) ⟨Nat.le_of_ble_eq_true rfl, Nat.le_of_ble_eq_true rfl⟩) ⟨y_blind, va_recv hK hP (ci := 2) (q0 := 4) rfl (y_W_ob (by decide) (by decide)), fun U9 hU9 hW9 => y_pre hU9 hW9 hP hD hU hZ hS hAN hN0⟩ rfl rfl hl.1 rfl (lv_room (Nat.le_of_ble_eq_true rfl)) d_Machine_perform_8 ⟨hrm.1, hrm.2⟩) hS (fun q _ h => hFc q h) hFc (fun u t H1 locs ht hvm hw hB hz1 hk1 hS => ?_)
  obtain ⟨I1, T1, A1, O1, pl1, q1, s1, cq1, cs1⟩ := u
  dsimp only at hw hB
  rw [ht] at hB
  obtain ⟨hP, hD1, hac1⟩ := hB
  have hD : va_D Bq (y_W ad ar I1 T1 A1 O1 pl1) := hD1.weaken (fun _ q _ h => hFc q.1 h)
  generalize H1 = H at hP hS hac1 ⊢
  obtain ⟨hmi, hbd1, fr1⟩ := hw
  unfold y_ac at hac1
  try dsimp only at hac1
  have hb1 := hbd1.lin
  dsimp only at hb1
  have hbo1 : y_bd (qn, sn, cq, cs) (q1, s1, cq1, cs1) (sn + mo - qn + 4 * mo) mo := (y_bd.mono (y_bd.tr (y_bd.rf (a := 0) (b := 0)) hbd1 (e := 0 + 0) (g := 0 + 0) (Nat.le_refl _) (Nat.le_refl _)) (c := sn + mo - qn + 4 * mo) (d := mo) (pf_a2) (pf_a3))
  have hbo1 := hbo1.lin
  dsimp only at hbo1
  refine y_tight (k := (cq1 + cs1 - (cq + cs)) / 5) (n := 4 * (cq1 + cs1 - (cq + cs))) (by omega) (by omega) ?_
  refine lv_iconst (v := 0) hx hb d_Machine_perform_11 (by decide) ?_
  refine W.eq (g2 := F0 m 12 ls [.int (Int32.ofNat 0)]) rfl ?_
  refine lv_istore_n (lv' := [(3, .int (Int32.ofNat 0)), (2, .int (Int32.ofNat (a0 + mo))), (0, .ref (ad 4)), (1, .int (Int32.ofNat mo))]) hx hb d_Machine_perform_12 rfl hl (by decide) rfl (fun ls hl => ?_)
  refine W.widen (k := ((cq1 + cs1) - (cq + cs)) / 5) (n := 4 * ((cq1 + cs1) - (cq + cs))) (by omega) (by omega) ?_
  refine x_whileG (fun X => (X - (cq + cs)) / 5) (fun X => 4 * (X - (cq + cs))) (k := (cq1 + cs1)) (fun n X H locs ls => ∃ (I1 : Nat → Int32) (T1 : Int64) (A1 : Nat → Nat → Int32) (O1 : Nat → Option Nat) (pl1 : va_W) (q1 s1 cq1 cs1 i1 a1 : Nat), X = cq1 + cs1 ∧ n = 1000000 - i1 ∧ i1 ≤ 1000000 ∧ I1 9 = Int32.ofNat (a0 + a1) ∧ a1 ≤ mo ∧ m_fr [7, 8, 9, 10, 11, 12, 13, 14, 15, 16, 17, 18, 19, 20, 21] I I1 ∧ y_MI z ar G C Gs I1 O1 (y_L pl1) (q1, s1, cq1, cs1) ∧ y_bd (qn, sn, cq, cs) (q1, s1, cq1, cs1) (sn + a1 - qn + 4 * a1) a1 ∧ va_P (dC, dI) y_cl (y_W ad ar I1 T1 A1 O1 pl1) H ∧ va_D Bq (y_W ad ar I1 T1 A1 O1 pl1) ∧ va_S Bq s.heap H locs ∧ lv_has ls 4 [(0, .ref (ad 4)), (2, .int (Int32.ofNat (a0 + mo))), (3, .int (Int32.ofNat i1))]) (fun n ih X H locs ls h9 => ?_) ⟨I1, T1, A1, O1, pl1, q1, s1, cq1, cs1, 0, 0, rfl, rfl, Nat.zero_le _, ((fr1 9 (by decide)).trans ha), Nat.zero_le _, (m_fr.rf.tr fr1 (by decide)), hmi, (y_bd.mono (y_bd.tr (y_bd.rf (a := 0) (b := 0)) hbd1 (e := 0 + 0) (g := 0 + 0) (Nat.le_refl _) (Nat.le_refl _)) (c := sn + 0 - qn + 4 * 0) (d := 0) (pf_a4) (pf_a5)), hP, hD, hS, lv_sub hl [2, 1, 0] rfl⟩
  obtain ⟨I1, T1, A1, O1, pl1, q1, s1, cq1, cs1, i1, a1, hX, hn9, q9, h91, ha1, hfr, hmi, hbd0, hP, hD, hS, hl⟩ := h9
  refine W.cs (cells' := (X - (cq + cs)) / 5) (slots' := 4 * (X - (cq + cs))) rfl rfl ?_
  clear hac1 hb1 hbo1 hbd1 fr1 hya1 hya2 hya3 hya4 hrm hrA hrB
  subst hX
  have hle1 := y_LS.le hmi.2.1.2
  have hle12 := y_LS.le hmi.2.2.1.2
  have hcap1 := hmi.2.2.2.2.1
  dsimp only at hle1 hle12 hcap1
  have hb0c : q1 ≤ qn + (sn + a1 - qn + 4 * a1) := hbd0.1
  have hb0d : s1 ≤ sn + a1 := hbd0.2.1
  have hb0 := (y_bd.mono hbd0 (c := sn + mo - qn + 4 * mo) (d := mo) (by omega) (by omega)).lin
  dsimp only at hb0
  refine lv_iload_n hx hb d_Machine_perform_13 rfl (lv_at hl 2 rfl) ?_
  refine lv_ldc (v := (1000000 : Int32)) hx hb hown (hts _ k_725) d_Machine_perform_14 ?_
  refine W.eq (g2 := F0 m 16 ls [.int (Int32.ofNat 1000000), .int (Int32.ofNat i1)]) rfl ?_
  refine lv_icmp_ge (tgt := 124) hx hb d_Machine_perform_16 (by decide) (fun c_2 => ?_) (fun c_2 => ?_)
  · have c_2 : 1000000 ≤ i1 := (x_leN (a := 1000000) (b := i1) (by omega) (by omega)).mp c_2
    refine lv_iconst (v := 1) hx hb d_Machine_perform_124 (by decide) ?_
    have hbd9 : y_bd (qn, sn, cq, cs) (q1, s1, cq1, cs1) (sn + mo - qn + 4 * mo) mo := (y_bd.mono hbd0 (c := sn + mo - qn + 4 * mo) (d := mo) (pf_a6 ha1) (pf_a7 ha1))
    have hb9 := hbd9.lin
    dsimp only at hb9
    refine vx_ret ?_
    refine y_know (fun hy91 hy92 hy93 hy94 => ?_)
    have hac9 : y_ac (cq + cs) s.heap.size (y_hs s.heap) (cq1 + cs1) H := ⟨by omega, by omega⟩
    refine W.widen (k := (y_mx cq (2 * (qn + (sn + mo - qn + 4 * mo)) + 12) - cq + (y_mx cs (2 * (sn + mo) + 12) - cs)) / 5 + 6) (n := 4 * (y_mx cq (2 * (qn + (sn + mo - qn + 4 * mo)) + 12) - cq + (y_mx cs (2 * (sn + mo) + 12) - cs)) + 106) (by omega) (by omega) ?_
    exact W.iret (v := 1) hx hb hr (fun t ht hW => ⟨⟨1, (I1, T1, A1, O1, pl1, (q1, s1, cq1, cs1)), rfl, ⟨hmi, hbd9, hfr, ⟨a1, by omega, h91⟩, Or.inr (Or.inl rfl)⟩, (by dsimp only; rw [ht]; exact ⟨hP, hD, hac9⟩)⟩, hS.F ht⟩) hS.2.2 d_Machine_perform_125
  · have c_2 : ¬ 1000000 ≤ i1 := fun h9 => c_2 ((x_leN (a := 1000000) (b := i1) (by omega) (by omega)).mpr h9)
    refine lv_aload_n hx hb d_Machine_perform_19 rfl (lv_at hl 0 rfl) ?_
    refine k_g (C := "ChannelMachine$Machine") (F := F_Machine) (N := 11) hx hb hts i_Machine hown hK hP 4 7 (by decide) (by decide) rfl (by decide) (d := (1, 7)) rfl (hts _ k_163) (fun _ h9 => h9) (v := .int (I1 7)) rfl d_Machine_perform_20 ?_
    refine lv_iconst (v := 2) hx hb d_Machine_perform_23 (by decide) ?_
    refine lv_icmp_ne (tgt := 29) hx hb d_Machine_perform_24 (by decide) (fun c3 => ?_) (fun c3 => ?_)
    · refine lv_aload_n hx hb d_Machine_perform_29 rfl (lv_at hl 0 rfl) ?_
      refine k_g (C := "ChannelMachine$Machine") (F := F_Machine) (N := 11) hx hb hts i_Machine hown hK hP 4 9 (by decide) (by decide) rfl (by decide) (d := (1, 9)) rfl (hts _ k_167) (fun _ h9 => h9) (v := .int (Int32.ofNat (a0 + a1))) (congrArg Value.int h91) d_Machine_perform_30 ?_
      refine lv_iload_n hx hb d_Machine_perform_33 rfl (lv_at hl 1 rfl) ?_
      refine lv_icmp_lt (tgt := 39) hx hb d_Machine_perform_34 (by decide) (fun c_4 => ?_) (fun c_4 => ?_)
      · have c_4 : (a0 + a1) < (a0 + mo) := (x_ltN (a := (a0 + a1)) (b := (a0 + mo)) (by omega) (by omega)).mp c_4
        have ha1n : a1 + 1 ≤ mo := by omega
        refine lv_aload_n hx hb d_Machine_perform_39 rfl (lv_at hl 0 rfl) ?_
        refine k_g (C := "ChannelMachine$Machine") (F := F_Machine) (N := 11) hx hb hts i_Machine hown hK hP 4 4 (by decide) (by decide) rfl (by decide) (d := (0, 11)) rfl (hts _ k_158) (fun _ h9 => h9) (v := .ref (ad 11)) rfl d_Machine_perform_40 ?_
        have hFc := y_free hD hS hA
        refine va_callFi (va_runF (As := []) (rest := []) (hK.1 0 _ rfl).2 ⟨hx, hb, hml, hown, hts⟩ (c_L_isEmpty11 l dC dI ar N0 z ad I1 T1 A1 O1 pl1 G C Gs q1 s1 cq1 cs1 H.size (y_hs H) hmi) (va_cwF 0 hts (x_goodF k_727 k_730 k_732 k_7 k_734) rfl rfl rfl hU.2.2.2.2.2.1 (by decide +kernel) ⟨Nat.le_of_ble_eq_true rfl, Nat.le_of_ble_eq_true rfl⟩) ⟨y_blind, va_recv hK hP (ci := 0) (q0 := 11) rfl (y_W_ob (by decide) (by decide)), fun U9 hU9 hW9 => y_pre hU9 hW9 hP hD hU hZ hS hAN hN0⟩ rfl rfl hl.1 rfl (lv_room (Nat.le_of_ble_eq_true rfl)) d_Machine_perform_43 ⟨(by show (cq1 + cs1 - (cq + cs)) / 5 + (0) ≤ (y_mx cq (2 * (qn + (sn + mo - qn + 4 * mo)) + 12) - cq + (y_mx cs (2 * (sn + mo) + 12) - cs)) / 5 + 6; omega), (by show 4 * (cq1 + cs1 - (cq + cs)) + (0) ≤ 4 * (y_mx cq (2 * (qn + (sn + mo - qn + 4 * mo)) + 12) - cq + (y_mx cs (2 * (sn + mo) + 12) - cs)) + 106; omega)⟩) hS (fun q _ h => hFc q h) hFc (fun r_5 u t H1 locs ht hvm hw hB hz1 hk1 hS => ?_)
        obtain ⟨I6, T6, A6, O6, pl6, q6, s6, cq6, cs6⟩ := u
        dsimp only at hw hB
        rw [ht] at hB
        obtain ⟨hP, hD1, hac6⟩ := hB
        have hD : va_D Bq (y_W ad ar I6 T6 A6 O6 pl6) := hD1.weaken (fun _ q _ h => hFc q.1 h)
        generalize H1 = H at hP hS hac6 ⊢
        refine W.widen (k := (cq1 + cs1 - (cq + cs)) / 5) (n := 4 * (cq1 + cs1 - (cq + cs))) (by omega) (by omega) ?_
        obtain ⟨h9, hw⟩ := hw
        cases h9
        rcases hw with ⟨rfl, hemp⟩ | ⟨rfl, hemp⟩
        · refine lv_if_ne (tgt := 71) hx hb d_Machine_perform_48 (by decide) (fun _ => ?_) (fun c7 => absurd c7 (by decide))
          have hemq := hemp
          refine lv_aload_n hx hb d_Machine_perform_71 rfl (lv_at hl 0 rfl) ?_
          refine k_g (C := "ChannelMachine$Machine") (F := F_Machine) (N := 11) hx hb hts i_Machine hown hK hP 4 5 (by decide) (by decide) rfl (by decide) (d := (0, 12)) rfl (hts _ k_160) (fun _ h9 => h9) (v := .ref (ad 12)) rfl d_Machine_perform_72 ?_
          have hFc := y_free hD hS hA
          refine va_callFi (va_runF (As := []) (rest := []) (hK.1 0 _ rfl).2 ⟨hx, hb, hml, hown, hts⟩ (c_L_isEmpty12 l dC dI ar N0 z ad I1 T1 A1 O1 pl1 G C Gs q1 s1 cq1 cs1 H.size (y_hs H) hmi) (va_cwF 0 hts (x_goodF k_727 k_730 k_732 k_7 k_734) rfl rfl rfl hU.2.2.2.2.2.1 (by decide +kernel) ⟨Nat.le_of_ble_eq_true rfl, Nat.le_of_ble_eq_true rfl⟩) ⟨y_blind, va_recv hK hP (ci := 0) (q0 := 12) rfl (y_W_ob (by decide) (by decide)), fun U9 hU9 hW9 => y_pre hU9 hW9 hP hD hU hZ hS hAN hN0⟩ rfl rfl hl.1 rfl (lv_room (Nat.le_of_ble_eq_true rfl)) d_Machine_perform_75 ⟨(by show (cq1 + cs1 - (cq + cs)) / 5 + (0) ≤ (y_mx cq (2 * (qn + (sn + mo - qn + 4 * mo)) + 12) - cq + (y_mx cs (2 * (sn + mo) + 12) - cs)) / 5 + 6; omega), (by show 4 * (cq1 + cs1 - (cq + cs)) + (0) ≤ 4 * (y_mx cq (2 * (qn + (sn + mo - qn + 4 * mo)) + 12) - cq + (y_mx cs (2 * (sn + mo) + 12) - cs)) + 106; omega)⟩) hS (fun q _ h => hFc q h) hFc (fun r_8 u t H1 locs ht hvm hw hB hz1 hk1 hS => ?_)
          obtain ⟨I9, T9, A9, O9, pl9, q9, s9, cq9, cs9⟩ := u
          dsimp only at hw hB
          rw [ht] at hB
          obtain ⟨hP, hD1, hac9⟩ := hB
          have hD : va_D Bq (y_W ad ar I9 T9 A9 O9 pl9) := hD1.weaken (fun _ q _ h => hFc q.1 h)
          generalize H1 = H at hP hS hac9 ⊢
          refine W.widen (k := (cq1 + cs1 - (cq + cs)) / 5) (n := 4 * (cq1 + cs1 - (cq + cs))) (by omega) (by omega) ?_
          obtain ⟨h9, hw⟩ := hw
          cases h9
          rcases hw with ⟨rfl, hemp⟩ | ⟨rfl, hemp⟩
          · refine lv_if_ne (tgt := 90) hx hb d_Machine_perform_80 (by decide) (fun _ => ?_) (fun c10 => absurd c10 (by decide))
            refine lv_aload_n hx hb d_Machine_perform_90 rfl (lv_at hl 0 rfl) ?_
            have hFc := y_free hD hS hA
            refine va_calli (va_runV (As := []) (rest := []) ⟨hx, hb, hml, hown, hts⟩ (c_M_host l dC dI ar N0 z ad I1 T1 A1 O1 pl1 G C Gs q1 s1 cq1 cs1 H.size (y_hs H) hmi) (cwV 0 hts (x_goodV k_892 k_894 kp_47 k_3 k_895) rfl rfl rfl (by decide +kernel) ⟨Nat.le_of_ble_eq_true rfl, Nat.le_of_ble_eq_true rfl⟩) ⟨y_blind, va_recv hK hP (ci := 2) (q0 := 4) rfl (y_W_ob (by decide) (by decide)), fun U9 hU9 hW9 => y_pre hU9 hW9 hP hD hU hZ hS hAN hN0⟩ rfl rfl hl.1 rfl (lv_room (Nat.le_of_ble_eq_true rfl)) d_Machine_perform_91 ⟨(by show (cq1 + cs1 - (cq + cs)) / 5 + (0) ≤ (y_mx cq (2 * (qn + (sn + mo - qn + 4 * mo)) + 12) - cq + (y_mx cs (2 * (sn + mo) + 12) - cs)) / 5 + 6; omega), (by show 4 * (cq1 + cs1 - (cq + cs)) + (0) ≤ 4 * (y_mx cq (2 * (qn + (sn + mo - qn + 4 * mo)) + 12) - cq + (y_mx cs (2 * (sn + mo) + 12) - cs)) + 106; omega)⟩) hS (fun q _ h => hFc q h) hFc (fun r_11 u t H1 locs ht hvm hw hB hz1 hk1 hS => ?_)
            obtain ⟨I12, T12, A12, O12, pl12, q12, s12, cq12, cs12⟩ := u
            dsimp only at hw hB
            rw [ht] at hB
            obtain ⟨hP, hD1, hac12⟩ := hB
            have hD : va_D Bq (y_W ad ar I12 T12 A12 O12 pl12) := hD1.weaken (fun _ q _ h => hFc q.1 h)
            generalize H1 = H at hP hS hac12 ⊢
            refine W.widen (k := (cq1 + cs1 - (cq + cs)) / 5) (n := 4 * (cq1 + cs1 - (cq + cs))) (by omega) (by omega) ?_
            obtain ⟨h9, hw⟩ := hw
            cases h9
            rcases hw with rfl | rfl
            · refine lv_if_eq (tgt := 99) hx hb d_Machine_perform_94 (by decide) (fun _ => ?_) (fun c13 => absurd (by decide) c13)
              refine lv_aload_n hx hb d_Machine_perform_99 rfl (lv_at hl 0 rfl) ?_
              refine lv_iconst (v := 3) hx hb d_Machine_perform_100 (by decide) ?_
              have hFc := y_free hD hS hA
              refine va_callv (va_runV (As := [.int 3]) (rest := []) ⟨hx, hb, hml, hown, hts⟩ (c_M_close l dC dI ar N0 z ad I1 T1 A1 O1 pl1 G C Gs q1 s1 cq1 cs1 (3) H.size (y_hs H) hmi) (cwV 1 hts (x_goodV k_616 k_618 kp_20 k_3 k_619) rfl rfl rfl (by decide +kernel) ⟨Nat.le_of_ble_eq_true rfl, Nat.le_of_ble_eq_true rfl⟩) ⟨y_blind, va_recv hK hP (ci := 2) (q0 := 4) rfl (y_W_ob (by decide) (by decide)), fun U9 hU9 hW9 => y_pre hU9 hW9 hP hD hU hZ hS hAN hN0⟩ rfl rfl hl.1 rfl (lv_room (Nat.le_of_ble_eq_true rfl)) d_Machine_perform_101 ⟨(by show (cq1 + cs1 - (cq + cs)) / 5 + (0) ≤ (y_mx cq (2 * (qn + (sn + mo - qn + 4 * mo)) + 12) - cq + (y_mx cs (2 * (sn + mo) + 12) - cs)) / 5 + 6; omega), (by show 4 * (cq1 + cs1 - (cq + cs)) + (0) ≤ 4 * (y_mx cq (2 * (qn + (sn + mo - qn + 4 * mo)) + 12) - cq + (y_mx cs (2 * (sn + mo) + 12) - cs)) + 106; omega)⟩) hS (fun q _ h => hFc q h) hFc (fun u t H1 locs ht hvm hw hB hz1 hk1 hS => ?_)
              obtain ⟨I14, T14, A14, O14, pl14, q14, s14, cq14, cs14⟩ := u
              dsimp only at hw hB
              rw [ht] at hB
              obtain ⟨hP, hD1, hac14⟩ := hB
              have hD : va_D Bq (y_W ad ar I14 T14 A14 O14 pl14) := hD1.weaken (fun _ q _ h => hFc q.1 h)
              generalize H1 = H at hP hS hac14 ⊢
              refine W.widen (k := (cq1 + cs1 - (cq + cs)) / 5) (n := 4 * (cq1 + cs1 - (cq + cs))) (by omega) (by omega) ?_
              obtain ⟨hmi, e5, fr14, h714, e2, e3, hcl14⟩ := hw
              cases e5
              rw [e2, e3] at hP hD
              have hP : va_P (dC, dI) y_cl (y_W ad ar I14 T1 A1 O14 pl14) H := hP
              have hD : va_D Bq (y_W ad ar I14 T1 A1 O14 pl14) := hD
              have hmi : y_MI z ar G C Gs I14 O14 (y_L pl14) (0, 0, cq1, cs1) := hmi
              have hbdr14 : y_bd (q1, s1, cq1, cs1) (0, 0, cq1, cs1) 0 0 := ⟨by dsimp only; omega, by dsimp only; omega, Or.inl rfl, Or.inl rfl⟩
              have hbx9 := (y_bd.mono (y_bd.tr hbd0 hbdr14 (e := sn + a1 - qn + 4 * a1 + 0) (g := a1 + 0) (Nat.le_refl _) (Nat.le_refl _)) (c := sn + mo - qn + 4 * mo) (d := mo) (pf_a8 ha1 ha1n) (pf_a9 ha1 ha1n)).lin
              dsimp only at hbx9
              refine y_know (fun hy91 hy92 hy93 hy94 => ?_)
              refine y_xW (XC' := fun E st t => E = "java/lang/IllegalStateException" ∧ va_P (dC, dI) y_cl (y_W ad ar I14 T1 A1 O14 pl14) t.heap ∧ va_F Bq st t) (mc' := (cq1 + cs1 - (cq + cs)) / 5 + 1) (ms' := 4 * (cq1 + cs1 - (cq + cs)) + 6) (by omega) (by omega) (fun E t hx9 hz9 hk9 => ?_) ?_
              · obtain ⟨rfl, hx1, hx2⟩ := hx9
                have hac9 : y_ac (cq + cs) (s.heap.size + 1) (y_hs s.heap + 6) (cq1 + cs1) t.heap := ⟨by omega, by omega⟩
                exact ⟨(I14, T1, A1, O14, pl14, (0, 0, cq1, cs1)), ⟨hmi, (y_bd.mono (y_bd.tr hbd0 hbdr14 (e := sn + a1 - qn + 4 * a1 + 0) (g := a1 + 0) (Nat.le_refl _) (Nat.le_refl _)) (c := sn + mo - qn + 4 * mo) (d := mo) (pf_a10 ha1 ha1n) (pf_a11 ha1 ha1n)), (hfr.tr fr14 (by decide)), h714⟩, ⟨hx1, hD, Or.inl rfl, hac9⟩, hx2⟩
              exact x_throw (A := Bq) hx hb hst (own := "ChannelMachine$Machine") (cls := "java/lang/IllegalStateException") (text := "deadlock") (ik := 128) (is := 130) (ic := 132) hown k_847 k_14 (by decide) x_tChannelMachineMachine_132 (by decide +kernel) rfl hts hU.1 hZ.1 hAN hS (by rw [hml]; exact hl.1) d_Machine_perform_104 d_Machine_perform_107 d_Machine_perform_108 d_Machine_perform_110 d_Machine_perform_113 htb (Nat.le_of_ble_eq_true rfl) (Nat.le_of_ble_eq_true rfl) (by show (cq1 + cs1 - (cq + cs)) / 5 + 1 ≤ (y_mx cq (2 * (qn + (sn + mo - qn + 4 * mo)) + 12) - cq + (y_mx cs (2 * (sn + mo) + 12) - cs)) / 5 + 6; omega) (by show 4 * (cq1 + cs1 - (cq + cs)) + 6 ≤ 4 * (y_mx cq (2 * (qn + (sn + mo - qn + 4 * mo)) + 12) - cq + (y_mx cs (2 * (sn + mo) + 12) - cs)) + 106; omega) hlocks (fun t h1 h2 h3 h4 => ⟨rfl, fun k q hk => (hP k q hk).kept (h3 q.1 (hP k q hk).lt), h4⟩) hS.2.2 (Nat.le_refl _) (Nat.le_refl _)
            · refine lv_if_eq (tgt := 99) hx hb d_Machine_perform_94 (by decide) (fun c15 => absurd c15 (by decide)) (fun _ => ?_)
              refine lv_iconst (v := 2) hx hb d_Machine_perform_97 (by decide) ?_
              have hbd9 : y_bd (qn, sn, cq, cs) (q1, s1, cq1, cs1) (sn + mo - qn + 4 * mo) mo := (y_bd.mono hbd0 (c := sn + mo - qn + 4 * mo) (d := mo) (pf_a12 ha1 ha1n) (pf_a13 ha1 ha1n))
              have hb9 := hbd9.lin
              dsimp only at hb9
              refine vx_ret ?_
              refine y_know (fun hy91 hy92 hy93 hy94 => ?_)
              have hac9 : y_ac (cq + cs) s.heap.size (y_hs s.heap) (cq1 + cs1) H := ⟨by omega, by omega⟩
              refine W.widen (k := (y_mx cq (2 * (qn + (sn + mo - qn + 4 * mo)) + 12) - cq + (y_mx cs (2 * (sn + mo) + 12) - cs)) / 5 + 6) (n := 4 * (y_mx cq (2 * (qn + (sn + mo - qn + 4 * mo)) + 12) - cq + (y_mx cs (2 * (sn + mo) + 12) - cs)) + 106) (by omega) (by omega) ?_
              exact W.iret (v := 2) hx hb hr (fun t ht hW => ⟨⟨2, (I1, T1, A1, O1, pl1, (q1, s1, cq1, cs1)), rfl, ⟨hmi, hbd9, hfr, ⟨a1, by omega, h91⟩, Or.inr (Or.inr rfl)⟩, (by dsimp only; rw [ht]; exact ⟨hP, hD, hac9⟩)⟩, hS.F ht⟩) hS.2.2 d_Machine_perform_98
          · refine lv_if_ne (tgt := 90) hx hb d_Machine_perform_80 (by decide) (fun c16 => absurd rfl c16) (fun _ => ?_)
            refine lv_aload_n hx hb d_Machine_perform_83 rfl (lv_at hl 0 rfl) ?_
            have hrA : 2 * (q1 + s1) + 12 ≤ y_mx cq (2 * (qn + (sn + mo - qn + 4 * mo)) + 12) := (pf_a14 hm1 hb0c hb0d ha1 ha1n hemq)
            have hrB : 2 * (s1 + 0) + 12 ≤ y_mx cs (2 * (sn + mo) + 12) := (pf_a15 hm4 hb0d ha1 ha1n)
            have hrm := y_rmB (cq := cq) (cs := cs) (cq1 := cq1) (cs1 := cs1) (A := y_mx cq1 (2 * (q1 + s1) + 12)) (B := y_mx cs1 (2 * (s1 + 0) + 12)) (Mq := y_mx cq (2 * (qn + (sn + mo - qn + 4 * mo)) + 12)) (Ms := y_mx cs (2 * (sn + mo) + 12)) (k := 5) (k' := 100) hb0.2.2.1 hb0.2.2.2.1 y_mx.l y_mx.l (y_mx.le hb0.2.2.2.2.1 hrA) (y_mx.le hb0.2.2.2.2.2 hrB) (by decide) (by decide)
            refine y_know (fun hya1 hya2 hya3 hya4 => ?_)
            have hFc := y_free hD hS hA
            refine va_callv (va_runV (As := []) (rest := []) ⟨hx, hb, hml, hown, hts⟩ (c_M_growTime l dC dI ar N0 z ad I1 T1 A1 O1 pl1 G C Gs q1 s1 cq1 cs1 H.size (y_hs H) hmi (by omega)) (cwV 0 hts (x_goodV k_883 k_885 kp_46 k_3 k_886) rfl rfl rfl (by decide +kernel) ⟨Nat.le_of_ble_eq_true rfl, Nat.le_of_ble_eq_true rfl⟩) ⟨y_blind, va_recv hK hP (ci := 2) (q0 := 4) rfl (y_W_ob (by decide) (by decide)), fun U9 hU9 hW9 => y_pre hU9 hW9 hP hD hU hZ hS hAN hN0⟩ rfl rfl hl.1 rfl (lv_room (Nat.le_of_ble_eq_true rfl)) d_Machine_perform_84 ⟨hrm.1, hrm.2⟩) hS (fun q _ h => hFc q h) hFc (fun u t H1 locs ht hvm hw hB hz1 hk1 hS => ?_)
            obtain ⟨I17, T17, A17, O17, pl17, q17, s17, cq17, cs17⟩ := u
            dsimp only at hw hB
            rw [ht] at hB
            obtain ⟨hP, hD1, hac17⟩ := hB
            have hD : va_D Bq (y_W ad ar I17 T17 A17 O17 pl17) := hD1.weaken (fun _ q _ h => hFc q.1 h)
            generalize H1 = H at hP hS hac17 ⊢
            obtain ⟨hmi, hbd17, fr17⟩ := hw
            have hbg17 : y_bd (qn, sn, cq, cs) (q17, s17, cq17, cs17) (sn + a1 - qn + 4 * a1) a1 := y_bd.gt hbd0 hbd17 hemq (by dsimp only; omega)
            unfold y_ac at hac17
            try dsimp only at hac17
            have hb17 := hbd17.lin
            dsimp only at hb17
            have hbo17 : y_bd (qn, sn, cq, cs) (q17, s17, cq17, cs17) (sn + mo - qn + 4 * mo) mo := (y_bd.mono hbg17 (c := sn + mo - qn + 4 * mo) (d := mo) (pf_a16 ha1 ha1n) (pf_a17 ha1 ha1n))
            have hbo17 := hbo17.lin
            dsimp only at hbo17
            refine y_tight (k := (cq17 + cs17 - (cq + cs)) / 5) (n := 4 * (cq17 + cs17 - (cq + cs))) (by omega) (by omega) ?_
            refine lv_goto (tgt := 114) hx hb d_Machine_perform_87 (by decide) ?_
            refine lv_aload_n hx hb d_Machine_perform_114 rfl (lv_at hl 0 rfl) ?_
            have hrA : 2 * q17 + 12 ≤ y_mx cq (2 * (qn + (sn + mo - qn + 4 * mo)) + 12) := (pf_a18 hm1 hbo17.1)
            have hrB : 2 * s17 + 12 ≤ y_mx cs (2 * (sn + mo) + 12) := (pf_a19 hm4 hbo17.2.1)
            have hrm := y_rmB (cq := cq) (cs := cs) (cq1 := cq17) (cs1 := cs17) (A := y_mx cq17 (2 * q17 + 12)) (B := y_mx cs17 (2 * s17 + 12)) (Mq := y_mx cq (2 * (qn + (sn + mo - qn + 4 * mo)) + 12)) (Ms := y_mx cs (2 * (sn + mo) + 12)) (k := 5) (k' := 100) hbo17.2.2.1 hbo17.2.2.2.1 y_mx.l y_mx.l (y_mx.le hbo17.2.2.2.2.1 hrA) (y_mx.le hbo17.2.2.2.2.2 hrB) (by decide) (by decide)
            refine y_know (fun hya1 hya2 hya3 hya4 => ?_)
            have hFc := y_free hD hS hA
            refine va_callv (va_runV (As := []) (rest := []) ⟨hx, hb, hml, hown, hts⟩ (c_M_settle l dC dI ar N0 z ad I17 T17 A17 O17 pl17 G C Gs q17 s17 cq17 cs17 H.size (y_hs H) hmi (by omega)) (cwV 0 hts (x_goodV k_721 k_723 kp_25 k_3 k_724) rfl rfl rfl (by decide +kernel) ⟨Nat.le_of_ble_eq_true rfl, Nat.le_of_ble_eq_true rfl⟩) ⟨y_blind, va_recv hK hP (ci := 2) (q0 := 4) rfl (y_W_ob (by decide) (by decide)), fun U9 hU9 hW9 => y_pre hU9 hW9 hP hD hU hZ hS hAN hN0⟩ rfl rfl hl.1 rfl (lv_room (Nat.le_of_ble_eq_true rfl)) d_Machine_perform_115 ⟨hrm.1, hrm.2⟩) hS (fun q _ h => hFc q h) hFc (fun u t H1 locs ht hvm hw hB hz1 hk1 hS => ?_)
            obtain ⟨I18, T18, A18, O18, pl18, q18, s18, cq18, cs18⟩ := u
            dsimp only at hw hB
            rw [ht] at hB
            obtain ⟨hP, hD1, hac18⟩ := hB
            have hD : va_D Bq (y_W ad ar I18 T18 A18 O18 pl18) := hD1.weaken (fun _ q _ h => hFc q.1 h)
            generalize H1 = H at hP hS hac18 ⊢
            obtain ⟨hmi, hbd18, fr18⟩ := hw
            unfold y_ac at hac18
            try dsimp only at hac18
            have hb18 := hbd18.lin
            dsimp only at hb18
            have hbo18 : y_bd (qn, sn, cq, cs) (q18, s18, cq18, cs18) (sn + mo - qn + 4 * mo) mo := (y_bd.mono (y_bd.tr hbg17 hbd18 (e := sn + a1 - qn + 4 * a1 + 0) (g := a1 + 0) (Nat.le_refl _) (Nat.le_refl _)) (c := sn + mo - qn + 4 * mo) (d := mo) (pf_a20 ha1 ha1n) (pf_a21 ha1 ha1n))
            have hbo18 := hbo18.lin
            dsimp only at hbo18
            refine y_tight (k := (cq18 + cs18 - (cq + cs)) / 5) (n := 4 * (cq18 + cs18 - (cq + cs))) (by omega) (by omega) ?_
            refine lv_iinc (v := (Int32.ofNat (i1 + 1))) (lv' := [(3, .int (Int32.ofNat (i1 + 1))), (0, .ref (ad 4)), (2, .int (Int32.ofNat (a0 + mo)))]) hx hb d_Machine_perform_118 hl (k := 2) rfl (x_incN i1) (by decide) rfl (fun ls hl => ?_)
            refine lv_goto (tgt := 13) hx hb d_Machine_perform_121 (by decide) ?_
            refine W.widen (k := (cq18 + cs18 - (cq + cs)) / 5) (n := 4 * (cq18 + cs18 - (cq + cs))) (by omega) (by omega) ?_
            exact ih (1000000 - (i1 + 1)) (by omega) (cq18 + cs18) H locs ls ⟨I18, T18, A18, O18, pl18, q18, s18, cq18, cs18, i1 + 1, a1, rfl, rfl, by omega, ((fr18 9 (by decide)).trans ((fr17 9 (by decide)).trans h91)), by omega, ((hfr.tr fr17 (by decide)).tr fr18 (by decide)), hmi, (y_bd.mono (y_bd.tr hbg17 hbd18 (e := sn + a1 - qn + 4 * a1 + 0) (g := a1 + 0) (Nat.le_refl _) (Nat.le_refl _)) (c := sn + (a1) - qn + 4 * (a1)) (d := a1) (pf_a22 ha1 ha1n) (pf_a23 ha1 ha1n)), hP, hD, hS, lv_sub hl [1, 2, 0] rfl⟩
        · refine lv_if_ne (tgt := 71) hx hb d_Machine_perform_48 (by decide) (fun c19 => absurd rfl c19) (fun _ => ?_)
          refine lv_aload_n hx hb d_Machine_perform_51 rfl (lv_at hl 0 rfl) ?_
          refine lv_aload_n hx hb d_Machine_perform_52 rfl (lv_at hl 0 rfl) ?_
          refine k_g (C := "ChannelMachine$Machine") (F := F_Machine) (N := 11) hx hb hts i_Machine hown hK hP 4 4 (by decide) (by decide) rfl (by decide) (d := (0, 11)) rfl (hts _ k_158) (fun _ h9 => h9) (v := .ref (ad 11)) rfl d_Machine_perform_53 ?_
          refine lv_iconst (v := 0) hx hb d_Machine_perform_56 (by decide) ?_
          refine W.eq (g2 := F0 m 57 ls [.int (Int32.ofNat 0), .ref (ad 11), .ref (ad 4)]) rfl ?_
          have hFc := y_free hD hS hA
          refine va_callFq (va_runF (As := [.int (Int32.ofNat 0)]) (rest := [.ref (ad 4)]) (hK.1 0 _ rfl).2 ⟨hx, hb, hml, hown, hts⟩ (c_L_get11 l dC dI ar N0 z ad I1 T1 A1 O1 pl1 G C Gs q1 s1 cq1 cs1 0 H.size (y_hs H) hmi (by omega)) (va_cwF 1 hts (x_goodF k_736 k_739 k_741 k_7 k_743) rfl rfl rfl hU.2.2.2.2.2.2.1 (by decide +kernel) ⟨Nat.le_of_ble_eq_true rfl, Nat.le_of_ble_eq_true rfl⟩) ⟨y_blind, va_recv hK hP (ci := 0) (q0 := 11) rfl (y_W_ob (by decide) (by decide)), fun U9 hU9 hW9 => y_pre hU9 hW9 hP hD hU hZ hS hAN hN0⟩ rfl rfl hl.1 rfl (lv_room (Nat.le_of_ble_eq_true rfl)) d_Machine_perform_57 ⟨(by show (cq1 + cs1 - (cq + cs)) / 5 + (0) ≤ (y_mx cq (2 * (qn + (sn + mo - qn + 4 * mo)) + 12) - cq + (y_mx cs (2 * (sn + mo) + 12) - cs)) / 5 + 6; omega), (by show 4 * (cq1 + cs1 - (cq + cs)) + (0) ≤ 4 * (y_mx cq (2 * (qn + (sn + mo - qn + 4 * mo)) + 12) - cq + (y_mx cs (2 * (sn + mo) + 12) - cs)) + 106; omega)⟩) hS (fun q _ h => hFc q h) hFc (fun r_20 u t H1 locs ht hvm hw hB hz1 hk1 hS => ?_)
          obtain ⟨I21, T21, A21, O21, pl21, q21, s21, cq21, cs21⟩ := u
          dsimp only at hw hB
          rw [ht] at hB
          obtain ⟨hP, hD1, hac21⟩ := hB
          have hD : va_D Bq (y_W ad ar I21 T21 A21 O21 pl21) := hD1.weaken (fun _ q _ h => hFc q.1 h)
          generalize H1 = H at hP hS hac21 ⊢
          refine W.widen (k := (cq1 + cs1 - (cq + cs)) / 5) (n := 4 * (cq1 + cs1 - (cq + cs))) (by omega) (by omega) ?_
          obtain ⟨h9, hw⟩ := hw
          cases h9
          obtain ⟨t_22, rfl, ht_22⟩ := hw
          refine W.eq (g2 := F0 m 62 ls [.ref t_22, .ref (ad 4)]) rfl ?_
          obtain ⟨w23, m23, a23, b23, r23, v23, u23, hf23, hw23, hm23, ha23⟩ := hmi.1.2.1 t_22 ht_22
          refine va_castY hx hb (C := "ChannelMachine$Task") hown (hts _ k_754) (hU.1.2.1 _ kn_1292) ((by obtain ⟨q9, hq9⟩ := y_L_at hf23; exact va_recv hK hP (ci := 8) (q0 := 20 + q9) rfl (by rw [y_W_pl]; exact hq9))) d_Machine_perform_62 ?_
          have hrA : 2 * (q1 + 4) + 12 ≤ y_mx cq (2 * (qn + (sn + mo - qn + 4 * mo)) + 12) := (pf_a24 hm1 hb0c hb0d ha1 ha1n)
          have hrB : 2 * (s1 + 1) + 12 ≤ y_mx cs (2 * (sn + mo) + 12) := (pf_a25 hm4 hb0d ha1 ha1n)
          have hrm := y_rmB (cq := cq) (cs := cs) (cq1 := cq1) (cs1 := cs1) (A := y_mx cq1 (2 * (q1 + 4) + 12)) (B := y_mx cs1 (2 * (s1 + 1) + 12)) (Mq := y_mx cq (2 * (qn + (sn + mo - qn + 4 * mo)) + 12)) (Ms := y_mx cs (2 * (sn + mo) + 12)) (k := 6) (k' := 106) hb0.2.2.1 hb0.2.2.2.1 y_mx.l y_mx.l (y_mx.le hb0.2.2.2.2.1 hrA) (y_mx.le hb0.2.2.2.2.2 hrB) (by decide) (by decide)
          refine y_know (fun hya1 hya2 hya3 hya4 => ?_)
          have hFc := y_free hD hS hA
          refine vx_callv (vx_runV (As := [.ref t_22]) (rest := []) ⟨hx, hb, hml, hown, hts⟩ (c_M_act l hst dC dI ar N0 z ad I1 T1 A1 O1 pl1 G C Gs q1 s1 cq1 cs1 t_22 H.size (y_hs H) hmi ht_22 (by omega) (by omega)) (cwV 1 hts (x_goodV k_781 k_783 kp_29 k_3 k_784) rfl rfl rfl (by decide +kernel) ⟨Nat.le_of_ble_eq_true rfl, Nat.le_of_ble_eq_true rfl⟩) ⟨y_blind, va_recv hK hP (ci := 2) (q0 := 4) rfl (y_W_ob (by decide) (by decide)), fun U9 hU9 hW9 => y_pre hU9 hW9 hP hD hU hZ hS hAN hN0⟩ rfl rfl hl.1 rfl (lv_room (Nat.le_of_ble_eq_true rfl)) d_Machine_perform_65 ⟨hrm.1, hrm.2⟩) hS (fun q _ h => hFc q h) hFc (fun q h1 h2 => hFc q h2) (fun E ce q9 u t H1 locs ht hvm hpx hbx hz1 hk1 hS hce hcv hcl => ?_) (fun u t H1 locs ht hvm hw hB hz1 hk1 hS => ?_)
          · obtain ⟨I24, T24, A24, O24, pl24, q24, s24, cq24, cs24⟩ := u
            dsimp only at hpx hbx
            rw [ht] at hbx
            obtain ⟨hP, hD1, hac24⟩ := hbx
            have hD : va_D Bq (y_W ad ar I24 T24 A24 O24 pl24) := hD1.weaken (fun _ q _ h => hFc q.1 h)
            generalize H1 = H at hP hS hac24 hce ⊢
            obtain ⟨hE, hac24⟩ := hac24
            obtain ⟨hmi, hbd24, fr24, h73⟩ := hpx
            have hb24 := hbd24
            unfold y_bd at hb24
            dsimp only at hb24
            unfold y_ac at hac24
            try dsimp only at hac24
            refine y_knowx (fun hy91 hy92 hy93 hy94 => ?_)
            have hac9 : y_ac (cq + cs) (s.heap.size + 1) (y_hs s.heap + 6) (cq24 + cs24) H := ⟨by omega, by omega⟩
            exact vx_out (fun x hx9 => (htb x hx9).elim) hlocks hce hcv hcl (fun t ht hvm => ⟨(I24, T24, A24, O24, pl24, (q24, s24, cq24, cs24)), ⟨hmi, (y_bd.mono (y_bd.tr hbd0 hbd24 (e := sn + a1 - qn + 4 * a1 + 4) (g := a1 + 1) (Nat.le_refl _) (Nat.le_refl _)) (c := sn + mo - qn + 4 * mo) (d := mo) (pf_a26 ha1 ha1n) (pf_a27 ha1 ha1n)), (hfr.tr fr24 (by decide)), h73⟩, (by dsimp only; rw [ht]; exact ⟨hP, hD, hE, hac9⟩), hS.F ht⟩) hS.2.2 (by show (cq1 + cs1 - (cq + cs)) / 5 + ((y_mx cq1 (2 * (q1 + 4) + 12) - cq1 + (y_mx cs1 (2 * (s1 + 1) + 12) - cs1)) / 5 + 6) ≤ (y_mx cq (2 * (qn + (sn + mo - qn + 4 * mo)) + 12) - cq + (y_mx cs (2 * (sn + mo) + 12) - cs)) / 5 + 6; omega) (by show 4 * (cq1 + cs1 - (cq + cs)) + (4 * (y_mx cq1 (2 * (q1 + 4) + 12) - cq1 + (y_mx cs1 (2 * (s1 + 1) + 12) - cs1)) + 106) ≤ 4 * (y_mx cq (2 * (qn + (sn + mo - qn + 4 * mo)) + 12) - cq + (y_mx cs (2 * (sn + mo) + 12) - cs)) + 106; omega)
          · obtain ⟨I25, T25, A25, O25, pl25, q25, s25, cq25, cs25⟩ := u
            dsimp only at hw hB
            rw [ht] at hB
            obtain ⟨hP, hD1, hac25⟩ := hB
            have hD : va_D Bq (y_W ad ar I25 T25 A25 O25 pl25) := hD1.weaken (fun _ q _ h => hFc q.1 h)
            generalize H1 = H at hP hS hac25 ⊢
            obtain ⟨hmi, hbd25, fr25, h9n25⟩ := hw
            unfold y_ac at hac25
            try dsimp only at hac25
            have hb25 := hbd25.lin
            dsimp only at hb25
            have hbo25 : y_bd (qn, sn, cq, cs) (q25, s25, cq25, cs25) (sn + mo - qn + 4 * mo) mo := (y_bd.mono (y_bd.tr hbd0 hbd25 (e := sn + a1 - qn + 4 * a1 + 4) (g := a1 + 1) (Nat.le_refl _) (Nat.le_refl _)) (c := sn + mo - qn + 4 * mo) (d := mo) (pf_a28 ha1 ha1n) (pf_a29 ha1 ha1n))
            have hbo25 := hbo25.lin
            dsimp only at hbo25
            refine y_tight (k := (cq25 + cs25 - (cq + cs)) / 5) (n := 4 * (cq25 + cs25 - (cq + cs))) (by omega) (by omega) ?_
            have h9k25 : I25 9 = Int32.ofNat (a0 + (a1 + 1)) := by rw [h9n25, h91]; exact x_addN (a := a0 + a1) (b := 1)
            refine lv_goto (tgt := 114) hx hb d_Machine_perform_68 (by decide) ?_
            refine lv_aload_n hx hb d_Machine_perform_114 rfl (lv_at hl 0 rfl) ?_
            have hrA : 2 * q25 + 12 ≤ y_mx cq (2 * (qn + (sn + mo - qn + 4 * mo)) + 12) := (pf_a30 hm1 hbo25.1)
            have hrB : 2 * s25 + 12 ≤ y_mx cs (2 * (sn + mo) + 12) := (pf_a31 hm4 hbo25.2.1)
            have hrm := y_rmB (cq := cq) (cs := cs) (cq1 := cq25) (cs1 := cs25) (A := y_mx cq25 (2 * q25 + 12)) (B := y_mx cs25 (2 * s25 + 12)) (Mq := y_mx cq (2 * (qn + (sn + mo - qn + 4 * mo)) + 12)) (Ms := y_mx cs (2 * (sn + mo) + 12)) (k := 5) (k' := 100) hbo25.2.2.1 hbo25.2.2.2.1 y_mx.l y_mx.l (y_mx.le hbo25.2.2.2.2.1 hrA) (y_mx.le hbo25.2.2.2.2.2 hrB) (by decide) (by decide)
            refine y_know (fun hya1 hya2 hya3 hya4 => ?_)
            have hFc := y_free hD hS hA
            refine va_callv (va_runV (As := []) (rest := []) ⟨hx, hb, hml, hown, hts⟩ (c_M_settle l dC dI ar N0 z ad I25 T25 A25 O25 pl25 G C Gs q25 s25 cq25 cs25 H.size (y_hs H) hmi (by omega)) (cwV 0 hts (x_goodV k_721 k_723 kp_25 k_3 k_724) rfl rfl rfl (by decide +kernel) ⟨Nat.le_of_ble_eq_true rfl, Nat.le_of_ble_eq_true rfl⟩) ⟨y_blind, va_recv hK hP (ci := 2) (q0 := 4) rfl (y_W_ob (by decide) (by decide)), fun U9 hU9 hW9 => y_pre hU9 hW9 hP hD hU hZ hS hAN hN0⟩ rfl rfl hl.1 rfl (lv_room (Nat.le_of_ble_eq_true rfl)) d_Machine_perform_115 ⟨hrm.1, hrm.2⟩) hS (fun q _ h => hFc q h) hFc (fun u t H1 locs ht hvm hw hB hz1 hk1 hS => ?_)
            obtain ⟨I26, T26, A26, O26, pl26, q26, s26, cq26, cs26⟩ := u
            dsimp only at hw hB
            rw [ht] at hB
            obtain ⟨hP, hD1, hac26⟩ := hB
            have hD : va_D Bq (y_W ad ar I26 T26 A26 O26 pl26) := hD1.weaken (fun _ q _ h => hFc q.1 h)
            generalize H1 = H at hP hS hac26 ⊢
            obtain ⟨hmi, hbd26, fr26⟩ := hw
            unfold y_ac at hac26
            try dsimp only at hac26
            have hb26 := hbd26.lin
            dsimp only at hb26
            have hbo26 : y_bd (qn, sn, cq, cs) (q26, s26, cq26, cs26) (sn + mo - qn + 4 * mo) mo := (y_bd.mono (y_bd.tr (y_bd.tr hbd0 hbd25 (e := sn + a1 - qn + 4 * a1 + 4) (g := a1 + 1) (Nat.le_refl _) (Nat.le_refl _)) hbd26 (e := sn + a1 - qn + 4 * a1 + 4 + 0) (g := a1 + 1 + 0) (Nat.le_refl _) (Nat.le_refl _)) (c := sn + mo - qn + 4 * mo) (d := mo) (pf_a32 ha1 ha1n) (pf_a33 ha1 ha1n))
            have hbo26 := hbo26.lin
            dsimp only at hbo26
            refine y_tight (k := (cq26 + cs26 - (cq + cs)) / 5) (n := 4 * (cq26 + cs26 - (cq + cs))) (by omega) (by omega) ?_
            refine lv_iinc (v := (Int32.ofNat (i1 + 1))) (lv' := [(3, .int (Int32.ofNat (i1 + 1))), (0, .ref (ad 4)), (2, .int (Int32.ofNat (a0 + mo)))]) hx hb d_Machine_perform_118 hl (k := 2) rfl (x_incN i1) (by decide) rfl (fun ls hl => ?_)
            refine lv_goto (tgt := 13) hx hb d_Machine_perform_121 (by decide) ?_
            refine W.widen (k := (cq26 + cs26 - (cq + cs)) / 5) (n := 4 * (cq26 + cs26 - (cq + cs))) (by omega) (by omega) ?_
            exact ih (1000000 - (i1 + 1)) (by omega) (cq26 + cs26) H locs ls ⟨I26, T26, A26, O26, pl26, q26, s26, cq26, cs26, i1 + 1, a1 + 1, rfl, rfl, by omega, ((fr26 9 (by decide)).trans h9k25), by omega, ((hfr.tr fr25 (by decide)).tr fr26 (by decide)), hmi, (y_bd.mono (y_bd.tr (y_bd.tr hbd0 hbd25 (e := sn + a1 - qn + 4 * a1 + 4) (g := a1 + 1) (Nat.le_refl _) (Nat.le_refl _)) hbd26 (e := sn + a1 - qn + 4 * a1 + 4 + 0) (g := a1 + 1 + 0) (Nat.le_refl _) (Nat.le_refl _)) (c := sn + (a1 + 1) - qn + 4 * (a1 + 1)) (d := a1 + 1) (pf_a34 ha1 ha1n) (pf_a35 ha1 ha1n)), hP, hD, hS, lv_sub hl [1, 2, 0] rfl⟩
      · have c_4 : ¬ (a0 + a1) < (a0 + mo) := fun h9 => c_4 ((x_ltN (a := (a0 + a1)) (b := (a0 + mo)) (by omega) (by omega)).mpr h9)
        refine lv_iconst (v := 1) hx hb d_Machine_perform_37 (by decide) ?_
        have hbd9 : y_bd (qn, sn, cq, cs) (q1, s1, cq1, cs1) (sn + mo - qn + 4 * mo) mo := (y_bd.mono hbd0 (c := sn + mo - qn + 4 * mo) (d := mo) (pf_a36 ha1) (pf_a37 ha1))
        have hb9 := hbd9.lin
        dsimp only at hb9
        refine vx_ret ?_
        refine y_know (fun hy91 hy92 hy93 hy94 => ?_)
        have hac9 : y_ac (cq + cs) s.heap.size (y_hs s.heap) (cq1 + cs1) H := ⟨by omega, by omega⟩
        refine W.widen (k := (y_mx cq (2 * (qn + (sn + mo - qn + 4 * mo)) + 12) - cq + (y_mx cs (2 * (sn + mo) + 12) - cs)) / 5 + 6) (n := 4 * (y_mx cq (2 * (qn + (sn + mo - qn + 4 * mo)) + 12) - cq + (y_mx cs (2 * (sn + mo) + 12) - cs)) + 106) (by omega) (by omega) ?_
        exact W.iret (v := 1) hx hb hr (fun t ht hW => ⟨⟨1, (I1, T1, A1, O1, pl1, (q1, s1, cq1, cs1)), rfl, ⟨hmi, hbd9, hfr, ⟨a1, by omega, h91⟩, Or.inr (Or.inl rfl)⟩, (by dsimp only; rw [ht]; exact ⟨hP, hD, hac9⟩)⟩, hS.F ht⟩) hS.2.2 d_Machine_perform_38
    · refine lv_iconst (v := 0) hx hb d_Machine_perform_27 (by decide) ?_
      have hbd9 : y_bd (qn, sn, cq, cs) (q1, s1, cq1, cs1) (sn + mo - qn + 4 * mo) mo := (y_bd.mono hbd0 (c := sn + mo - qn + 4 * mo) (d := mo) (pf_a38 ha1) (pf_a39 ha1))
      have hb9 := hbd9.lin
      dsimp only at hb9
      refine vx_ret ?_
      refine y_know (fun hy91 hy92 hy93 hy94 => ?_)
      have hac9 : y_ac (cq + cs) s.heap.size (y_hs s.heap) (cq1 + cs1) H := ⟨by omega, by omega⟩
      refine W.widen (k := (y_mx cq (2 * (qn + (sn + mo - qn + 4 * mo)) + 12) - cq + (y_mx cs (2 * (sn + mo) + 12) - cs)) / 5 + 6) (n := 4 * (y_mx cq (2 * (qn + (sn + mo - qn + 4 * mo)) + 12) - cq + (y_mx cs (2 * (sn + mo) + 12) - cs)) + 106) (by omega) (by omega) ?_
      exact W.iret (v := 0) hx hb hr (fun t ht hW => ⟨⟨0, (I1, T1, A1, O1, pl1, (q1, s1, cq1, cs1)), rfl, ⟨hmi, hbd9, hfr, ⟨a1, by omega, h91⟩, Or.inl rfl⟩, (by dsimp only; rw [ht]; exact ⟨hP, hD, hac9⟩)⟩, hS.F ht⟩) hS.2.2 d_Machine_perform_28
