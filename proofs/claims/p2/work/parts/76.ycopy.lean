-- ===== 76.ycopy: what a list needs to grow, by program =====
theorem k_19 : (Jvm.Cond.initialized "java/lang/Math") ∈ x_T := x_at 19 (by decide +kernel) (by decide +kernel)
theorem k_21 : (Jvm.Cond.initialized "java/util/Arrays") ∈ x_T := x_at 21 (by decide +kernel) (by decide +kernel)
theorem k_22 : (Jvm.Cond.initialized "java/lang/System") ∈ x_T := x_at 22 (by decide +kernel) (by decide +kernel)
theorem k_482 : (Jvm.Cond.static ({ cls := "java/lang/Math", name := "max", desc := "(II)I" } : Jvm.MethodName)) ∈ x_T := x_at 482 (by decide +kernel) (by decide +kernel)
theorem k_483 : (Jvm.Cond.code ({ cls := "java/lang/Math", name := "max", desc := "(II)I" } : Jvm.MethodName) prog_21_method_65_code (2 : Nat) (Option.some Jvm.ClassFile.FieldType.int)) ∈ x_T := x_at 483 (by decide +kernel) (by decide +kernel)
theorem k_540 : (Jvm.Cond.methodLink "java/util/Arrays" (304 : Nat) ({ cls := "java/lang/Math", name := "min", desc := "(II)I" } : Jvm.MethodName)) ∈ x_T := x_at 540 (by decide +kernel) (by decide +kernel)
theorem k_541 : (Jvm.Cond.static ({ cls := "java/lang/Math", name := "min", desc := "(II)I" } : Jvm.MethodName)) ∈ x_T := x_at 541 (by decide +kernel) (by decide +kernel)
theorem k_542 : (Jvm.Cond.code ({ cls := "java/lang/Math", name := "min", desc := "(II)I" } : Jvm.MethodName) prog_21_method_69_code (2 : Nat) (Option.some Jvm.ClassFile.FieldType.int)) ∈ x_T := x_at 542 (by decide +kernel) (by decide +kernel)
theorem k_543 : (Jvm.Cond.methodLink "java/util/Arrays" (150 : Nat) ({ cls := "java/lang/System", name := "arraycopy", desc := "(Ljava/lang/Object;ILjava/lang/Object;II)V" } : Jvm.MethodName)) ∈ x_T := x_at 543 (by decide +kernel) (by decide +kernel)
theorem k_544 : (Jvm.Cond.static ({ cls := "java/lang/System", name := "arraycopy", desc := "(Ljava/lang/Object;ILjava/lang/Object;II)V" } : Jvm.MethodName)) ∈ x_T := x_at 544 (by decide +kernel) (by decide +kernel)
theorem k_545 : (Jvm.Cond.native ({ cls := "java/lang/System", name := "arraycopy", desc := "(Ljava/lang/Object;ILjava/lang/Object;II)V" } : Jvm.MethodName)) ∈ x_T := x_at 545 (by decide +kernel) (by decide +kernel)
theorem k_672 : (Jvm.Cond.methodLink "jdk/internal/util/ArraysSupport" (194 : Nat) ({ cls := "java/lang/Math", name := "max", desc := "(II)I" } : Jvm.MethodName)) ∈ x_T := x_at 672 (by decide +kernel) (by decide +kernel)
theorem k_673 : (Jvm.Cond.constant "jdk/internal/util/ArraysSupport" (200 : Nat) (2147483639 : Int32)) ∈ x_T := x_at 673 (by decide +kernel) (by decide +kernel)
theorem k_680 : (Jvm.Cond.methodLink "java/util/Arrays" (86 : Nat) ({ cls := "java/lang/Object", name := "getClass", desc := "()Ljava/lang/Class;" } : Jvm.MethodName)) ∈ x_T := x_at 680 (by decide +kernel) (by decide +kernel)
theorem k_681 : (Jvm.Cond.instanceMethod ({ cls := "java/lang/Object", name := "getClass", desc := "()Ljava/lang/Class;" } : Jvm.MethodName)) ∈ x_T := x_at 681 (by decide +kernel) (by decide +kernel)
theorem k_698 : (Jvm.Cond.native ({ cls := "java/lang/Object", name := "getClass", desc := "()Ljava/lang/Class;" } : Jvm.MethodName)) ∈ x_T := x_at 698 (by decide +kernel) (by decide +kernel)
theorem k_699 : (Jvm.Cond.methodLink "java/util/Arrays" (300 : Nat) ({ cls := "java/util/Arrays", name := "copyOf", desc := "([Ljava/lang/Object;ILjava/lang/Class;)[Ljava/lang/Object;" } : Jvm.MethodName)) ∈ x_T := x_at 699 (by decide +kernel) (by decide +kernel)
theorem k_700 : (Jvm.Cond.static ({ cls := "java/util/Arrays", name := "copyOf", desc := "([Ljava/lang/Object;ILjava/lang/Class;)[Ljava/lang/Object;" } : Jvm.MethodName)) ∈ x_T := x_at 700 (by decide +kernel) (by decide +kernel)
theorem k_701 : (Jvm.Cond.code ({ cls := "java/util/Arrays", name := "copyOf", desc := "([Ljava/lang/Object;ILjava/lang/Class;)[Ljava/lang/Object;" } : Jvm.MethodName) prog_29_method_120_code (4 : Nat) (Option.some (Jvm.ClassFile.FieldType.array (Jvm.ClassFile.FieldType.object "java/lang/Object")))) ∈ x_T := x_at 701 (by decide +kernel) (by decide +kernel)
theorem k_702 : (Jvm.Cond.classLink "java/util/Arrays" (110 : Nat) "[Ljava/lang/Object;") ∈ x_T := x_at 702 (by decide +kernel) (by decide +kernel)
theorem k_704 : (Jvm.Cond.classLink "java/util/Arrays" (2 : Nat) "java/lang/Object") ∈ x_T := x_at 704 (by decide +kernel) (by decide +kernel)
theorem k_1294 : (Jvm.Cond.selects "[Ljava/lang/Object;" ({ cls := "java/lang/Object", name := "getClass", desc := "()Ljava/lang/Class;" } : Jvm.MethodName) ({ cls := "java/lang/Object", name := "getClass", desc := "()Ljava/lang/Class;" } : Jvm.MethodName)) ∈ x_T := x_at 1294 (by decide +kernel) (by decide +kernel)
theorem kn_1295 : (Jvm.Cond.declares ({ cls := "java/lang/Object", name := "getClass", desc := "()Ljava/lang/Class;" } : Jvm.MethodName)) ∈ x_nest := x_nest_at 1295 (by decide +kernel) (by decide +kernel)
theorem kn_1303 : (Jvm.Cond.castable "ChannelMachine$Task" "java/lang/Object") ∈ x_nest := x_nest_at 1303 (by decide +kernel) (by decide +kernel)
theorem d_ArraysSupport_newLength_0 : decode prog_36_method_27_code 0 = .ok (.iload_n 0, 1) := by decide +kernel
theorem d_ArraysSupport_newLength_1 : decode prog_36_method_27_code 1 = .ok (.iload_n 1, 1) := by decide +kernel
theorem d_ArraysSupport_newLength_2 : decode prog_36_method_27_code 2 = .ok (.iload_n 2, 1) := by decide +kernel
theorem d_ArraysSupport_newLength_3 : decode prog_36_method_27_code 3 = .ok (.invokestatic 194, 3) := by decide +kernel
theorem d_ArraysSupport_newLength_6 : decode prog_36_method_27_code 6 = .ok (.iadd, 1) := by decide +kernel
theorem d_ArraysSupport_newLength_7 : decode prog_36_method_27_code 7 = .ok (.istore_n 3, 1) := by decide +kernel
theorem d_ArraysSupport_newLength_8 : decode prog_36_method_27_code 8 = .ok (.iconst 0, 1) := by decide +kernel
theorem d_ArraysSupport_newLength_9 : decode prog_36_method_27_code 9 = .ok (.iload_n 3, 1) := by decide +kernel
theorem d_ArraysSupport_newLength_10 : decode prog_36_method_27_code 10 = .ok (.if_icmp .ge 11, 3) := by decide +kernel
theorem d_ArraysSupport_newLength_13 : decode prog_36_method_27_code 13 = .ok (.iload_n 3, 1) := by decide +kernel
theorem d_ArraysSupport_newLength_14 : decode prog_36_method_27_code 14 = .ok (.ldc 200, 2) := by decide +kernel
theorem d_ArraysSupport_newLength_16 : decode prog_36_method_27_code 16 = .ok (.if_icmp .gt 5, 3) := by decide +kernel
theorem d_ArraysSupport_newLength_19 : decode prog_36_method_27_code 19 = .ok (.iload_n 3, 1) := by decide +kernel
theorem d_ArraysSupport_newLength_20 : decode prog_36_method_27_code 20 = .ok (.ireturn, 1) := by decide +kernel
theorem d_ArraysSupport_newLength_21 : decode prog_36_method_27_code 21 = .ok (.iload_n 0, 1) := by decide +kernel
theorem d_ArraysSupport_newLength_22 : decode prog_36_method_27_code 22 = .ok (.iload_n 1, 1) := by decide +kernel
theorem d_ArraysSupport_newLength_23 : decode prog_36_method_27_code 23 = .ok (.invokestatic 201, 3) := by decide +kernel
theorem d_ArraysSupport_newLength_26 : decode prog_36_method_27_code 26 = .ok (.ireturn, 1) := by decide +kernel
theorem d_Arrays_copyOfC_0 : decode prog_29_method_120_code 0 = .ok (.aload_n 2, 1) := by decide +kernel
theorem d_Arrays_copyOfC_1 : decode prog_29_method_120_code 1 = .ok (.ldc 110, 2) := by decide +kernel
theorem d_Arrays_copyOfC_3 : decode prog_29_method_120_code 3 = .ok (.if_acmp .ne 10, 3) := by decide +kernel
theorem d_Arrays_copyOfC_6 : decode prog_29_method_120_code 6 = .ok (.iload_n 1, 1) := by decide +kernel
theorem d_Arrays_copyOfC_7 : decode prog_29_method_120_code 7 = .ok (.anewarray 2, 3) := by decide +kernel
theorem d_Arrays_copyOfC_10 : decode prog_29_method_120_code 10 = .ok (.goto 14, 3) := by decide +kernel
theorem d_Arrays_copyOfC_13 : decode prog_29_method_120_code 13 = .ok (.aload_n 2, 1) := by decide +kernel
theorem d_Arrays_copyOfC_14 : decode prog_29_method_120_code 14 = .ok (.invokevirtual 90, 3) := by decide +kernel
theorem d_Arrays_copyOfC_17 : decode prog_29_method_120_code 17 = .ok (.iload_n 1, 1) := by decide +kernel
theorem d_Arrays_copyOfC_18 : decode prog_29_method_120_code 18 = .ok (.invokestatic 95, 3) := by decide +kernel
theorem d_Arrays_copyOfC_21 : decode prog_29_method_120_code 21 = .ok (.checkcast 110, 3) := by decide +kernel
theorem d_Arrays_copyOfC_24 : decode prog_29_method_120_code 24 = .ok (.astore_n 3, 1) := by decide +kernel
theorem d_Arrays_copyOfC_25 : decode prog_29_method_120_code 25 = .ok (.aload_n 0, 1) := by decide +kernel
theorem d_Arrays_copyOfC_26 : decode prog_29_method_120_code 26 = .ok (.iconst 0, 1) := by decide +kernel
theorem d_Arrays_copyOfC_27 : decode prog_29_method_120_code 27 = .ok (.aload_n 3, 1) := by decide +kernel
theorem d_Arrays_copyOfC_28 : decode prog_29_method_120_code 28 = .ok (.iconst 0, 1) := by decide +kernel
theorem d_Arrays_copyOfC_29 : decode prog_29_method_120_code 29 = .ok (.aload_n 0, 1) := by decide +kernel
theorem d_Arrays_copyOfC_30 : decode prog_29_method_120_code 30 = .ok (.arraylength, 1) := by decide +kernel
theorem d_Arrays_copyOfC_31 : decode prog_29_method_120_code 31 = .ok (.iload_n 1, 1) := by decide +kernel
theorem d_Arrays_copyOfC_32 : decode prog_29_method_120_code 32 = .ok (.invokestatic 304, 3) := by decide +kernel
theorem d_Arrays_copyOfC_35 : decode prog_29_method_120_code 35 = .ok (.invokestatic 150, 3) := by decide +kernel
theorem d_Arrays_copyOfC_38 : decode prog_29_method_120_code 38 = .ok (.aload_n 3, 1) := by decide +kernel
theorem d_Arrays_copyOfC_39 : decode prog_29_method_120_code 39 = .ok (.areturn, 1) := by decide +kernel
theorem d_Arrays_copyOfO_0 : decode prog_29_method_119_code 0 = .ok (.aload_n 0, 1) := by decide +kernel
theorem d_Arrays_copyOfO_1 : decode prog_29_method_119_code 1 = .ok (.iload_n 1, 1) := by decide +kernel
theorem d_Arrays_copyOfO_2 : decode prog_29_method_119_code 2 = .ok (.aload_n 0, 1) := by decide +kernel
theorem d_Arrays_copyOfO_3 : decode prog_29_method_119_code 3 = .ok (.invokevirtual 86, 3) := by decide +kernel
theorem d_Arrays_copyOfO_6 : decode prog_29_method_119_code 6 = .ok (.invokestatic 300, 3) := by decide +kernel
theorem d_Arrays_copyOfO_9 : decode prog_29_method_119_code 9 = .ok (.areturn, 1) := by decide +kernel
section YO
variable {z : Nat → Nat} {ar : Nat → ClassId} {G : Nat → Nat} {C Gs : Nat → List Nat} {f : Nat → Option va_E} {I I' : Nat → Int32} {O O' : Nat → Option Nat} {qn sn cq cs : Nat}
theorem y_MI.row11 (h : y_MI z ar G C Gs I O f (qn, sn, cq, cs)) {x n' cap' : Nat} {g' : Nat → Option Nat} (hnew : f x = none ∨ (O 1 = some x ∧ ∃ n c g, f x = some (.inl (c, n, .inr (.inr (.inr (.inr g)))))))
    (hO : O' 1 = some x) (hO2 : O' 2 = O 2) (hch : ∀ k, 3 ≤ k → O' k = O k) (h12 : I' 12 = Int32.ofNat n') (hi2 : I' 14 = I 14) (hi10 : I' 10 = I 10) (hi11 : I' 11 = I 11) (hn : n' ≤ cap') (h10 : 10 ≤ cap') (hz : x ≠ z 0) (hc8 : cap' ≤ 100000000) (hg : ∀ j, j < n' → ∃ t, g' j = some t ∧ G t = 8) : y_MI z ar G C Gs I' O' (y_Lu f x (.inl (ar 5, cap', .inr (.inr (.inr (.inr g')))))) (n', sn, cap', cs) := by
  obtain ⟨a1, a2, a3, a4, a5, a6, a7, a8⟩ := h
  dsimp only at a2 a3 a5
  have hoff : ∀ y, O 2 = some y → y ≠ x ∨ (y = z 0 ∧ sn = 0 ∧ cs = 0) := fun y hy => by
    by_cases e : y = x
    · subst e
      rcases hnew with h1 | ⟨h1, _⟩
      · rcases a3.2 with ⟨q1, q2, q3⟩ | ⟨q1, q2, q3, q4, _⟩
        · rw [hy] at q1; cases q1; exact absurd rfl hz
        · rw [hy] at q3; cases q3; rw [h1] at q4; cases q4
      · exact absurd (a4 y h1 hy) hz
    · exact Or.inl e
  have hdy : y_DY z ar G C Gs (y_Lu f x (.inl (ar 5, cap', .inr (.inr (.inr (.inr g')))))) := by
    rcases hnew with h1 | ⟨_, n, c, g, h1⟩
    · exact a1.new h1
    · exact a1.row h1
  refine ⟨hdy, ⟨h12, Or.inr ⟨x, g', hO, y_Lu_s, hn, h10, hz, hg⟩⟩, ⟨hi2.trans a3.1, (by rw [hO2]; exact a3.2.off hoff)⟩, fun y y1 y2 => ?_, ⟨hc8, a5.2⟩, fun k hk => ?_, by rw [hi10]; exact a7, by rw [hi11]; exact a8⟩
  · rw [hO] at y1; cases y1; rw [hO2] at y2; exact (hoff x y2).elim (fun h9 => absurd rfl h9) (fun h9 => h9.1)
  · rw [hch _ (by omega), hch _ (by omega), hch _ (by omega)]
    exact a6 k hk
theorem y_MI.row12 (h : y_MI z ar G C Gs I O f (qn, sn, cq, cs)) {x n' cap' : Nat} {g' : Nat → Option Nat} (hnew : f x = none ∨ (O 2 = some x ∧ ∃ n c g, f x = some (.inl (c, n, .inr (.inr (.inr (.inr g)))))))
    (hO : O' 2 = some x) (hO2 : O' 1 = O 1) (hch : ∀ k, 3 ≤ k → O' k = O k) (h12 : I' 14 = Int32.ofNat n') (hi2 : I' 12 = I 12) (hi10 : I' 10 = I 10) (hi11 : I' 11 = I 11) (hn : n' ≤ cap') (h10 : 10 ≤ cap') (hz : x ≠ z 0) (hc8 : cap' ≤ 100000000) (hg : ∀ j, j < n' → ∃ t, g' j = some t ∧ G t = 8) : y_MI z ar G C Gs I' O' (y_Lu f x (.inl (ar 5, cap', .inr (.inr (.inr (.inr g')))))) (qn, n', cq, cap') := by
  obtain ⟨a1, a2, a3, a4, a5, a6, a7, a8⟩ := h
  dsimp only at a2 a3 a5
  have hoff : ∀ y, O 1 = some y → y ≠ x ∨ (y = z 0 ∧ qn = 0 ∧ cq = 0) := fun y hy => by
    by_cases e : y = x
    · subst e
      rcases hnew with h1 | ⟨h1, _⟩
      · rcases a2.2 with ⟨q1, q2, q3⟩ | ⟨q1, q2, q3, q4, _⟩
        · rw [hy] at q1; cases q1; exact absurd rfl hz
        · rw [hy] at q3; cases q3; rw [h1] at q4; cases q4
      · exact absurd (a4 y hy h1) hz
    · exact Or.inl e
  have hdy : y_DY z ar G C Gs (y_Lu f x (.inl (ar 5, cap', .inr (.inr (.inr (.inr g')))))) := by
    rcases hnew with h1 | ⟨_, n, c, g, h1⟩
    · exact a1.new h1
    · exact a1.row h1
  refine ⟨hdy, ⟨hi2.trans a2.1, (by rw [hO2]; exact a2.2.off hoff)⟩, ⟨h12, Or.inr ⟨x, g', hO, y_Lu_s, hn, h10, hz, hg⟩⟩, fun y y1 y2 => ?_, ⟨a5.1, hc8⟩, fun k hk => ?_, by rw [hi10]; exact a7, by rw [hi11]; exact a8⟩
  · rw [hO] at y2; cases y2; rw [hO2] at y1; exact (hoff x y1).elim (fun h9 => absurd rfl h9) (fun h9 => h9.1)
  · rw [hch _ (by omega), hch _ (by omega), hch _ (by omega)]
    exact a6 k hk
end YO
theorem y_max {b d : Nat} (h : b ≤ d) (hd : d < 2147483648) : (if Int32.ofNat b < Int32.ofNat d then Int32.ofNat d else Int32.ofNat b) = Int32.ofNat d := by
  by_cases e : Int32.ofNat b < Int32.ofNat d
  · rw [if_pos e]
  · rw [if_neg e]
    have : ¬ b < d := fun h9 => e ((x_ltN (by omega) (by omega)).mpr h9)
    rw [show b = d by omega]
theorem y_min {a b : Nat} (h : a ≤ b) (hb : b < 2147483648) : (if Int32.ofNat b < Int32.ofNat a then Int32.ofNat b else Int32.ofNat a) = Int32.ofNat a := by
  rw [if_neg (fun h9 => absurd ((x_ltN (by omega) (by omega)).mp h9) (by omega))]
theorem y_cpy0 {g h : Nat → Option Nat} {n j : Nat} (hj : j < n) : va_cpy g h 0 0 n j = g j := by unfold va_cpy; rw [if_pos ⟨by omega, by omega⟩]; congr 1; omega
theorem y_pos {a : Nat} (h : 1 ≤ a) (h2 : a < 2147483648) : ¬ Int32.ofNat a ≤ 0 := by
  have h0 : (0 : Int32).toInt = 0 := by decide
  rw [x_le, x_nI h2, h0]
  omega
theorem y_huge {a : Nat} (h : a < 1000000000) : ¬ 2147483639 < Int32.ofNat a := by
  have h0 : (2147483639 : Int32).toInt = 2147483639 := by decide
  rw [x_lt, x_nI (by omega), h0]
  omega
set_option maxHeartbeats 4000000 in
set_option maxRecDepth 100000 in
theorem c_newLen (l : Launch) (dC : Nat → ClassId) (dI : Nat → Nat → Nat) (ar : Nat → ClassId) (N0 : Nat) (z : Nat → Nat) (ad : Nat → Nat) (I : Nat → Int32) (T : Int64) (A : Nat → Nat → Int32) (O : Nat → Option Nat) (pl : va_W) (a b d : Nat) (sz w0 : Nat) (hbd : b ≤ d) (h1 : 1 ≤ a + d) (h2 : a + d < 1000000000) : Met l ({ cls := "jdk/internal/util/ArraysSupport", name := "newLength", desc := "(III)I" } : Jvm.MethodName) ((Jvm.Cond.code ({ cls := "jdk/internal/util/ArraysSupport", name := "newLength", desc := "(III)I" } : Jvm.MethodName) prog_36_method_27_code (4 : Nat) (Option.some Jvm.ClassFile.FieldType.int)) :: x_T) ({ frames := 1, cells := 0, slots := 0, locals := 15 }) (y_Pc (dC, dI) ar N0 z (y_W ad ar I T A O pl) sz w0 [.int (Int32.ofNat a), .int (Int32.ofNat b), .int (Int32.ofNat d)]) (va_Qi (fun (r : Int32) (u : (Nat → Int32) × Int64 × (Nat → Nat → Int32) × (Nat → Option Nat) × va_W × (Nat × Nat × Nat × Nat)) => u = (I, T, A, O, pl, 0, 0, 0, 0) ∧ r = Int32.ofNat (a + d)) (fun u t => va_P (dC, dI) y_cl (y_W ad ar u.1 u.2.1 u.2.2.1 u.2.2.2.1 u.2.2.2.2.1) t.heap ∧ va_D (va_A (y_W ad ar I T A O pl) sz) (y_W ad ar u.1 u.2.1 u.2.2.1 u.2.2.2.1 u.2.2.2.2.1) ∧ True) (va_A (y_W ad ar I T A O pl) sz)) (0) (0) (va_A (y_W ad ar I T A O pl) sz) := by
  refine Met.ofW (cc := prog_36_method_27_code) (maxL := 4) (ret := (some .int)) (by decide) rfl ?_
  intro p e s m args below meth c s₁ B hml hv
  obtain ⟨rfl, hsz, hN0, hP, hU, hZ, hD0, hw0⟩ := hv
  have hK := hU.2.1
  have hx := B.exec
  have hb := B.bytes
  have hr := B.returns
  have hts : ∀ w ∈ x_T, w.before ([.int (Int32.ofNat a), .int (Int32.ofNat b), .int (Int32.ofNat d)] : List Value).toArray s = true := fun w h => atoms_spec (ws := (Jvm.Cond.code ({ cls := "jdk/internal/util/ArraysSupport", name := "newLength", desc := "(III)I" } : Jvm.MethodName) prog_36_method_27_code (4 : Nat) (Option.some Jvm.ClassFile.FieldType.int)) :: x_T) B.pre w (List.mem_cons_of_mem _ h)
  have hown : s.vm.findClass "jdk/internal/util/ArraysSupport" = some m.cls := findClass_of_methodNamed B.named
  have hlocks := B.notSynchronized
  subst hsz
  subst hw0
  have hD := hD0.self (sz := s.heap.size)
  have hAN := x_AN hD0 hN0
  generalize hAe : va_A (y_W ad ar I T A O pl) s.heap.size = Bq at hD hAN ⊢
  have hA : ∀ q : Nat, s.heap.size ≤ q → Bq q := fun q h => by rw [← hAe]; exact Or.inr h
  have hS : va_S Bq s.heap s.heap [] := va_S.rf
  have hl := lv_entry ([.int (Int32.ofNat a), .int (Int32.ofNat b), .int (Int32.ofNat d)]) (n := 4) (Nat.le_of_ble_eq_true rfl)
  rw [lg_entry_eq]
  generalize (lg_sl ([.int (Int32.ofNat a), .int (Int32.ofNat b), .int (Int32.ofNat d)]) ++ List.replicate (4 - (lg_sl ([.int (Int32.ofNat a), .int (Int32.ofNat b), .int (Int32.ofNat d)])).length) Slot.unset).toArray = ls at hl ⊢
  have hl : lv_has ls 4 [(0, .int (Int32.ofNat a)), (1, .int (Int32.ofNat b)), (2, .int (Int32.ofNat d))] := hl
  refine lv_iload_n hx hb d_ArraysSupport_newLength_0 rfl (lv_at hl 0 rfl) ?_
  refine lv_iload_n hx hb d_ArraysSupport_newLength_1 rfl (lv_at hl 1 rfl) ?_
  refine lv_iload_n hx hb d_ArraysSupport_newLength_2 rfl (lv_at hl 2 rfl) ?_
  refine va_mmax hx hb (by rw [hml]; exact hl.1.symm) hown (hts _ k_672) (hts _ k_482) (hts _ k_19) (hts _ k_483) (Nat.le_of_ble_eq_true rfl) (Nat.le_of_ble_eq_true rfl) (by show 0 ≤ 0; omega) (by show 0 ≤ 0; omega) d_ArraysSupport_newLength_3 ?_
  refine W.eq (g2 := F0 m 6 ls [.int (Int32.ofNat d), .int (Int32.ofNat a)]) (by rw [y_max hbd (by omega)]) ?_
  refine lv_iadd hx hb d_ArraysSupport_newLength_6 ?_
  refine W.eq (g2 := F0 m 7 ls [.int (Int32.ofNat (a + d))]) (by rw [← x_addN (a := a) (b := d)] <;> rfl) ?_
  refine lv_istore_n (lv' := [(3, .int (Int32.ofNat (a + d))), (0, .int (Int32.ofNat a)), (1, .int (Int32.ofNat b)), (2, .int (Int32.ofNat d))]) hx hb d_ArraysSupport_newLength_7 rfl hl (by decide) rfl (fun ls hl => ?_)
  refine lv_iconst (v := 0) hx hb d_ArraysSupport_newLength_8 (by decide) ?_
  refine lv_iload_n hx hb d_ArraysSupport_newLength_9 rfl (lv_at hl 0 rfl) ?_
  refine lv_icmp_ge (tgt := 21) hx hb d_ArraysSupport_newLength_10 (by decide) (fun h9 => absurd h9 (y_pos (by omega) (by omega))) (fun _ => ?_)
  refine lv_iload_n hx hb d_ArraysSupport_newLength_13 rfl (lv_at hl 0 rfl) ?_
  refine lv_ldc (v := (2147483639 : Int32)) hx hb hown (hts _ k_673) d_ArraysSupport_newLength_14 ?_
  refine lv_icmp_gt (tgt := 21) hx hb d_ArraysSupport_newLength_16 (by decide) (fun h9 => absurd h9 (y_huge (by omega))) (fun _ => ?_)
  refine lv_iload_n hx hb d_ArraysSupport_newLength_19 rfl (lv_at hl 0 rfl) ?_
  refine y_know (fun hy91 hy92 hy93 hy94 => ?_)
  have hac9 : True := trivial
  refine W.widen (k := 0) (n := 0) (by omega) (by omega) ?_
  exact W.iret (v := (Int32.ofNat (a + d))) hx hb hr (fun t ht hW => ⟨⟨(Int32.ofNat (a + d)), (I, T, A, O, pl, (0, 0, 0, 0)), rfl, ⟨rfl, rfl⟩, (by dsimp only; rw [ht]; exact ⟨hP, hD, hac9⟩)⟩, hS.F ht⟩) hS.2.2 d_ArraysSupport_newLength_20
set_option maxHeartbeats 4000000 in
set_option maxRecDepth 100000 in
theorem c_cpC (l : Launch) (dC : Nat → ClassId) (dI : Nat → Nat → Nat) (ar : Nat → ClassId) (N0 : Nat) (z : Nat → Nat) (ad : Nat → Nat) (I : Nat → Int32) (T : Int64) (A : Nat → Nat → Int32) (O : Nat → Option Nat) (pl : va_W) (a cap n2 : Nat) (g : Nat → Option Nat) (sz w0 : Nat) (hf : y_L pl a = some (.inl (ar 5, cap, .inr (.inr (.inr (.inr g)))))) (hcap : cap ≤ n2) (hn2 : n2 < 100000000) (hel : ∀ i, i < cap → ∀ y, g i = some y → ∃ fs, y_L pl y = some (.inr (8, fs))) : Met l ({ cls := "java/util/Arrays", name := "copyOf", desc := "([Ljava/lang/Object;ILjava/lang/Class;)[Ljava/lang/Object;" } : Jvm.MethodName) ((Jvm.Cond.code ({ cls := "java/util/Arrays", name := "copyOf", desc := "([Ljava/lang/Object;ILjava/lang/Class;)[Ljava/lang/Object;" } : Jvm.MethodName) prog_29_method_120_code (4 : Nat) (Option.some (Jvm.ClassFile.FieldType.array (Jvm.ClassFile.FieldType.object "java/lang/Object")))) :: x_T) ({ frames := 1, cells := 1, slots := n2, locals := 60 }) (y_Pc (dC, dI) ar N0 z (y_W ad ar I T A O pl) sz w0 [.ref a, .int (Int32.ofNat n2), .ref (z 22)]) (va_Qq (fun (r : Option Nat) (u : (Nat → Int32) × Int64 × (Nat → Nat → Int32) × (Nat → Option Nat) × va_W × (Nat × Nat × Nat × Nat)) => ∃ q1, r = some q1 ∧ y_L pl q1 = none ∧ u.1 = I ∧ u.2.1 = T ∧ u.2.2.1 = A ∧ u.2.2.2.1 = O ∧ y_L u.2.2.2.2.1 = y_Lu (y_L pl) q1 (.inl (ar 5, n2, .inr (.inr (.inr (.inr (va_cpy g (fun _ => none) 0 0 cap))))))) (fun u t => va_P (dC, dI) y_cl (y_W ad ar u.1 u.2.1 u.2.2.1 u.2.2.2.1 u.2.2.2.2.1) t.heap ∧ va_D (va_A (y_W ad ar I T A O pl) sz) (y_W ad ar u.1 u.2.1 u.2.2.1 u.2.2.2.1 u.2.2.2.2.1) ∧ t.heap.size ≤ sz + 1 ∧ y_hs t.heap ≤ w0 + n2) (va_A (y_W ad ar I T A O pl) sz)) (1) (n2) (va_A (y_W ad ar I T A O pl) sz) := by
  refine Met.ofW (cc := prog_29_method_120_code) (maxL := 4) (ret := (some (.array (.object "java/lang/Object")))) (by decide) rfl ?_
  intro p e s m args below meth c s₁ B hml hv
  obtain ⟨rfl, hsz, hN0, hP, hU, hZ, hD0, hw0⟩ := hv
  have hK := hU.2.1
  have hx := B.exec
  have hb := B.bytes
  have hr := B.returns
  have hts : ∀ w ∈ x_T, w.before ([.ref a, .int (Int32.ofNat n2), .ref (z 22)] : List Value).toArray s = true := fun w h => atoms_spec (ws := (Jvm.Cond.code ({ cls := "java/util/Arrays", name := "copyOf", desc := "([Ljava/lang/Object;ILjava/lang/Class;)[Ljava/lang/Object;" } : Jvm.MethodName) prog_29_method_120_code (4 : Nat) (Option.some (Jvm.ClassFile.FieldType.array (Jvm.ClassFile.FieldType.object "java/lang/Object")))) :: x_T) B.pre w (List.mem_cons_of_mem _ h)
  have hown : s.vm.findClass "java/util/Arrays" = some m.cls := findClass_of_methodNamed B.named
  have hlocks := B.notSynchronized
  subst hsz
  subst hw0
  have hD := hD0.self (sz := s.heap.size)
  have hAN := x_AN hD0 hN0
  generalize hAe : va_A (y_W ad ar I T A O pl) s.heap.size = Bq at hD hAN ⊢
  have hA : ∀ q : Nat, s.heap.size ≤ q → Bq q := fun q h => by rw [← hAe]; exact Or.inr h
  have hS : va_S Bq s.heap s.heap [] := va_S.rf
  have hl := lv_entry ([.ref a, .int (Int32.ofNat n2), .ref (z 22)]) (n := 4) (Nat.le_of_ble_eq_true rfl)
  rw [lg_entry_eq]
  generalize (lg_sl ([.ref a, .int (Int32.ofNat n2), .ref (z 22)]) ++ List.replicate (4 - (lg_sl ([.ref a, .int (Int32.ofNat n2), .ref (z 22)])).length) Slot.unset).toArray = ls at hl ⊢
  have hl : lv_has ls 4 [(0, .ref a), (1, .int (Int32.ofNat n2)), (2, .ref (z 22))] := hl
  refine lv_aload_n hx hb d_Arrays_copyOfC_0 rfl (lv_at hl 2 rfl) ?_
  refine va_ldcM hx hb hown (hts _ k_702) hZ.2.2.2.2.2.2 d_Arrays_copyOfC_1 ?_
  refine lv_acmp_ne (rx := some (z 22)) (ry := some (z 22)) (tgt := 13) hx hb d_Arrays_copyOfC_3 (by decide) (fun h9 => absurd rfl h9) (fun _ => ?_)
  refine lv_iload_n hx hb d_Arrays_copyOfC_6 rfl (lv_at hl 1 rfl) ?_
  refine d_newq hx hb hK hP hD hS hA hown (hts _ k_704) hU.2.2.1 (N' := n2) (by omega) (by show 0 + 1 ≤ 1; omega) (by show 0 + n2 ≤ n2; omega) d_Arrays_copyOfC_7 (fun q1 pl1 H hno hL1 hP hD hS => ?_)
  refine W.widen (k := 1) (n := n2) (by omega) (by omega) ?_
  have hne : a ≠ q1 := fun h9 => by rw [h9, hno] at hf; cases hf
  have hf1 : y_L pl1 a = some (.inl (ar 5, cap, .inr (.inr (.inr (.inr g))))) := by rw [hL1, y_Lu_n hne]; exact hf
  have hf2 : y_L pl1 q1 = some (.inl (ar 5, n2, .inr (.inr (.inr (.inr (fun _ => none)))))) := by rw [hL1]; exact y_Lu_s
  refine lv_goto (tgt := 24) hx hb d_Arrays_copyOfC_10 (by decide) ?_
  refine lv_astore_n (lv' := [(3, .ref q1), (0, .ref a), (1, .int (Int32.ofNat n2)), (2, .ref (z 22))]) hx hb d_Arrays_copyOfC_24 rfl hl (by decide) rfl (fun ls hl => ?_)
  refine lv_aload_n hx hb d_Arrays_copyOfC_25 rfl (lv_at hl 1 rfl) ?_
  refine lv_iconst (v := 0) hx hb d_Arrays_copyOfC_26 (by decide) ?_
  refine W.eq (g2 := F0 m 27 ls [.int (Int32.ofNat 0), .ref a]) rfl ?_
  refine lv_aload_n hx hb d_Arrays_copyOfC_27 rfl (lv_at hl 0 rfl) ?_
  refine lv_iconst (v := 0) hx hb d_Arrays_copyOfC_28 (by decide) ?_
  refine W.eq (g2 := F0 m 29 ls [.int (Int32.ofNat 0), .ref q1, .int (Int32.ofNat 0), .ref a]) rfl ?_
  refine lv_aload_n hx hb d_Arrays_copyOfC_29 rfl (lv_at hl 1 rfl) ?_
  refine d_alen hx hb hK hP hf1 d_Arrays_copyOfC_30 ?_
  refine lv_iload_n hx hb d_Arrays_copyOfC_31 rfl (lv_at hl 2 rfl) ?_
  refine va_mmin hx hb (by rw [hml]; exact hl.1.symm) hown (hts _ k_540) (hts _ k_541) (hts _ k_19) (hts _ k_542) (Nat.le_of_ble_eq_true rfl) (Nat.le_of_ble_eq_true rfl) (by show 1 ≤ 1; omega) (by show n2 ≤ n2; omega) d_Arrays_copyOfC_32 ?_
  refine W.eq (g2 := F0 m 35 ls [.int (Int32.ofNat cap), .int (Int32.ofNat 0), .ref q1, .int (Int32.ofNat 0), .ref a]) (by rw [y_min hcap (by omega)]) ?_
  refine d_copyq hx hb (by rw [hml]; exact hl.1.symm) hK hP hD hS hown (hts _ k_543) (hts _ k_545) (hts _ k_544) (hts _ k_22) (hU.1.2.1 _ kn_1303) (sp := 0) (dp := 0) (n := cap) hf1 hf2 ⟨by omega, by omega⟩ (by omega) (by omega) (fun i hi y hy => ?_) (Nat.le_of_ble_eq_true rfl) (Nat.le_of_ble_eq_true rfl) d_Arrays_copyOfC_35 (fun pl2 H locs hL2 hP hD hS => ?_)
  · obtain ⟨fs, hfs⟩ := hel i hi y (by rw [← Nat.zero_add i]; exact hy)
    have hny : y ≠ q1 := fun h9 => by rw [h9, hno] at hfs; cases hfs
    exact ⟨fs, by rw [hL1, y_Lu_n hny]; exact hfs⟩
  have hL : y_L pl2 = y_Lu (y_L pl) q1 (.inl (ar 5, n2, .inr (.inr (.inr (.inr (va_cpy g (fun _ => none) 0 0 cap)))))) := by rw [hL2, hL1, y_Lu_uu]
  refine lv_aload_n hx hb d_Arrays_copyOfC_38 rfl (lv_at hl 0 rfl) ?_
  refine y_know (fun hy91 hy92 hy93 hy94 => ?_)
  have hac9 : H.size ≤ s.heap.size + 1 ∧ y_hs H ≤ y_hs s.heap + n2 := ⟨by omega, by omega⟩
  refine W.widen (k := 1) (n := n2) (by omega) (by omega) ?_
  exact W.aret (v := .ref q1) hx hb hr (Or.inr ⟨_, rfl⟩) (Or.inr ⟨_, rfl⟩) (fun t ht hW => ⟨⟨(some q1), (I, T, A, O, pl2, (0, 0, 0, 0)), rfl, ⟨q1, rfl, hno, rfl, rfl, rfl, rfl, hL⟩, (by dsimp only; rw [ht]; exact ⟨hP, hD, hac9⟩)⟩, hS.F ht⟩) hS.2.2 d_Arrays_copyOfC_39
theorem y_acl {s : State} {dC : Nat → ClassId} {dI : Nat → Nat → Nat} {ar : Nat → ClassId} {H : Heap} {a n : Nat} {x : (Nat → Int64) ⊕ ((Nat → UInt32) ⊕ ((Nat → UInt64) ⊕ (Nat → Option Nat)))} (hK : va_K (dC, dI) y_cl (y_tys ar) s) (h : va_at (dC, dI) y_cl (a, .inl (ar 5, n, .inr x)) H) : ∃ cell : Cell, H[a]? = some cell ∧ cell.vm.isStatics = false ∧ s.vm.findClass "[Ljava/lang/Object;" = some cell.cls := by
  obtain ⟨_, _, _, _, _, h2⟩ := (hK.2 5 _ rfl).2
  exact ⟨_, h, by rcases x with x | x | x | x <;> rfl, h2.trans (by rcases x with x | x | x | x <;> rfl)⟩
set_option maxHeartbeats 4000000 in
set_option maxRecDepth 100000 in
theorem c_cpO (l : Launch) (dC : Nat → ClassId) (dI : Nat → Nat → Nat) (ar : Nat → ClassId) (N0 : Nat) (z : Nat → Nat) (ad : Nat → Nat) (I : Nat → Int32) (T : Int64) (A : Nat → Nat → Int32) (O : Nat → Option Nat) (pl : va_W) (a cap n2 : Nat) (g : Nat → Option Nat) (sz w0 : Nat) (hf : y_L pl a = some (.inl (ar 5, cap, .inr (.inr (.inr (.inr g)))))) (hcap : cap ≤ n2) (hn2 : n2 < 100000000) (hel : ∀ i, i < cap → ∀ y, g i = some y → ∃ fs, y_L pl y = some (.inr (8, fs))) : Met l ({ cls := "java/util/Arrays", name := "copyOf", desc := "([Ljava/lang/Object;I)[Ljava/lang/Object;" } : Jvm.MethodName) ((Jvm.Cond.code ({ cls := "java/util/Arrays", name := "copyOf", desc := "([Ljava/lang/Object;I)[Ljava/lang/Object;" } : Jvm.MethodName) prog_29_method_119_code (2 : Nat) (Option.some (Jvm.ClassFile.FieldType.array (Jvm.ClassFile.FieldType.object "java/lang/Object")))) :: x_T) ({ frames := 2, cells := 1, slots := n2, locals := 83 }) (y_Pc (dC, dI) ar N0 z (y_W ad ar I T A O pl) sz w0 [.ref a, .int (Int32.ofNat n2)]) (va_Qq (fun (r : Option Nat) (u : (Nat → Int32) × Int64 × (Nat → Nat → Int32) × (Nat → Option Nat) × va_W × (Nat × Nat × Nat × Nat)) => ∃ q1, r = some q1 ∧ y_L pl q1 = none ∧ u.1 = I ∧ u.2.1 = T ∧ u.2.2.1 = A ∧ u.2.2.2.1 = O ∧ y_L u.2.2.2.2.1 = y_Lu (y_L pl) q1 (.inl (ar 5, n2, .inr (.inr (.inr (.inr (va_cpy g (fun _ => none) 0 0 cap))))))) (fun u t => va_P (dC, dI) y_cl (y_W ad ar u.1 u.2.1 u.2.2.1 u.2.2.2.1 u.2.2.2.2.1) t.heap ∧ va_D (va_A (y_W ad ar I T A O pl) sz) (y_W ad ar u.1 u.2.1 u.2.2.1 u.2.2.2.1 u.2.2.2.2.1) ∧ t.heap.size ≤ sz + 1 ∧ y_hs t.heap ≤ w0 + n2) (va_A (y_W ad ar I T A O pl) sz)) (1) (n2) (va_A (y_W ad ar I T A O pl) sz) := by
  refine Met.ofW (cc := prog_29_method_119_code) (maxL := 2) (ret := (some (.array (.object "java/lang/Object")))) (by decide) rfl ?_
  intro p e s m args below meth c s₁ B hml hv
  obtain ⟨rfl, hsz, hN0, hP, hU, hZ, hD0, hw0⟩ := hv
  have hK := hU.2.1
  have hx := B.exec
  have hb := B.bytes
  have hr := B.returns
  have hts : ∀ w ∈ x_T, w.before ([.ref a, .int (Int32.ofNat n2)] : List Value).toArray s = true := fun w h => atoms_spec (ws := (Jvm.Cond.code ({ cls := "java/util/Arrays", name := "copyOf", desc := "([Ljava/lang/Object;I)[Ljava/lang/Object;" } : Jvm.MethodName) prog_29_method_119_code (2 : Nat) (Option.some (Jvm.ClassFile.FieldType.array (Jvm.ClassFile.FieldType.object "java/lang/Object")))) :: x_T) B.pre w (List.mem_cons_of_mem _ h)
  have hown : s.vm.findClass "java/util/Arrays" = some m.cls := findClass_of_methodNamed B.named
  have hlocks := B.notSynchronized
  subst hsz
  subst hw0
  have hD := hD0.self (sz := s.heap.size)
  have hAN := x_AN hD0 hN0
  generalize hAe : va_A (y_W ad ar I T A O pl) s.heap.size = Bq at hD hAN ⊢
  have hA : ∀ q : Nat, s.heap.size ≤ q → Bq q := fun q h => by rw [← hAe]; exact Or.inr h
  have hS : va_S Bq s.heap s.heap [] := va_S.rf
  have hl := lv_entry ([.ref a, .int (Int32.ofNat n2)]) (n := 2) (Nat.le_of_ble_eq_true rfl)
  rw [lg_entry_eq]
  generalize (lg_sl ([.ref a, .int (Int32.ofNat n2)]) ++ List.replicate (2 - (lg_sl ([.ref a, .int (Int32.ofNat n2)])).length) Slot.unset).toArray = ls at hl ⊢
  have hl : lv_has ls 2 [(0, .ref a), (1, .int (Int32.ofNat n2))] := hl
  refine lv_aload_n hx hb d_Arrays_copyOfO_0 rfl (lv_at hl 0 rfl) ?_
  refine lv_iload_n hx hb d_Arrays_copyOfO_1 rfl (lv_at hl 1 rfl) ?_
  refine lv_aload_n hx hb d_Arrays_copyOfO_2 rfl (lv_at hl 0 rfl) ?_
  refine va_getC hx hb (by rw [hml]; exact hl.1.symm) (C := "[Ljava/lang/Object;") hown (hts _ k_680) (va_Nw.use rfl (hU.1.2.1 _ kn_1295)) (hts _ k_1294) (hts _ k_681) (hts _ k_698) hZ.2.2.2.2.2.2 (by obtain ⟨q9, hq9⟩ := y_L_at hf; exact y_acl hK (by rw [← y_W_pl (k := q9)] at hq9; exact hP _ _ hq9)) (Nat.le_of_ble_eq_true rfl) (Nat.le_of_ble_eq_true rfl) d_Arrays_copyOfO_3 ?_
  have hFc := y_free hD hS hA
  refine va_callq (va_runS (As := [.ref a, .int (Int32.ofNat n2), .ref (z 22)]) (rest := []) ⟨hx, hb, hml, hown, hts⟩ (c_cpC l dC dI ar N0 z ad I T A O pl a cap n2 g s.heap.size (y_hs s.heap) hf hcap hn2 hel) (cwS 3 hts (x_goodS k_699 k_700 k_21 k_701) rfl rfl rfl (by decide +kernel) ⟨Nat.le_of_ble_eq_true rfl, Nat.le_of_ble_eq_true rfl⟩) ⟨y_blind, fun U9 hU9 hW9 => y_pre hU9 hW9 hP hD hU hZ hS hAN hN0⟩ rfl rfl hl.1 rfl (lv_room (Nat.le_of_ble_eq_true rfl)) d_Arrays_copyOfO_6 ⟨(by show 0 + (1) ≤ 1; omega), (by show 0 + (n2) ≤ n2; omega)⟩) hS (fun q _ h => hFc q h) hFc (fun r_1 u t H1 locs ht hvm hw hB hz1 hk1 hS => ?_)
  obtain ⟨I2, T2, A2, O2, pl2, q2, s2, cq2, cs2⟩ := u
  dsimp only at hw hB
  rw [ht] at hB
  obtain ⟨hP, hD1, hac2⟩ := hB
  have hD : va_D Bq (y_W ad ar I2 T2 A2 O2 pl2) := hD1.weaken (fun _ q _ h => hFc q.1 h)
  generalize H1 = H at hP hS hac2 ⊢
  obtain ⟨q1, rfl, hno, e1, e2, e3, e4, hL⟩ := hw
  rw [e1, e2, e3, e4] at hP hD
  refine W.eq (g2 := F0 m 9 ls [.ref q1]) rfl ?_
  refine y_know (fun hy91 hy92 hy93 hy94 => ?_)
  have hac9 : H.size ≤ s.heap.size + 1 ∧ y_hs H ≤ y_hs s.heap + n2 := ⟨by omega, by omega⟩
  refine W.widen (k := 1) (n := n2) (by omega) (by omega) ?_
  exact W.aret (v := .ref q1) hx hb hr (Or.inr ⟨_, rfl⟩) (Or.inr ⟨_, rfl⟩) (fun t ht hW => ⟨⟨(some q1), (I, T, A, O, pl2, (0, 0, 0, 0)), rfl, ⟨q1, rfl, hno, rfl, rfl, rfl, rfl, hL⟩, (by dsimp only; rw [ht]; exact ⟨hP, hD, hac9⟩)⟩, hS.F ht⟩) hS.2.2 d_Arrays_copyOfO_9
