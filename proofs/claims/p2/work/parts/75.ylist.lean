-- ===== 75.ylist: size, isEmpty, get of a list, by program =====
theorem k_25 : (Jvm.Cond.initialized "java/util/Objects") ∈ x_T := x_at 25 (by decide +kernel) (by decide +kernel)
theorem k_26 : (Jvm.Cond.initialized "jdk/internal/util/Preconditions") ∈ x_T := x_at 26 (by decide +kernel) (by decide +kernel)
theorem k_115 : (Jvm.Cond.fieldLink "java/util/ArrayList" (48 : Nat) "java/util/ArrayList" "size" "I") ∈ x_T := x_at 115 (by decide +kernel) (by decide +kernel)
theorem k_744 : (Jvm.Cond.methodLink "java/util/ArrayList" (118 : Nat) ({ cls := "java/util/Objects", name := "checkIndex", desc := "(II)I" } : Jvm.MethodName)) ∈ x_T := x_at 744 (by decide +kernel) (by decide +kernel)
theorem k_745 : (Jvm.Cond.static ({ cls := "java/util/Objects", name := "checkIndex", desc := "(II)I" } : Jvm.MethodName)) ∈ x_T := x_at 745 (by decide +kernel) (by decide +kernel)
theorem k_746 : (Jvm.Cond.code ({ cls := "java/util/Objects", name := "checkIndex", desc := "(II)I" } : Jvm.MethodName) prog_33_method_17_code (2 : Nat) (Option.some Jvm.ClassFile.FieldType.int)) ∈ x_T := x_at 746 (by decide +kernel) (by decide +kernel)
theorem k_747 : (Jvm.Cond.methodLink "java/util/Objects" (105 : Nat) ({ cls := "jdk/internal/util/Preconditions", name := "checkIndex", desc := "(IILjava/util/function/BiFunction;)I" } : Jvm.MethodName)) ∈ x_T := x_at 747 (by decide +kernel) (by decide +kernel)
theorem k_748 : (Jvm.Cond.static ({ cls := "jdk/internal/util/Preconditions", name := "checkIndex", desc := "(IILjava/util/function/BiFunction;)I" } : Jvm.MethodName)) ∈ x_T := x_at 748 (by decide +kernel) (by decide +kernel)
theorem k_749 : (Jvm.Cond.code ({ cls := "jdk/internal/util/Preconditions", name := "checkIndex", desc := "(IILjava/util/function/BiFunction;)I" } : Jvm.MethodName) prog_37_method_11_code (3 : Nat) (Option.some Jvm.ClassFile.FieldType.int)) ∈ x_T := x_at 749 (by decide +kernel) (by decide +kernel)
theorem k_750 : (Jvm.Cond.methodLink "java/util/ArrayList" (123 : Nat) ({ cls := "java/util/ArrayList", name := "elementData", desc := "(I)Ljava/lang/Object;" } : Jvm.MethodName)) ∈ x_T := x_at 750 (by decide +kernel) (by decide +kernel)
theorem k_751 : (Jvm.Cond.instanceMethod ({ cls := "java/util/ArrayList", name := "elementData", desc := "(I)Ljava/lang/Object;" } : Jvm.MethodName)) ∈ x_T := x_at 751 (by decide +kernel) (by decide +kernel)
theorem k_752 : (Jvm.Cond.selects "java/util/ArrayList" ({ cls := "java/util/ArrayList", name := "elementData", desc := "(I)Ljava/lang/Object;" } : Jvm.MethodName) ({ cls := "java/util/ArrayList", name := "elementData", desc := "(I)Ljava/lang/Object;" } : Jvm.MethodName)) ∈ x_T := x_at 752 (by decide +kernel) (by decide +kernel)
theorem k_753 : (Jvm.Cond.code ({ cls := "java/util/ArrayList", name := "elementData", desc := "(I)Ljava/lang/Object;" } : Jvm.MethodName) prog_28_method_18_code (2 : Nat) (Option.some (Jvm.ClassFile.FieldType.object "java/lang/Object"))) ∈ x_T := x_at 753 (by decide +kernel) (by decide +kernel)
theorem d_ArrayList_size_0 : decode prog_28_method_8_code 0 = .ok (.aload_n 0, 1) := by decide +kernel
theorem d_ArrayList_size_1 : decode prog_28_method_8_code 1 = .ok (.getfield 48, 3) := by decide +kernel
theorem d_ArrayList_size_4 : decode prog_28_method_8_code 4 = .ok (.ireturn, 1) := by decide +kernel
theorem d_ArrayList_isEmpty_0 : decode prog_28_method_9_code 0 = .ok (.aload_n 0, 1) := by decide +kernel
theorem d_ArrayList_isEmpty_1 : decode prog_28_method_9_code 1 = .ok (.getfield 48, 3) := by decide +kernel
theorem d_ArrayList_isEmpty_4 : decode prog_28_method_9_code 4 = .ok (.ifCond .ne 7, 3) := by decide +kernel
theorem d_ArrayList_isEmpty_7 : decode prog_28_method_9_code 7 = .ok (.iconst 1, 1) := by decide +kernel
theorem d_ArrayList_isEmpty_8 : decode prog_28_method_9_code 8 = .ok (.goto 4, 3) := by decide +kernel
theorem d_ArrayList_isEmpty_11 : decode prog_28_method_9_code 11 = .ok (.iconst 0, 1) := by decide +kernel
theorem d_ArrayList_isEmpty_12 : decode prog_28_method_9_code 12 = .ok (.ireturn, 1) := by decide +kernel
theorem d_Preconditions_checkIndex_0 : decode prog_37_method_11_code 0 = .ok (.iload_n 0, 1) := by decide +kernel
theorem d_Preconditions_checkIndex_1 : decode prog_37_method_11_code 1 = .ok (.ifCond .lt 8, 3) := by decide +kernel
theorem d_Preconditions_checkIndex_4 : decode prog_37_method_11_code 4 = .ok (.iload_n 0, 1) := by decide +kernel
theorem d_Preconditions_checkIndex_5 : decode prog_37_method_11_code 5 = .ok (.iload_n 1, 1) := by decide +kernel
theorem d_Preconditions_checkIndex_6 : decode prog_37_method_11_code 6 = .ok (.if_icmp .lt 10, 3) := by decide +kernel
theorem d_Preconditions_checkIndex_9 : decode prog_37_method_11_code 9 = .ok (.aload_n 2, 1) := by decide +kernel
theorem d_Preconditions_checkIndex_10 : decode prog_37_method_11_code 10 = .ok (.iload_n 0, 1) := by decide +kernel
theorem d_Preconditions_checkIndex_11 : decode prog_37_method_11_code 11 = .ok (.iload_n 1, 1) := by decide +kernel
theorem d_Preconditions_checkIndex_12 : decode prog_37_method_11_code 12 = .ok (.invokestatic 95, 3) := by decide +kernel
theorem d_Preconditions_checkIndex_15 : decode prog_37_method_11_code 15 = .ok (.athrow, 1) := by decide +kernel
theorem d_Preconditions_checkIndex_16 : decode prog_37_method_11_code 16 = .ok (.iload_n 0, 1) := by decide +kernel
theorem d_Preconditions_checkIndex_17 : decode prog_37_method_11_code 17 = .ok (.ireturn, 1) := by decide +kernel
theorem d_Objects_checkIndex_0 : decode prog_33_method_17_code 0 = .ok (.iload_n 0, 1) := by decide +kernel
theorem d_Objects_checkIndex_1 : decode prog_33_method_17_code 1 = .ok (.iload_n 1, 1) := by decide +kernel
theorem d_Objects_checkIndex_2 : decode prog_33_method_17_code 2 = .ok (.aconst_null, 1) := by decide +kernel
theorem d_Objects_checkIndex_3 : decode prog_33_method_17_code 3 = .ok (.invokestatic 105, 3) := by decide +kernel
theorem d_Objects_checkIndex_6 : decode prog_33_method_17_code 6 = .ok (.ireturn, 1) := by decide +kernel
theorem d_ArrayList_elementData_0 : decode prog_28_method_18_code 0 = .ok (.aload_n 0, 1) := by decide +kernel
theorem d_ArrayList_elementData_1 : decode prog_28_method_18_code 1 = .ok (.getfield 9, 3) := by decide +kernel
theorem d_ArrayList_elementData_4 : decode prog_28_method_18_code 4 = .ok (.iload_n 1, 1) := by decide +kernel
theorem d_ArrayList_elementData_5 : decode prog_28_method_18_code 5 = .ok (.aaload, 1) := by decide +kernel
theorem d_ArrayList_elementData_6 : decode prog_28_method_18_code 6 = .ok (.areturn, 1) := by decide +kernel
theorem d_ArrayList_get_0 : decode prog_28_method_20_code 0 = .ok (.iload_n 1, 1) := by decide +kernel
theorem d_ArrayList_get_1 : decode prog_28_method_20_code 1 = .ok (.aload_n 0, 1) := by decide +kernel
theorem d_ArrayList_get_2 : decode prog_28_method_20_code 2 = .ok (.getfield 48, 3) := by decide +kernel
theorem d_ArrayList_get_5 : decode prog_28_method_20_code 5 = .ok (.invokestatic 118, 3) := by decide +kernel
theorem d_ArrayList_get_8 : decode prog_28_method_20_code 8 = .ok (.pop, 1) := by decide +kernel
theorem d_ArrayList_get_9 : decode prog_28_method_20_code 9 = .ok (.aload_n 0, 1) := by decide +kernel
theorem d_ArrayList_get_10 : decode prog_28_method_20_code 10 = .ok (.iload_n 1, 1) := by decide +kernel
theorem d_ArrayList_get_11 : decode prog_28_method_20_code 11 = .ok (.invokevirtual 123, 3) := by decide +kernel
theorem d_ArrayList_get_14 : decode prog_28_method_20_code 14 = .ok (.areturn, 1) := by decide +kernel
theorem y_Lu_uu {f : Nat → Option va_E} {a : Nat} {e e' : va_E} : y_Lu (y_Lu f a e) a e' = y_Lu f a e' := by
  funext b
  by_cases h : b = a
  · subst h; rw [y_Lu_s, y_Lu_s]
  · rw [y_Lu_n h, y_Lu_n h, y_Lu_n h]
theorem x_shr1 {a : Nat} (h : a < 2147483648) : Int32.ofNat a >>> ((1 : Int32) &&& 31) = Int32.ofNat (a / 2) := pk_shrN (n := a) h _ 1 (by decide)
theorem y_LS.le {z : Nat → Nat} {ar : Nat → ClassId} {G : Nat → Nat} {f : Nat → Option va_E} {o : Option Nat} {k cap : Nat} (h : y_LS z ar G f o k cap) : k ≤ cap := by
  rcases h with ⟨_, h1, h2⟩ | ⟨_, _, _, _, h, _⟩
  · omega
  · exact h
section YN
variable {z : Nat → Nat} {ar : Nat → ClassId} {G : Nat → Nat} {C Gs : Nat → List Nat} {f : Nat → Option va_E} {I I' : Nat → Int32} {O O' : Nat → Option Nat}
/-- a list's row is another cell than the other list's -/
theorem y_LS.off {o : Option Nat} {k cap a : Nat} {e : va_E} (h : y_LS z ar G f o k cap) (ha : ∀ x, o = some x → x ≠ a ∨ (x = z 0 ∧ k = 0 ∧ cap = 0)) : y_LS z ar G (y_Lu f a e) o k cap := by
  rcases h with h | ⟨x, g, h1, h2, h3⟩
  · exact Or.inl h
  · rcases ha x h1 with hx | ⟨hx, hk, hc⟩
    · exact Or.inr ⟨x, g, h1, by rw [y_Lu_n hx]; exact h2, h3⟩
    · omega
end YN
set_option maxHeartbeats 4000000 in
set_option maxRecDepth 100000 in
theorem c_L_size11 (l : Launch) (dC : Nat → ClassId) (dI : Nat → Nat → Nat) (ar : Nat → ClassId) (N0 : Nat) (z : Nat → Nat) (ad : Nat → Nat) (I : Nat → Int32) (T : Int64) (A : Nat → Nat → Int32) (O : Nat → Option Nat) (pl : va_W) (G : Nat → Nat) (C Gs : Nat → List Nat) (qn sn cq cs : Nat) (sz w0 : Nat) (hmi : y_MI z ar G C Gs I O (y_L pl) (qn, sn, cq, cs))  : Met l ({ cls := "java/util/ArrayList", name := "size", desc := "()I" } : Jvm.MethodName) ((Jvm.Cond.code ({ cls := "java/util/ArrayList", name := "size", desc := "()I" } : Jvm.MethodName) prog_28_method_8_code (1 : Nat) (Option.some Jvm.ClassFile.FieldType.int)) :: x_T) ({ frames := 0, cells := 0, slots := 0, locals := 0 }) (y_Pc (dC, dI) ar N0 z (y_W ad ar I T A O pl) sz w0 [.ref (ad 11)]) (va_Qi (fun (r : Int32) (u : (Nat → Int32) × Int64 × (Nat → Nat → Int32) × (Nat → Option Nat) × va_W × (Nat × Nat × Nat × Nat)) => u = (I, T, A, O, pl, qn, sn, cq, cs) ∧ r = Int32.ofNat qn) (fun u t => va_P (dC, dI) y_cl (y_W ad ar u.1 u.2.1 u.2.2.1 u.2.2.2.1 u.2.2.2.2.1) t.heap ∧ va_D (va_A (y_W ad ar I T A O pl) sz) (y_W ad ar u.1 u.2.1 u.2.2.1 u.2.2.2.1 u.2.2.2.2.1) ∧ y_ac (cq + cs) sz w0 (u.2.2.2.2.2.2.2.1 + u.2.2.2.2.2.2.2.2) t.heap) (va_A (y_W ad ar I T A O pl) sz)) (0) (0) (va_A (y_W ad ar I T A O pl) sz) := by
  refine Met.ofW (cc := prog_28_method_8_code) (maxL := 1) (ret := (some .int)) (by decide) rfl ?_
  intro p e s m args below meth c s₁ B hml hv
  obtain ⟨rfl, hsz, hN0, hP, hU, hZ, hD0, hw0⟩ := hv
  have hK := hU.2.1
  have hx := B.exec
  have hb := B.bytes
  have hr := B.returns
  have hts : ∀ w ∈ x_T, w.before ([.ref (ad 11)] : List Value).toArray s = true := fun w h => atoms_spec (ws := (Jvm.Cond.code ({ cls := "java/util/ArrayList", name := "size", desc := "()I" } : Jvm.MethodName) prog_28_method_8_code (1 : Nat) (Option.some Jvm.ClassFile.FieldType.int)) :: x_T) B.pre w (List.mem_cons_of_mem _ h)
  have hown : s.vm.findClass "java/util/ArrayList" = some m.cls := findClass_of_methodNamed B.named
  have hlocks := B.notSynchronized
  subst hsz
  subst hw0
  have hD := hD0.self (sz := s.heap.size)
  have hAN := x_AN hD0 hN0
  generalize hAe : va_A (y_W ad ar I T A O pl) s.heap.size = Bq at hD hAN ⊢
  have hA : ∀ q : Nat, s.heap.size ≤ q → Bq q := fun q h => by rw [← hAe]; exact Or.inr h
  have hS : va_S Bq s.heap s.heap [] := va_S.rf
  have hl := lv_entry ([.ref (ad 11)]) (n := 1) (Nat.le_of_ble_eq_true rfl)
  rw [lg_entry_eq]
  generalize (lg_sl ([.ref (ad 11)]) ++ List.replicate (1 - (lg_sl ([.ref (ad 11)])).length) Slot.unset).toArray = ls at hl ⊢
  have hl : lv_has ls 1 [(0, .ref (ad 11))] := hl
  refine lv_aload_n hx hb d_ArrayList_size_0 rfl (lv_at hl 0 rfl) ?_
  refine k_g (C := "java/util/ArrayList") (F := F_List) (N := 3) hx hb hts i_List hown hK hP 11 1 (by decide) (by decide) rfl (by decide) (d := (1, 12)) rfl (hts _ k_115) (fun _ h9 => h9) (v := .int (Int32.ofNat qn)) (congrArg Value.int hmi.2.1.1) d_ArrayList_size_1 ?_
  refine y_know (fun hy91 hy92 hy93 hy94 => ?_)
  have hac9 : y_ac (cq + cs) s.heap.size (y_hs s.heap) (cq + cs) s.heap := ⟨by omega, by omega⟩
  refine W.widen (k := 0) (n := 0) (by omega) (by omega) ?_
  exact W.iret (v := (Int32.ofNat qn)) hx hb hr (fun t ht hW => ⟨⟨(Int32.ofNat qn), (I, T, A, O, pl, (qn, sn, cq, cs)), rfl, ⟨rfl, rfl⟩, (by dsimp only; rw [ht]; exact ⟨hP, hD, hac9⟩)⟩, hS.F ht⟩) hS.2.2 d_ArrayList_size_4
set_option maxHeartbeats 4000000 in
set_option maxRecDepth 100000 in
theorem c_L_size12 (l : Launch) (dC : Nat → ClassId) (dI : Nat → Nat → Nat) (ar : Nat → ClassId) (N0 : Nat) (z : Nat → Nat) (ad : Nat → Nat) (I : Nat → Int32) (T : Int64) (A : Nat → Nat → Int32) (O : Nat → Option Nat) (pl : va_W) (G : Nat → Nat) (C Gs : Nat → List Nat) (qn sn cq cs : Nat) (sz w0 : Nat) (hmi : y_MI z ar G C Gs I O (y_L pl) (qn, sn, cq, cs))  : Met l ({ cls := "java/util/ArrayList", name := "size", desc := "()I" } : Jvm.MethodName) ((Jvm.Cond.code ({ cls := "java/util/ArrayList", name := "size", desc := "()I" } : Jvm.MethodName) prog_28_method_8_code (1 : Nat) (Option.some Jvm.ClassFile.FieldType.int)) :: x_T) ({ frames := 0, cells := 0, slots := 0, locals := 0 }) (y_Pc (dC, dI) ar N0 z (y_W ad ar I T A O pl) sz w0 [.ref (ad 12)]) (va_Qi (fun (r : Int32) (u : (Nat → Int32) × Int64 × (Nat → Nat → Int32) × (Nat → Option Nat) × va_W × (Nat × Nat × Nat × Nat)) => u = (I, T, A, O, pl, qn, sn, cq, cs) ∧ r = Int32.ofNat sn) (fun u t => va_P (dC, dI) y_cl (y_W ad ar u.1 u.2.1 u.2.2.1 u.2.2.2.1 u.2.2.2.2.1) t.heap ∧ va_D (va_A (y_W ad ar I T A O pl) sz) (y_W ad ar u.1 u.2.1 u.2.2.1 u.2.2.2.1 u.2.2.2.2.1) ∧ y_ac (cq + cs) sz w0 (u.2.2.2.2.2.2.2.1 + u.2.2.2.2.2.2.2.2) t.heap) (va_A (y_W ad ar I T A O pl) sz)) (0) (0) (va_A (y_W ad ar I T A O pl) sz) := by
  refine Met.ofW (cc := prog_28_method_8_code) (maxL := 1) (ret := (some .int)) (by decide) rfl ?_
  intro p e s m args below meth c s₁ B hml hv
  obtain ⟨rfl, hsz, hN0, hP, hU, hZ, hD0, hw0⟩ := hv
  have hK := hU.2.1
  have hx := B.exec
  have hb := B.bytes
  have hr := B.returns
  have hts : ∀ w ∈ x_T, w.before ([.ref (ad 12)] : List Value).toArray s = true := fun w h => atoms_spec (ws := (Jvm.Cond.code ({ cls := "java/util/ArrayList", name := "size", desc := "()I" } : Jvm.MethodName) prog_28_method_8_code (1 : Nat) (Option.some Jvm.ClassFile.FieldType.int)) :: x_T) B.pre w (List.mem_cons_of_mem _ h)
  have hown : s.vm.findClass "java/util/ArrayList" = some m.cls := findClass_of_methodNamed B.named
  have hlocks := B.notSynchronized
  subst hsz
  subst hw0
  have hD := hD0.self (sz := s.heap.size)
  have hAN := x_AN hD0 hN0
  generalize hAe : va_A (y_W ad ar I T A O pl) s.heap.size = Bq at hD hAN ⊢
  have hA : ∀ q : Nat, s.heap.size ≤ q → Bq q := fun q h => by rw [← hAe]; exact Or.inr h
  have hS : va_S Bq s.heap s.heap [] := va_S.rf
  have hl := lv_entry ([.ref (ad 12)]) (n := 1) (Nat.le_of_ble_eq_true rfl)
  rw [lg_entry_eq]
  generalize (lg_sl ([.ref (ad 12)]) ++ List.replicate (1 - (lg_sl ([.ref (ad 12)])).length) Slot.unset).toArray = ls at hl ⊢
  have hl : lv_has ls 1 [(0, .ref (ad 12))] := hl
  refine lv_aload_n hx hb d_ArrayList_size_0 rfl (lv_at hl 0 rfl) ?_
  refine k_g (C := "java/util/ArrayList") (F := F_List) (N := 3) hx hb hts i_List hown hK hP 12 1 (by decide) (by decide) rfl (by decide) (d := (1, 14)) rfl (hts _ k_115) (fun _ h9 => h9) (v := .int (Int32.ofNat sn)) (congrArg Value.int hmi.2.2.1.1) d_ArrayList_size_1 ?_
  refine y_know (fun hy91 hy92 hy93 hy94 => ?_)
  have hac9 : y_ac (cq + cs) s.heap.size (y_hs s.heap) (cq + cs) s.heap := ⟨by omega, by omega⟩
  refine W.widen (k := 0) (n := 0) (by omega) (by omega) ?_
  exact W.iret (v := (Int32.ofNat sn)) hx hb hr (fun t ht hW => ⟨⟨(Int32.ofNat sn), (I, T, A, O, pl, (qn, sn, cq, cs)), rfl, ⟨rfl, rfl⟩, (by dsimp only; rw [ht]; exact ⟨hP, hD, hac9⟩)⟩, hS.F ht⟩) hS.2.2 d_ArrayList_size_4
set_option maxHeartbeats 4000000 in
set_option maxRecDepth 100000 in
theorem c_L_isEmpty11 (l : Launch) (dC : Nat → ClassId) (dI : Nat → Nat → Nat) (ar : Nat → ClassId) (N0 : Nat) (z : Nat → Nat) (ad : Nat → Nat) (I : Nat → Int32) (T : Int64) (A : Nat → Nat → Int32) (O : Nat → Option Nat) (pl : va_W) (G : Nat → Nat) (C Gs : Nat → List Nat) (qn sn cq cs : Nat) (sz w0 : Nat) (hmi : y_MI z ar G C Gs I O (y_L pl) (qn, sn, cq, cs))  : Met l ({ cls := "java/util/ArrayList", name := "isEmpty", desc := "()Z" } : Jvm.MethodName) ((Jvm.Cond.code ({ cls := "java/util/ArrayList", name := "isEmpty", desc := "()Z" } : Jvm.MethodName) prog_28_method_9_code (1 : Nat) (Option.some Jvm.ClassFile.FieldType.boolean)) :: x_T) ({ frames := 0, cells := 0, slots := 0, locals := 0 }) (y_Pc (dC, dI) ar N0 z (y_W ad ar I T A O pl) sz w0 [.ref (ad 11)]) (va_Qi (fun (r : Int32) (u : (Nat → Int32) × Int64 × (Nat → Nat → Int32) × (Nat → Option Nat) × va_W × (Nat × Nat × Nat × Nat)) => u = (I, T, A, O, pl, qn, sn, cq, cs) ∧ ((r = 1 ∧ qn = 0) ∨ (r = 0 ∧ ¬ qn = 0))) (fun u t => va_P (dC, dI) y_cl (y_W ad ar u.1 u.2.1 u.2.2.1 u.2.2.2.1 u.2.2.2.2.1) t.heap ∧ va_D (va_A (y_W ad ar I T A O pl) sz) (y_W ad ar u.1 u.2.1 u.2.2.1 u.2.2.2.1 u.2.2.2.2.1) ∧ y_ac (cq + cs) sz w0 (u.2.2.2.2.2.2.2.1 + u.2.2.2.2.2.2.2.2) t.heap) (va_A (y_W ad ar I T A O pl) sz)) (0) (0) (va_A (y_W ad ar I T A O pl) sz) := by
  refine Met.ofW (cc := prog_28_method_9_code) (maxL := 1) (ret := (some .boolean)) (by decide) rfl ?_
  intro p e s m args below meth c s₁ B hml hv
  obtain ⟨rfl, hsz, hN0, hP, hU, hZ, hD0, hw0⟩ := hv
  have hK := hU.2.1
  have hx := B.exec
  have hb := B.bytes
  have hr := B.returns
  have hts : ∀ w ∈ x_T, w.before ([.ref (ad 11)] : List Value).toArray s = true := fun w h => atoms_spec (ws := (Jvm.Cond.code ({ cls := "java/util/ArrayList", name := "isEmpty", desc := "()Z" } : Jvm.MethodName) prog_28_method_9_code (1 : Nat) (Option.some Jvm.ClassFile.FieldType.boolean)) :: x_T) B.pre w (List.mem_cons_of_mem _ h)
  have hown : s.vm.findClass "java/util/ArrayList" = some m.cls := findClass_of_methodNamed B.named
  have hlocks := B.notSynchronized
  subst hsz
  subst hw0
  have hD := hD0.self (sz := s.heap.size)
  have hAN := x_AN hD0 hN0
  generalize hAe : va_A (y_W ad ar I T A O pl) s.heap.size = Bq at hD hAN ⊢
  have hA : ∀ q : Nat, s.heap.size ≤ q → Bq q := fun q h => by rw [← hAe]; exact Or.inr h
  have hS : va_S Bq s.heap s.heap [] := va_S.rf
  have hl := lv_entry ([.ref (ad 11)]) (n := 1) (Nat.le_of_ble_eq_true rfl)
  rw [lg_entry_eq]
  generalize (lg_sl ([.ref (ad 11)]) ++ List.replicate (1 - (lg_sl ([.ref (ad 11)])).length) Slot.unset).toArray = ls at hl ⊢
  have hl : lv_has ls 1 [(0, .ref (ad 11))] := hl
  have hcap := hmi.2.2.2.2.1
  dsimp only at hcap
  have hls : qn ≤ cq := y_LS.le hmi.2.1.2
  refine lv_aload_n hx hb d_ArrayList_isEmpty_0 rfl (lv_at hl 0 rfl) ?_
  refine k_g (C := "java/util/ArrayList") (F := F_List) (N := 3) hx hb hts i_List hown hK hP 11 1 (by decide) (by decide) rfl (by decide) (d := (1, 12)) rfl (hts _ k_115) (fun _ h9 => h9) (v := .int (Int32.ofNat qn)) (congrArg Value.int hmi.2.1.1) d_ArrayList_isEmpty_1 ?_
  refine lv_if_ne (tgt := 11) hx hb d_ArrayList_isEmpty_4 (by decide) (fun c_1 => ?_) (fun c_1 => ?_)
  · have c_1 : ¬ qn = 0 := fun h9 => c_1 ((x_eqN (a := qn) (b := 0) (by omega) (by omega)).mpr h9)
    refine lv_iconst (v := 0) hx hb d_ArrayList_isEmpty_11 (by decide) ?_
    refine y_know (fun hy91 hy92 hy93 hy94 => ?_)
    have hac9 : y_ac (cq + cs) s.heap.size (y_hs s.heap) (cq + cs) s.heap := ⟨by omega, by omega⟩
    refine W.widen (k := 0) (n := 0) (by omega) (by omega) ?_
    exact W.zret (v := 0) hx hb hr (rfl) (fun t ht hW => ⟨⟨0, (I, T, A, O, pl, (qn, sn, cq, cs)), rfl, ⟨rfl, Or.inr ⟨rfl, c_1⟩⟩, (by dsimp only; rw [ht]; exact ⟨hP, hD, hac9⟩)⟩, hS.F ht⟩) hS.2.2 d_ArrayList_isEmpty_12
  · have c_1 : qn = 0 := (x_eqN (a := qn) (b := 0) (by omega) (by omega)).mp c_1
    refine lv_iconst (v := 1) hx hb d_ArrayList_isEmpty_7 (by decide) ?_
    refine lv_goto (tgt := 12) hx hb d_ArrayList_isEmpty_8 (by decide) ?_
    refine y_know (fun hy91 hy92 hy93 hy94 => ?_)
    have hac9 : y_ac (cq + cs) s.heap.size (y_hs s.heap) (cq + cs) s.heap := ⟨by omega, by omega⟩
    refine W.widen (k := 0) (n := 0) (by omega) (by omega) ?_
    exact W.zret (v := 1) hx hb hr (rfl) (fun t ht hW => ⟨⟨1, (I, T, A, O, pl, (qn, sn, cq, cs)), rfl, ⟨rfl, Or.inl ⟨rfl, c_1⟩⟩, (by dsimp only; rw [ht]; exact ⟨hP, hD, hac9⟩)⟩, hS.F ht⟩) hS.2.2 d_ArrayList_isEmpty_12
set_option maxHeartbeats 4000000 in
set_option maxRecDepth 100000 in
theorem c_L_isEmpty12 (l : Launch) (dC : Nat → ClassId) (dI : Nat → Nat → Nat) (ar : Nat → ClassId) (N0 : Nat) (z : Nat → Nat) (ad : Nat → Nat) (I : Nat → Int32) (T : Int64) (A : Nat → Nat → Int32) (O : Nat → Option Nat) (pl : va_W) (G : Nat → Nat) (C Gs : Nat → List Nat) (qn sn cq cs : Nat) (sz w0 : Nat) (hmi : y_MI z ar G C Gs I O (y_L pl) (qn, sn, cq, cs))  : Met l ({ cls := "java/util/ArrayList", name := "isEmpty", desc := "()Z" } : Jvm.MethodName) ((Jvm.Cond.code ({ cls := "java/util/ArrayList", name := "isEmpty", desc := "()Z" } : Jvm.MethodName) prog_28_method_9_code (1 : Nat) (Option.some Jvm.ClassFile.FieldType.boolean)) :: x_T) ({ frames := 0, cells := 0, slots := 0, locals := 0 }) (y_Pc (dC, dI) ar N0 z (y_W ad ar I T A O pl) sz w0 [.ref (ad 12)]) (va_Qi (fun (r : Int32) (u : (Nat → Int32) × Int64 × (Nat → Nat → Int32) × (Nat → Option Nat) × va_W × (Nat × Nat × Nat × Nat)) => u = (I, T, A, O, pl, qn, sn, cq, cs) ∧ ((r = 1 ∧ sn = 0) ∨ (r = 0 ∧ ¬ sn = 0))) (fun u t => va_P (dC, dI) y_cl (y_W ad ar u.1 u.2.1 u.2.2.1 u.2.2.2.1 u.2.2.2.2.1) t.heap ∧ va_D (va_A (y_W ad ar I T A O pl) sz) (y_W ad ar u.1 u.2.1 u.2.2.1 u.2.2.2.1 u.2.2.2.2.1) ∧ y_ac (cq + cs) sz w0 (u.2.2.2.2.2.2.2.1 + u.2.2.2.2.2.2.2.2) t.heap) (va_A (y_W ad ar I T A O pl) sz)) (0) (0) (va_A (y_W ad ar I T A O pl) sz) := by
  refine Met.ofW (cc := prog_28_method_9_code) (maxL := 1) (ret := (some .boolean)) (by decide) rfl ?_
  intro p e s m args below meth c s₁ B hml hv
  obtain ⟨rfl, hsz, hN0, hP, hU, hZ, hD0, hw0⟩ := hv
  have hK := hU.2.1
  have hx := B.exec
  have hb := B.bytes
  have hr := B.returns
  have hts : ∀ w ∈ x_T, w.before ([.ref (ad 12)] : List Value).toArray s = true := fun w h => atoms_spec (ws := (Jvm.Cond.code ({ cls := "java/util/ArrayList", name := "isEmpty", desc := "()Z" } : Jvm.MethodName) prog_28_method_9_code (1 : Nat) (Option.some Jvm.ClassFile.FieldType.boolean)) :: x_T) B.pre w (List.mem_cons_of_mem _ h)
  have hown : s.vm.findClass "java/util/ArrayList" = some m.cls := findClass_of_methodNamed B.named
  have hlocks := B.notSynchronized
  subst hsz
  subst hw0
  have hD := hD0.self (sz := s.heap.size)
  have hAN := x_AN hD0 hN0
  generalize hAe : va_A (y_W ad ar I T A O pl) s.heap.size = Bq at hD hAN ⊢
  have hA : ∀ q : Nat, s.heap.size ≤ q → Bq q := fun q h => by rw [← hAe]; exact Or.inr h
  have hS : va_S Bq s.heap s.heap [] := va_S.rf
  have hl := lv_entry ([.ref (ad 12)]) (n := 1) (Nat.le_of_ble_eq_true rfl)
  rw [lg_entry_eq]
  generalize (lg_sl ([.ref (ad 12)]) ++ List.replicate (1 - (lg_sl ([.ref (ad 12)])).length) Slot.unset).toArray = ls at hl ⊢
  have hl : lv_has ls 1 [(0, .ref (ad 12))] := hl
  have hcap := hmi.2.2.2.2.1
  dsimp only at hcap
  have hls : sn ≤ cs := y_LS.le hmi.2.2.1.2
  refine lv_aload_n hx hb d_ArrayList_isEmpty_0 rfl (lv_at hl 0 rfl) ?_
  refine k_g (C := "java/util/ArrayList") (F := F_List) (N := 3) hx hb hts i_List hown hK hP 12 1 (by decide) (by decide) rfl (by decide) (d := (1, 14)) rfl (hts _ k_115) (fun _ h9 => h9) (v := .int (Int32.ofNat sn)) (congrArg Value.int hmi.2.2.1.1) d_ArrayList_isEmpty_1 ?_
  refine lv_if_ne (tgt := 11) hx hb d_ArrayList_isEmpty_4 (by decide) (fun c_1 => ?_) (fun c_1 => ?_)
  · have c_1 : ¬ sn = 0 := fun h9 => c_1 ((x_eqN (a := sn) (b := 0) (by omega) (by omega)).mpr h9)
    refine lv_iconst (v := 0) hx hb d_ArrayList_isEmpty_11 (by decide) ?_
    refine y_know (fun hy91 hy92 hy93 hy94 => ?_)
    have hac9 : y_ac (cq + cs) s.heap.size (y_hs s.heap) (cq + cs) s.heap := ⟨by omega, by omega⟩
    refine W.widen (k := 0) (n := 0) (by omega) (by omega) ?_
    exact W.zret (v := 0) hx hb hr (rfl) (fun t ht hW => ⟨⟨0, (I, T, A, O, pl, (qn, sn, cq, cs)), rfl, ⟨rfl, Or.inr ⟨rfl, c_1⟩⟩, (by dsimp only; rw [ht]; exact ⟨hP, hD, hac9⟩)⟩, hS.F ht⟩) hS.2.2 d_ArrayList_isEmpty_12
  · have c_1 : sn = 0 := (x_eqN (a := sn) (b := 0) (by omega) (by omega)).mp c_1
    refine lv_iconst (v := 1) hx hb d_ArrayList_isEmpty_7 (by decide) ?_
    refine lv_goto (tgt := 12) hx hb d_ArrayList_isEmpty_8 (by decide) ?_
    refine y_know (fun hy91 hy92 hy93 hy94 => ?_)
    have hac9 : y_ac (cq + cs) s.heap.size (y_hs s.heap) (cq + cs) s.heap := ⟨by omega, by omega⟩
    refine W.widen (k := 0) (n := 0) (by omega) (by omega) ?_
    exact W.zret (v := 1) hx hb hr (rfl) (fun t ht hW => ⟨⟨1, (I, T, A, O, pl, (qn, sn, cq, cs)), rfl, ⟨rfl, Or.inl ⟨rfl, c_1⟩⟩, (by dsimp only; rw [ht]; exact ⟨hP, hD, hac9⟩)⟩, hS.F ht⟩) hS.2.2 d_ArrayList_isEmpty_12
set_option maxHeartbeats 4000000 in
set_option maxRecDepth 100000 in
theorem c_chk1 (l : Launch) (dC : Nat → ClassId) (dI : Nat → Nat → Nat) (ar : Nat → ClassId) (N0 : Nat) (z : Nat → Nat) (ad : Nat → Nat) (I : Nat → Int32) (T : Int64) (A : Nat → Nat → Int32) (O : Nat → Option Nat) (pl : va_W) (a b : Nat) (sz w0 : Nat) (hab : a < b) (hb9 : b < 2147483648) : Met l ({ cls := "jdk/internal/util/Preconditions", name := "checkIndex", desc := "(IILjava/util/function/BiFunction;)I" } : Jvm.MethodName) ((Jvm.Cond.code ({ cls := "jdk/internal/util/Preconditions", name := "checkIndex", desc := "(IILjava/util/function/BiFunction;)I" } : Jvm.MethodName) prog_37_method_11_code (3 : Nat) (Option.some Jvm.ClassFile.FieldType.int)) :: x_T) ({ frames := 0, cells := 0, slots := 0, locals := 0 }) (y_Pc (dC, dI) ar N0 z (y_W ad ar I T A O pl) sz w0 [.int (Int32.ofNat a), .int (Int32.ofNat b), .null]) (va_Qi (fun (r : Int32) (u : (Nat → Int32) × Int64 × (Nat → Nat → Int32) × (Nat → Option Nat) × va_W × (Nat × Nat × Nat × Nat)) => u = (I, T, A, O, pl, 0, 0, 0, 0) ∧ r = Int32.ofNat a) (fun u t => va_P (dC, dI) y_cl (y_W ad ar u.1 u.2.1 u.2.2.1 u.2.2.2.1 u.2.2.2.2.1) t.heap ∧ va_D (va_A (y_W ad ar I T A O pl) sz) (y_W ad ar u.1 u.2.1 u.2.2.1 u.2.2.2.1 u.2.2.2.2.1) ∧ True) (va_A (y_W ad ar I T A O pl) sz)) (0) (0) (va_A (y_W ad ar I T A O pl) sz) := by
  refine Met.ofW (cc := prog_37_method_11_code) (maxL := 3) (ret := (some .int)) (by decide) rfl ?_
  intro p e s m args below meth c s₁ B hml hv
  obtain ⟨rfl, hsz, hN0, hP, hU, hZ, hD0, hw0⟩ := hv
  have hK := hU.2.1
  have hx := B.exec
  have hb := B.bytes
  have hr := B.returns
  have hts : ∀ w ∈ x_T, w.before ([.int (Int32.ofNat a), .int (Int32.ofNat b), .null] : List Value).toArray s = true := fun w h => atoms_spec (ws := (Jvm.Cond.code ({ cls := "jdk/internal/util/Preconditions", name := "checkIndex", desc := "(IILjava/util/function/BiFunction;)I" } : Jvm.MethodName) prog_37_method_11_code (3 : Nat) (Option.some Jvm.ClassFile.FieldType.int)) :: x_T) B.pre w (List.mem_cons_of_mem _ h)
  have hown : s.vm.findClass "jdk/internal/util/Preconditions" = some m.cls := findClass_of_methodNamed B.named
  have hlocks := B.notSynchronized
  subst hsz
  subst hw0
  have hD := hD0.self (sz := s.heap.size)
  have hAN := x_AN hD0 hN0
  generalize hAe : va_A (y_W ad ar I T A O pl) s.heap.size = Bq at hD hAN ⊢
  have hA : ∀ q : Nat, s.heap.size ≤ q → Bq q := fun q h => by rw [← hAe]; exact Or.inr h
  have hS : va_S Bq s.heap s.heap [] := va_S.rf
  have hl := lv_entry ([.int (Int32.ofNat a), .int (Int32.ofNat b), .null]) (n := 3) (Nat.le_of_ble_eq_true rfl)
  rw [lg_entry_eq]
  generalize (lg_sl ([.int (Int32.ofNat a), .int (Int32.ofNat b), .null]) ++ List.replicate (3 - (lg_sl ([.int (Int32.ofNat a), .int (Int32.ofNat b), .null])).length) Slot.unset).toArray = ls at hl ⊢
  have hl : lv_has ls 3 [(0, .int (Int32.ofNat a)), (1, .int (Int32.ofNat b)), (2, .null)] := hl
  refine lv_iload_n hx hb d_Preconditions_checkIndex_0 rfl (lv_at hl 0 rfl) ?_
  refine lv_if_lt (tgt := 9) hx hb d_Preconditions_checkIndex_1 (by decide) (fun c1 => absurd c1 (x_nneg (by omega))) (fun _ => ?_)
  refine lv_iload_n hx hb d_Preconditions_checkIndex_4 rfl (lv_at hl 0 rfl) ?_
  refine lv_iload_n hx hb d_Preconditions_checkIndex_5 rfl (lv_at hl 1 rfl) ?_
  refine lv_icmp_lt (tgt := 16) hx hb d_Preconditions_checkIndex_6 (by decide) (fun _ => ?_) (fun c2 => absurd ((x_ltN (by omega) (by omega)).mpr hab) c2)
  refine lv_iload_n hx hb d_Preconditions_checkIndex_16 rfl (lv_at hl 0 rfl) ?_
  refine y_know (fun hy91 hy92 hy93 hy94 => ?_)
  have hac9 : True := trivial
  refine W.widen (k := 0) (n := 0) (by omega) (by omega) ?_
  exact W.iret (v := (Int32.ofNat a)) hx hb hr (fun t ht hW => ⟨⟨(Int32.ofNat a), (I, T, A, O, pl, (0, 0, 0, 0)), rfl, ⟨rfl, rfl⟩, (by dsimp only; rw [ht]; exact ⟨hP, hD, hac9⟩)⟩, hS.F ht⟩) hS.2.2 d_Preconditions_checkIndex_17
set_option maxHeartbeats 4000000 in
set_option maxRecDepth 100000 in
theorem c_chk (l : Launch) (dC : Nat → ClassId) (dI : Nat → Nat → Nat) (ar : Nat → ClassId) (N0 : Nat) (z : Nat → Nat) (ad : Nat → Nat) (I : Nat → Int32) (T : Int64) (A : Nat → Nat → Int32) (O : Nat → Option Nat) (pl : va_W) (a b : Nat) (sz w0 : Nat) (hab : a < b) (hb9 : b < 2147483648) : Met l ({ cls := "java/util/Objects", name := "checkIndex", desc := "(II)I" } : Jvm.MethodName) ((Jvm.Cond.code ({ cls := "java/util/Objects", name := "checkIndex", desc := "(II)I" } : Jvm.MethodName) prog_33_method_17_code (2 : Nat) (Option.some Jvm.ClassFile.FieldType.int)) :: x_T) ({ frames := 1, cells := 0, slots := 0, locals := 22 }) (y_Pc (dC, dI) ar N0 z (y_W ad ar I T A O pl) sz w0 [.int (Int32.ofNat a), .int (Int32.ofNat b)]) (va_Qi (fun (r : Int32) (u : (Nat → Int32) × Int64 × (Nat → Nat → Int32) × (Nat → Option Nat) × va_W × (Nat × Nat × Nat × Nat)) => u = (I, T, A, O, pl, 0, 0, 0, 0) ∧ r = Int32.ofNat a) (fun u t => va_P (dC, dI) y_cl (y_W ad ar u.1 u.2.1 u.2.2.1 u.2.2.2.1 u.2.2.2.2.1) t.heap ∧ va_D (va_A (y_W ad ar I T A O pl) sz) (y_W ad ar u.1 u.2.1 u.2.2.1 u.2.2.2.1 u.2.2.2.2.1) ∧ True) (va_A (y_W ad ar I T A O pl) sz)) (0) (0) (va_A (y_W ad ar I T A O pl) sz) := by
  refine Met.ofW (cc := prog_33_method_17_code) (maxL := 2) (ret := (some .int)) (by decide) rfl ?_
  intro p e s m args below meth c s₁ B hml hv
  obtain ⟨rfl, hsz, hN0, hP, hU, hZ, hD0, hw0⟩ := hv
  have hK := hU.2.1
  have hx := B.exec
  have hb := B.bytes
  have hr := B.returns
  have hts : ∀ w ∈ x_T, w.before ([.int (Int32.ofNat a), .int (Int32.ofNat b)] : List Value).toArray s = true := fun w h => atoms_spec (ws := (Jvm.Cond.code ({ cls := "java/util/Objects", name := "checkIndex", desc := "(II)I" } : Jvm.MethodName) prog_33_method_17_code (2 : Nat) (Option.some Jvm.ClassFile.FieldType.int)) :: x_T) B.pre w (List.mem_cons_of_mem _ h)
  have hown : s.vm.findClass "java/util/Objects" = some m.cls := findClass_of_methodNamed B.named
  have hlocks := B.notSynchronized
  subst hsz
  subst hw0
  have hD := hD0.self (sz := s.heap.size)
  have hAN := x_AN hD0 hN0
  generalize hAe : va_A (y_W ad ar I T A O pl) s.heap.size = Bq at hD hAN ⊢
  have hA : ∀ q : Nat, s.heap.size ≤ q → Bq q := fun q h => by rw [← hAe]; exact Or.inr h
  have hS : va_S Bq s.heap s.heap [] := va_S.rf
  have hl := lv_entry ([.int (Int32.ofNat a), .int (Int32.ofNat b)]) (n := 2) (Nat.le_of_ble_eq_true rfl)
  rw [lg_entry_eq]
  generalize (lg_sl ([.int (Int32.ofNat a), .int (Int32.ofNat b)]) ++ List.replicate (2 - (lg_sl ([.int (Int32.ofNat a), .int (Int32.ofNat b)])).length) Slot.unset).toArray = ls at hl ⊢
  have hl : lv_has ls 2 [(0, .int (Int32.ofNat a)), (1, .int (Int32.ofNat b))] := hl
  refine lv_iload_n hx hb d_Objects_checkIndex_0 rfl (lv_at hl 0 rfl) ?_
  refine lv_iload_n hx hb d_Objects_checkIndex_1 rfl (lv_at hl 1 rfl) ?_
  refine lv_null hx hb d_Objects_checkIndex_2 ?_
  have hFc := y_free hD hS hA
  refine va_calli (va_runS (As := [.int (Int32.ofNat a), .int (Int32.ofNat b), .null]) (rest := []) ⟨hx, hb, hml, hown, hts⟩ (c_chk1 l dC dI ar N0 z ad I T A O pl a b s.heap.size (y_hs s.heap) (by omega) (by omega)) (va_cwS 3 hts (x_goodSW k_747 k_748 k_26 k_749) rfl rfl rfl (by decide +kernel) ⟨Nat.le_of_ble_eq_true rfl, Nat.le_of_ble_eq_true rfl⟩) ⟨y_blind, fun U9 hU9 hW9 => y_pre hU9 hW9 hP hD hU hZ hS hAN hN0⟩ rfl rfl hl.1 rfl (lv_room (Nat.le_of_ble_eq_true rfl)) d_Objects_checkIndex_3 ⟨(by show 0 + (0) ≤ 0; omega), (by show 0 + (0) ≤ 0; omega)⟩) hS (fun q _ h => hFc q h) hFc (fun r_1 u t H1 locs ht hvm hw hB hz1 hk1 hS => ?_)
  obtain ⟨I2, T2, A2, O2, pl2, q2, s2, cq2, cs2⟩ := u
  dsimp only at hw hB
  rw [ht] at hB
  obtain ⟨hP, hD1, hac2⟩ := hB
  have hD : va_D Bq (y_W ad ar I2 T2 A2 O2 pl2) := hD1.weaken (fun _ q _ h => hFc q.1 h)
  generalize H1 = H at hP hS hac2 ⊢
  refine W.widen (k := 0) (n := 0) (by omega) (by omega) ?_
  obtain ⟨h9, hw⟩ := hw
  cases h9
  obtain rfl := hw
  refine y_know (fun hy91 hy92 hy93 hy94 => ?_)
  have hac9 : True := trivial
  refine W.widen (k := 0) (n := 0) (by omega) (by omega) ?_
  exact W.iret (v := (Int32.ofNat a)) hx hb hr (fun t ht hW => ⟨⟨(Int32.ofNat a), (I, T, A, O, pl, (0, 0, 0, 0)), rfl, ⟨rfl, rfl⟩, (by dsimp only; rw [ht]; exact ⟨hP, hD, hac9⟩)⟩, hS.F ht⟩) hS.2.2 d_Objects_checkIndex_6
set_option maxHeartbeats 4000000 in
set_option maxRecDepth 100000 in
theorem c_L_ed11 (l : Launch) (dC : Nat → ClassId) (dI : Nat → Nat → Nat) (ar : Nat → ClassId) (N0 : Nat) (z : Nat → Nat) (ad : Nat → Nat) (I : Nat → Int32) (T : Int64) (A : Nat → Nat → Int32) (O : Nat → Option Nat) (pl : va_W) (G : Nat → Nat) (C Gs : Nat → List Nat) (qn sn cq cs : Nat) (k : Nat) (sz w0 : Nat) (hmi : y_MI z ar G C Gs I O (y_L pl) (qn, sn, cq, cs)) (hk : k < qn) : Met l ({ cls := "java/util/ArrayList", name := "elementData", desc := "(I)Ljava/lang/Object;" } : Jvm.MethodName) ((Jvm.Cond.code ({ cls := "java/util/ArrayList", name := "elementData", desc := "(I)Ljava/lang/Object;" } : Jvm.MethodName) prog_28_method_18_code (2 : Nat) (Option.some (Jvm.ClassFile.FieldType.object "java/lang/Object"))) :: x_T) ({ frames := 0, cells := 0, slots := 0, locals := 0 }) (y_Pc (dC, dI) ar N0 z (y_W ad ar I T A O pl) sz w0 [.ref (ad 11), .int (Int32.ofNat k)]) (va_Qq (fun (r : Option Nat) (u : (Nat → Int32) × Int64 × (Nat → Nat → Int32) × (Nat → Option Nat) × va_W × (Nat × Nat × Nat × Nat)) => u = (I, T, A, O, pl, qn, sn, cq, cs) ∧ ∃ t, r = some t ∧ G t = 8) (fun u t => va_P (dC, dI) y_cl (y_W ad ar u.1 u.2.1 u.2.2.1 u.2.2.2.1 u.2.2.2.2.1) t.heap ∧ va_D (va_A (y_W ad ar I T A O pl) sz) (y_W ad ar u.1 u.2.1 u.2.2.1 u.2.2.2.1 u.2.2.2.2.1) ∧ y_ac (cq + cs) sz w0 (u.2.2.2.2.2.2.2.1 + u.2.2.2.2.2.2.2.2) t.heap) (va_A (y_W ad ar I T A O pl) sz)) (0) (0) (va_A (y_W ad ar I T A O pl) sz) := by
  refine Met.ofW (cc := prog_28_method_18_code) (maxL := 2) (ret := (some (.object "java/lang/Object"))) (by decide) rfl ?_
  intro p e s m args below meth c s₁ B hml hv
  obtain ⟨rfl, hsz, hN0, hP, hU, hZ, hD0, hw0⟩ := hv
  have hK := hU.2.1
  have hx := B.exec
  have hb := B.bytes
  have hr := B.returns
  have hts : ∀ w ∈ x_T, w.before ([.ref (ad 11), .int (Int32.ofNat k)] : List Value).toArray s = true := fun w h => atoms_spec (ws := (Jvm.Cond.code ({ cls := "java/util/ArrayList", name := "elementData", desc := "(I)Ljava/lang/Object;" } : Jvm.MethodName) prog_28_method_18_code (2 : Nat) (Option.some (Jvm.ClassFile.FieldType.object "java/lang/Object"))) :: x_T) B.pre w (List.mem_cons_of_mem _ h)
  have hown : s.vm.findClass "java/util/ArrayList" = some m.cls := findClass_of_methodNamed B.named
  have hlocks := B.notSynchronized
  subst hsz
  subst hw0
  have hD := hD0.self (sz := s.heap.size)
  have hAN := x_AN hD0 hN0
  generalize hAe : va_A (y_W ad ar I T A O pl) s.heap.size = Bq at hD hAN ⊢
  have hA : ∀ q : Nat, s.heap.size ≤ q → Bq q := fun q h => by rw [← hAe]; exact Or.inr h
  have hS : va_S Bq s.heap s.heap [] := va_S.rf
  have hl := lv_entry ([.ref (ad 11), .int (Int32.ofNat k)]) (n := 2) (Nat.le_of_ble_eq_true rfl)
  rw [lg_entry_eq]
  generalize (lg_sl ([.ref (ad 11), .int (Int32.ofNat k)]) ++ List.replicate (2 - (lg_sl ([.ref (ad 11), .int (Int32.ofNat k)])).length) Slot.unset).toArray = ls at hl ⊢
  have hl : lv_has ls 2 [(0, .ref (ad 11)), (1, .int (Int32.ofNat k))] := hl
  obtain ⟨a9, g9, ho9, hfa, hle9, h109, hz9, hel⟩ : ∃ (a9 : Nat) (g9 : Nat → Option Nat), O 1 = some a9 ∧ y_L pl a9 = some (.inl (ar 5, cq, .inr (.inr (.inr (.inr g9))))) ∧ qn ≤ cq ∧ 10 ≤ cq ∧ a9 ≠ z 0 ∧ ∀ j, j < qn → ∃ t, g9 j = some t ∧ G t = 8 := by
    rcases hmi.2.1.2 with ⟨h1, h2, h3⟩ | h
    · dsimp only at h2 h3; omega
    · exact h
  have hcap := hmi.2.2.2.2.1
  dsimp only at hcap
  refine lv_aload_n hx hb d_ArrayList_elementData_0 rfl (lv_at hl 0 rfl) ?_
  refine k_g (C := "java/util/ArrayList") (F := F_List) (N := 3) hx hb hts i_List hown hK hP 11 0 (by decide) (by decide) rfl (by decide) (d := (3, 1)) rfl (hts _ k_114) (fun _ h9 => h9) (v := .ref a9) (by show va_rf (O 1) = _; rw [ho9]; rfl) d_ArrayList_elementData_1 ?_
  refine lv_iload_n hx hb d_ArrayList_elementData_4 rfl (lv_at hl 1 rfl) ?_
  refine d_aald hx hb hK hP hfa (j := (Int32.ofNat k)) (x_inN (by omega) (by omega)) d_ArrayList_elementData_5 ?_
  obtain ⟨t9, hg9, ht9⟩ := hel k hk
  refine W.eq (g2 := F0 m 6 ls [.ref t9]) (by rw [x_nat (a := k) (by omega), hg9]; rfl) ?_
  refine y_know (fun hy91 hy92 hy93 hy94 => ?_)
  have hac9 : y_ac (cq + cs) s.heap.size (y_hs s.heap) (cq + cs) s.heap := ⟨by omega, by omega⟩
  refine W.widen (k := 0) (n := 0) (by omega) (by omega) ?_
  exact W.aret (v := .ref t9) hx hb hr (Or.inl ⟨_, rfl⟩) (Or.inr ⟨_, rfl⟩) (fun t ht hW => ⟨⟨(some t9), (I, T, A, O, pl, (qn, sn, cq, cs)), rfl, ⟨rfl, t9, rfl, ht9⟩, (by dsimp only; rw [ht]; exact ⟨hP, hD, hac9⟩)⟩, hS.F ht⟩) hS.2.2 d_ArrayList_elementData_6
set_option maxHeartbeats 4000000 in
set_option maxRecDepth 100000 in
theorem c_L_ed12 (l : Launch) (dC : Nat → ClassId) (dI : Nat → Nat → Nat) (ar : Nat → ClassId) (N0 : Nat) (z : Nat → Nat) (ad : Nat → Nat) (I : Nat → Int32) (T : Int64) (A : Nat → Nat → Int32) (O : Nat → Option Nat) (pl : va_W) (G : Nat → Nat) (C Gs : Nat → List Nat) (qn sn cq cs : Nat) (k : Nat) (sz w0 : Nat) (hmi : y_MI z ar G C Gs I O (y_L pl) (qn, sn, cq, cs)) (hk : k < sn) : Met l ({ cls := "java/util/ArrayList", name := "elementData", desc := "(I)Ljava/lang/Object;" } : Jvm.MethodName) ((Jvm.Cond.code ({ cls := "java/util/ArrayList", name := "elementData", desc := "(I)Ljava/lang/Object;" } : Jvm.MethodName) prog_28_method_18_code (2 : Nat) (Option.some (Jvm.ClassFile.FieldType.object "java/lang/Object"))) :: x_T) ({ frames := 0, cells := 0, slots := 0, locals := 0 }) (y_Pc (dC, dI) ar N0 z (y_W ad ar I T A O pl) sz w0 [.ref (ad 12), .int (Int32.ofNat k)]) (va_Qq (fun (r : Option Nat) (u : (Nat → Int32) × Int64 × (Nat → Nat → Int32) × (Nat → Option Nat) × va_W × (Nat × Nat × Nat × Nat)) => u = (I, T, A, O, pl, qn, sn, cq, cs) ∧ ∃ t, r = some t ∧ G t = 8) (fun u t => va_P (dC, dI) y_cl (y_W ad ar u.1 u.2.1 u.2.2.1 u.2.2.2.1 u.2.2.2.2.1) t.heap ∧ va_D (va_A (y_W ad ar I T A O pl) sz) (y_W ad ar u.1 u.2.1 u.2.2.1 u.2.2.2.1 u.2.2.2.2.1) ∧ y_ac (cq + cs) sz w0 (u.2.2.2.2.2.2.2.1 + u.2.2.2.2.2.2.2.2) t.heap) (va_A (y_W ad ar I T A O pl) sz)) (0) (0) (va_A (y_W ad ar I T A O pl) sz) := by
  refine Met.ofW (cc := prog_28_method_18_code) (maxL := 2) (ret := (some (.object "java/lang/Object"))) (by decide) rfl ?_
  intro p e s m args below meth c s₁ B hml hv
  obtain ⟨rfl, hsz, hN0, hP, hU, hZ, hD0, hw0⟩ := hv
  have hK := hU.2.1
  have hx := B.exec
  have hb := B.bytes
  have hr := B.returns
  have hts : ∀ w ∈ x_T, w.before ([.ref (ad 12), .int (Int32.ofNat k)] : List Value).toArray s = true := fun w h => atoms_spec (ws := (Jvm.Cond.code ({ cls := "java/util/ArrayList", name := "elementData", desc := "(I)Ljava/lang/Object;" } : Jvm.MethodName) prog_28_method_18_code (2 : Nat) (Option.some (Jvm.ClassFile.FieldType.object "java/lang/Object"))) :: x_T) B.pre w (List.mem_cons_of_mem _ h)
  have hown : s.vm.findClass "java/util/ArrayList" = some m.cls := findClass_of_methodNamed B.named
  have hlocks := B.notSynchronized
  subst hsz
  subst hw0
  have hD := hD0.self (sz := s.heap.size)
  have hAN := x_AN hD0 hN0
  generalize hAe : va_A (y_W ad ar I T A O pl) s.heap.size = Bq at hD hAN ⊢
  have hA : ∀ q : Nat, s.heap.size ≤ q → Bq q := fun q h => by rw [← hAe]; exact Or.inr h
  have hS : va_S Bq s.heap s.heap [] := va_S.rf
  have hl := lv_entry ([.ref (ad 12), .int (Int32.ofNat k)]) (n := 2) (Nat.le_of_ble_eq_true rfl)
  rw [lg_entry_eq]
  generalize (lg_sl ([.ref (ad 12), .int (Int32.ofNat k)]) ++ List.replicate (2 - (lg_sl ([.ref (ad 12), .int (Int32.ofNat k)])).length) Slot.unset).toArray = ls at hl ⊢
  have hl : lv_has ls 2 [(0, .ref (ad 12)), (1, .int (Int32.ofNat k))] := hl
  obtain ⟨a9, g9, ho9, hfa, hle9, h109, hz9, hel⟩ : ∃ (a9 : Nat) (g9 : Nat → Option Nat), O 2 = some a9 ∧ y_L pl a9 = some (.inl (ar 5, cs, .inr (.inr (.inr (.inr g9))))) ∧ sn ≤ cs ∧ 10 ≤ cs ∧ a9 ≠ z 0 ∧ ∀ j, j < sn → ∃ t, g9 j = some t ∧ G t = 8 := by
    rcases hmi.2.2.1.2 with ⟨h1, h2, h3⟩ | h
    · dsimp only at h2 h3; omega
    · exact h
  have hcap := hmi.2.2.2.2.1
  dsimp only at hcap
  refine lv_aload_n hx hb d_ArrayList_elementData_0 rfl (lv_at hl 0 rfl) ?_
  refine k_g (C := "java/util/ArrayList") (F := F_List) (N := 3) hx hb hts i_List hown hK hP 12 0 (by decide) (by decide) rfl (by decide) (d := (3, 2)) rfl (hts _ k_114) (fun _ h9 => h9) (v := .ref a9) (by show va_rf (O 2) = _; rw [ho9]; rfl) d_ArrayList_elementData_1 ?_
  refine lv_iload_n hx hb d_ArrayList_elementData_4 rfl (lv_at hl 1 rfl) ?_
  refine d_aald hx hb hK hP hfa (j := (Int32.ofNat k)) (x_inN (by omega) (by omega)) d_ArrayList_elementData_5 ?_
  obtain ⟨t9, hg9, ht9⟩ := hel k hk
  refine W.eq (g2 := F0 m 6 ls [.ref t9]) (by rw [x_nat (a := k) (by omega), hg9]; rfl) ?_
  refine y_know (fun hy91 hy92 hy93 hy94 => ?_)
  have hac9 : y_ac (cq + cs) s.heap.size (y_hs s.heap) (cq + cs) s.heap := ⟨by omega, by omega⟩
  refine W.widen (k := 0) (n := 0) (by omega) (by omega) ?_
  exact W.aret (v := .ref t9) hx hb hr (Or.inl ⟨_, rfl⟩) (Or.inr ⟨_, rfl⟩) (fun t ht hW => ⟨⟨(some t9), (I, T, A, O, pl, (qn, sn, cq, cs)), rfl, ⟨rfl, t9, rfl, ht9⟩, (by dsimp only; rw [ht]; exact ⟨hP, hD, hac9⟩)⟩, hS.F ht⟩) hS.2.2 d_ArrayList_elementData_6
set_option maxHeartbeats 4000000 in
set_option maxRecDepth 100000 in
theorem c_L_get11 (l : Launch) (dC : Nat → ClassId) (dI : Nat → Nat → Nat) (ar : Nat → ClassId) (N0 : Nat) (z : Nat → Nat) (ad : Nat → Nat) (I : Nat → Int32) (T : Int64) (A : Nat → Nat → Int32) (O : Nat → Option Nat) (pl : va_W) (G : Nat → Nat) (C Gs : Nat → List Nat) (qn sn cq cs : Nat) (k : Nat) (sz w0 : Nat) (hmi : y_MI z ar G C Gs I O (y_L pl) (qn, sn, cq, cs)) (hk : k < qn) : Met l ({ cls := "java/util/ArrayList", name := "get", desc := "(I)Ljava/lang/Object;" } : Jvm.MethodName) ((Jvm.Cond.code ({ cls := "java/util/ArrayList", name := "get", desc := "(I)Ljava/lang/Object;" } : Jvm.MethodName) prog_28_method_20_code (2 : Nat) (Option.some (Jvm.ClassFile.FieldType.object "java/lang/Object"))) :: x_T) ({ frames := 2, cells := 0, slots := 0, locals := 43 }) (y_Pc (dC, dI) ar N0 z (y_W ad ar I T A O pl) sz w0 [.ref (ad 11), .int (Int32.ofNat k)]) (va_Qq (fun (r : Option Nat) (u : (Nat → Int32) × Int64 × (Nat → Nat → Int32) × (Nat → Option Nat) × va_W × (Nat × Nat × Nat × Nat)) => u = (I, T, A, O, pl, qn, sn, cq, cs) ∧ ∃ t, r = some t ∧ G t = 8) (fun u t => va_P (dC, dI) y_cl (y_W ad ar u.1 u.2.1 u.2.2.1 u.2.2.2.1 u.2.2.2.2.1) t.heap ∧ va_D (va_A (y_W ad ar I T A O pl) sz) (y_W ad ar u.1 u.2.1 u.2.2.1 u.2.2.2.1 u.2.2.2.2.1) ∧ y_ac (cq + cs) sz w0 (u.2.2.2.2.2.2.2.1 + u.2.2.2.2.2.2.2.2) t.heap) (va_A (y_W ad ar I T A O pl) sz)) (0) (0) (va_A (y_W ad ar I T A O pl) sz) := by
  refine Met.ofW (cc := prog_28_method_20_code) (maxL := 2) (ret := (some (.object "java/lang/Object"))) (by decide) rfl ?_
  intro p e s m args below meth c s₁ B hml hv
  obtain ⟨rfl, hsz, hN0, hP, hU, hZ, hD0, hw0⟩ := hv
  have hK := hU.2.1
  have hx := B.exec
  have hb := B.bytes
  have hr := B.returns
  have hts : ∀ w ∈ x_T, w.before ([.ref (ad 11), .int (Int32.ofNat k)] : List Value).toArray s = true := fun w h => atoms_spec (ws := (Jvm.Cond.code ({ cls := "java/util/ArrayList", name := "get", desc := "(I)Ljava/lang/Object;" } : Jvm.MethodName) prog_28_method_20_code (2 : Nat) (Option.some (Jvm.ClassFile.FieldType.object "java/lang/Object"))) :: x_T) B.pre w (List.mem_cons_of_mem _ h)
  have hown : s.vm.findClass "java/util/ArrayList" = some m.cls := findClass_of_methodNamed B.named
  have hlocks := B.notSynchronized
  subst hsz
  subst hw0
  have hD := hD0.self (sz := s.heap.size)
  have hAN := x_AN hD0 hN0
  generalize hAe : va_A (y_W ad ar I T A O pl) s.heap.size = Bq at hD hAN ⊢
  have hA : ∀ q : Nat, s.heap.size ≤ q → Bq q := fun q h => by rw [← hAe]; exact Or.inr h
  have hS : va_S Bq s.heap s.heap [] := va_S.rf
  have hl := lv_entry ([.ref (ad 11), .int (Int32.ofNat k)]) (n := 2) (Nat.le_of_ble_eq_true rfl)
  rw [lg_entry_eq]
  generalize (lg_sl ([.ref (ad 11), .int (Int32.ofNat k)]) ++ List.replicate (2 - (lg_sl ([.ref (ad 11), .int (Int32.ofNat k)])).length) Slot.unset).toArray = ls at hl ⊢
  have hl : lv_has ls 2 [(0, .ref (ad 11)), (1, .int (Int32.ofNat k))] := hl
  obtain ⟨a9, g9, ho9, hfa, hle9, h109, hz9, hel⟩ : ∃ (a9 : Nat) (g9 : Nat → Option Nat), O 1 = some a9 ∧ y_L pl a9 = some (.inl (ar 5, cq, .inr (.inr (.inr (.inr g9))))) ∧ qn ≤ cq ∧ 10 ≤ cq ∧ a9 ≠ z 0 ∧ ∀ j, j < qn → ∃ t, g9 j = some t ∧ G t = 8 := by
    rcases hmi.2.1.2 with ⟨h1, h2, h3⟩ | h
    · dsimp only at h2 h3; omega
    · exact h
  have hcap := hmi.2.2.2.2.1
  dsimp only at hcap
  refine lv_iload_n hx hb d_ArrayList_get_0 rfl (lv_at hl 1 rfl) ?_
  refine lv_aload_n hx hb d_ArrayList_get_1 rfl (lv_at hl 0 rfl) ?_
  refine k_g (C := "java/util/ArrayList") (F := F_List) (N := 3) hx hb hts i_List hown hK hP 11 1 (by decide) (by decide) rfl (by decide) (d := (1, 12)) rfl (hts _ k_115) (fun _ h9 => h9) (v := .int (Int32.ofNat qn)) (congrArg Value.int hmi.2.1.1) d_ArrayList_get_2 ?_
  have hFc := y_free hD hS hA
  refine va_calli (va_runS (As := [.int (Int32.ofNat k), .int (Int32.ofNat qn)]) (rest := []) ⟨hx, hb, hml, hown, hts⟩ (c_chk l dC dI ar N0 z ad I T A O pl k qn s.heap.size (y_hs s.heap) (by omega) (by omega)) (va_cwS 2 hts (x_goodSW k_744 k_745 k_25 k_746) rfl rfl rfl (by decide +kernel) ⟨Nat.le_of_ble_eq_true rfl, Nat.le_of_ble_eq_true rfl⟩) ⟨y_blind, fun U9 hU9 hW9 => y_pre hU9 hW9 hP hD hU hZ hS hAN hN0⟩ rfl rfl hl.1 rfl (lv_room (Nat.le_of_ble_eq_true rfl)) d_ArrayList_get_5 ⟨(by show 0 + (0) ≤ 0; omega), (by show 0 + (0) ≤ 0; omega)⟩) hS (fun q _ h => hFc q h) hFc (fun r_1 u t H1 locs ht hvm hw hB hz1 hk1 hS => ?_)
  obtain ⟨I2, T2, A2, O2, pl2, q2, s2, cq2, cs2⟩ := u
  dsimp only at hw hB
  rw [ht] at hB
  obtain ⟨hP, hD1, hac2⟩ := hB
  have hD : va_D Bq (y_W ad ar I2 T2 A2 O2 pl2) := hD1.weaken (fun _ q _ h => hFc q.1 h)
  generalize H1 = H at hP hS hac2 ⊢
  refine W.widen (k := 0) (n := 0) (by omega) (by omega) ?_
  obtain ⟨h9, hw⟩ := hw
  cases h9
  obtain rfl := hw
  refine lv_pop hx hb d_ArrayList_get_8 rfl ?_
  refine lv_aload_n hx hb d_ArrayList_get_9 rfl (lv_at hl 0 rfl) ?_
  refine lv_iload_n hx hb d_ArrayList_get_10 rfl (lv_at hl 1 rfl) ?_
  have hFc := y_free hD hS hA
  refine va_callq (va_runV (As := [.int (Int32.ofNat k)]) (rest := []) ⟨hx, hb, hml, hown, hts⟩ (c_L_ed11 l dC dI ar N0 z ad I T A O pl G C Gs qn sn cq cs k H.size (y_hs H) hmi (by omega)) (cwV 1 hts (x_goodV k_750 k_751 k_752 k_7 k_753) rfl rfl rfl (by decide +kernel) ⟨Nat.le_of_ble_eq_true rfl, Nat.le_of_ble_eq_true rfl⟩) ⟨y_blind, va_recv hK hP (ci := 0) (q0 := 11) rfl (y_W_ob (by decide) (by decide)), fun U9 hU9 hW9 => y_pre hU9 hW9 hP hD hU hZ hS hAN hN0⟩ rfl rfl hl.1 rfl (lv_room (Nat.le_of_ble_eq_true rfl)) d_ArrayList_get_11 ⟨(by show 0 + (0) ≤ 0; omega), (by show 0 + (0) ≤ 0; omega)⟩) hS (fun q _ h => hFc q h) hFc (fun r_3 u t H1 locs ht hvm hw hB hz1 hk1 hS => ?_)
  obtain ⟨I4, T4, A4, O4, pl4, q4, s4, cq4, cs4⟩ := u
  dsimp only at hw hB
  rw [ht] at hB
  obtain ⟨hP, hD1, hac4⟩ := hB
  have hD : va_D Bq (y_W ad ar I4 T4 A4 O4 pl4) := hD1.weaken (fun _ q _ h => hFc q.1 h)
  generalize H1 = H at hP hS hac4 ⊢
  refine W.widen (k := 0) (n := 0) (by omega) (by omega) ?_
  obtain ⟨h9, hw⟩ := hw
  cases h9
  obtain ⟨t_5, rfl, ht_5⟩ := hw
  refine W.eq (g2 := F0 m 14 ls [.ref t_5]) rfl ?_
  refine y_know (fun hy91 hy92 hy93 hy94 => ?_)
  have hac9 : y_ac (cq + cs) s.heap.size (y_hs s.heap) (cq + cs) H := ⟨by omega, by omega⟩
  refine W.widen (k := 0) (n := 0) (by omega) (by omega) ?_
  exact W.aret (v := .ref t_5) hx hb hr (Or.inl ⟨_, rfl⟩) (Or.inr ⟨_, rfl⟩) (fun t ht hW => ⟨⟨(some t_5), (I, T, A, O, pl, (qn, sn, cq, cs)), rfl, ⟨rfl, t_5, rfl, ht_5⟩, (by dsimp only; rw [ht]; exact ⟨hP, hD, hac9⟩)⟩, hS.F ht⟩) hS.2.2 d_ArrayList_get_14
set_option maxHeartbeats 4000000 in
set_option maxRecDepth 100000 in
theorem c_L_get12 (l : Launch) (dC : Nat → ClassId) (dI : Nat → Nat → Nat) (ar : Nat → ClassId) (N0 : Nat) (z : Nat → Nat) (ad : Nat → Nat) (I : Nat → Int32) (T : Int64) (A : Nat → Nat → Int32) (O : Nat → Option Nat) (pl : va_W) (G : Nat → Nat) (C Gs : Nat → List Nat) (qn sn cq cs : Nat) (k : Nat) (sz w0 : Nat) (hmi : y_MI z ar G C Gs I O (y_L pl) (qn, sn, cq, cs)) (hk : k < sn) : Met l ({ cls := "java/util/ArrayList", name := "get", desc := "(I)Ljava/lang/Object;" } : Jvm.MethodName) ((Jvm.Cond.code ({ cls := "java/util/ArrayList", name := "get", desc := "(I)Ljava/lang/Object;" } : Jvm.MethodName) prog_28_method_20_code (2 : Nat) (Option.some (Jvm.ClassFile.FieldType.object "java/lang/Object"))) :: x_T) ({ frames := 2, cells := 0, slots := 0, locals := 43 }) (y_Pc (dC, dI) ar N0 z (y_W ad ar I T A O pl) sz w0 [.ref (ad 12), .int (Int32.ofNat k)]) (va_Qq (fun (r : Option Nat) (u : (Nat → Int32) × Int64 × (Nat → Nat → Int32) × (Nat → Option Nat) × va_W × (Nat × Nat × Nat × Nat)) => u = (I, T, A, O, pl, qn, sn, cq, cs) ∧ ∃ t, r = some t ∧ G t = 8) (fun u t => va_P (dC, dI) y_cl (y_W ad ar u.1 u.2.1 u.2.2.1 u.2.2.2.1 u.2.2.2.2.1) t.heap ∧ va_D (va_A (y_W ad ar I T A O pl) sz) (y_W ad ar u.1 u.2.1 u.2.2.1 u.2.2.2.1 u.2.2.2.2.1) ∧ y_ac (cq + cs) sz w0 (u.2.2.2.2.2.2.2.1 + u.2.2.2.2.2.2.2.2) t.heap) (va_A (y_W ad ar I T A O pl) sz)) (0) (0) (va_A (y_W ad ar I T A O pl) sz) := by
  refine Met.ofW (cc := prog_28_method_20_code) (maxL := 2) (ret := (some (.object "java/lang/Object"))) (by decide) rfl ?_
  intro p e s m args below meth c s₁ B hml hv
  obtain ⟨rfl, hsz, hN0, hP, hU, hZ, hD0, hw0⟩ := hv
  have hK := hU.2.1
  have hx := B.exec
  have hb := B.bytes
  have hr := B.returns
  have hts : ∀ w ∈ x_T, w.before ([.ref (ad 12), .int (Int32.ofNat k)] : List Value).toArray s = true := fun w h => atoms_spec (ws := (Jvm.Cond.code ({ cls := "java/util/ArrayList", name := "get", desc := "(I)Ljava/lang/Object;" } : Jvm.MethodName) prog_28_method_20_code (2 : Nat) (Option.some (Jvm.ClassFile.FieldType.object "java/lang/Object"))) :: x_T) B.pre w (List.mem_cons_of_mem _ h)
  have hown : s.vm.findClass "java/util/ArrayList" = some m.cls := findClass_of_methodNamed B.named
  have hlocks := B.notSynchronized
  subst hsz
  subst hw0
  have hD := hD0.self (sz := s.heap.size)
  have hAN := x_AN hD0 hN0
  generalize hAe : va_A (y_W ad ar I T A O pl) s.heap.size = Bq at hD hAN ⊢
  have hA : ∀ q : Nat, s.heap.size ≤ q → Bq q := fun q h => by rw [← hAe]; exact Or.inr h
  have hS : va_S Bq s.heap s.heap [] := va_S.rf
  have hl := lv_entry ([.ref (ad 12), .int (Int32.ofNat k)]) (n := 2) (Nat.le_of_ble_eq_true rfl)
  rw [lg_entry_eq]
  generalize (lg_sl ([.ref (ad 12), .int (Int32.ofNat k)]) ++ List.replicate (2 - (lg_sl ([.ref (ad 12), .int (Int32.ofNat k)])).length) Slot.unset).toArray = ls at hl ⊢
  have hl : lv_has ls 2 [(0, .ref (ad 12)), (1, .int (Int32.ofNat k))] := hl
  obtain ⟨a9, g9, ho9, hfa, hle9, h109, hz9, hel⟩ : ∃ (a9 : Nat) (g9 : Nat → Option Nat), O 2 = some a9 ∧ y_L pl a9 = some (.inl (ar 5, cs, .inr (.inr (.inr (.inr g9))))) ∧ sn ≤ cs ∧ 10 ≤ cs ∧ a9 ≠ z 0 ∧ ∀ j, j < sn → ∃ t, g9 j = some t ∧ G t = 8 := by
    rcases hmi.2.2.1.2 with ⟨h1, h2, h3⟩ | h
    · dsimp only at h2 h3; omega
    · exact h
  have hcap := hmi.2.2.2.2.1
  dsimp only at hcap
  refine lv_iload_n hx hb d_ArrayList_get_0 rfl (lv_at hl 1 rfl) ?_
  refine lv_aload_n hx hb d_ArrayList_get_1 rfl (lv_at hl 0 rfl) ?_
  refine k_g (C := "java/util/ArrayList") (F := F_List) (N := 3) hx hb hts i_List hown hK hP 12 1 (by decide) (by decide) rfl (by decide) (d := (1, 14)) rfl (hts _ k_115) (fun _ h9 => h9) (v := .int (Int32.ofNat sn)) (congrArg Value.int hmi.2.2.1.1) d_ArrayList_get_2 ?_
  have hFc := y_free hD hS hA
  refine va_calli (va_runS (As := [.int (Int32.ofNat k), .int (Int32.ofNat sn)]) (rest := []) ⟨hx, hb, hml, hown, hts⟩ (c_chk l dC dI ar N0 z ad I T A O pl k sn s.heap.size (y_hs s.heap) (by omega) (by omega)) (va_cwS 2 hts (x_goodSW k_744 k_745 k_25 k_746) rfl rfl rfl (by decide +kernel) ⟨Nat.le_of_ble_eq_true rfl, Nat.le_of_ble_eq_true rfl⟩) ⟨y_blind, fun U9 hU9 hW9 => y_pre hU9 hW9 hP hD hU hZ hS hAN hN0⟩ rfl rfl hl.1 rfl (lv_room (Nat.le_of_ble_eq_true rfl)) d_ArrayList_get_5 ⟨(by show 0 + (0) ≤ 0; omega), (by show 0 + (0) ≤ 0; omega)⟩) hS (fun q _ h => hFc q h) hFc (fun r_1 u t H1 locs ht hvm hw hB hz1 hk1 hS => ?_)
  obtain ⟨I2, T2, A2, O2, pl2, q2, s2, cq2, cs2⟩ := u
  dsimp only at hw hB
  rw [ht] at hB
  obtain ⟨hP, hD1, hac2⟩ := hB
  have hD : va_D Bq (y_W ad ar I2 T2 A2 O2 pl2) := hD1.weaken (fun _ q _ h => hFc q.1 h)
  generalize H1 = H at hP hS hac2 ⊢
  refine W.widen (k := 0) (n := 0) (by omega) (by omega) ?_
  obtain ⟨h9, hw⟩ := hw
  cases h9
  obtain rfl := hw
  refine lv_pop hx hb d_ArrayList_get_8 rfl ?_
  refine lv_aload_n hx hb d_ArrayList_get_9 rfl (lv_at hl 0 rfl) ?_
  refine lv_iload_n hx hb d_ArrayList_get_10 rfl (lv_at hl 1 rfl) ?_
  have hFc := y_free hD hS hA
  refine va_callq (va_runV (As := [.int (Int32.ofNat k)]) (rest := []) ⟨hx, hb, hml, hown, hts⟩ (c_L_ed12 l dC dI ar N0 z ad I T A O pl G C Gs qn sn cq cs k H.size (y_hs H) hmi (by omega)) (cwV 1 hts (x_goodV k_750 k_751 k_752 k_7 k_753) rfl rfl rfl (by decide +kernel) ⟨Nat.le_of_ble_eq_true rfl, Nat.le_of_ble_eq_true rfl⟩) ⟨y_blind, va_recv hK hP (ci := 0) (q0 := 12) rfl (y_W_ob (by decide) (by decide)), fun U9 hU9 hW9 => y_pre hU9 hW9 hP hD hU hZ hS hAN hN0⟩ rfl rfl hl.1 rfl (lv_room (Nat.le_of_ble_eq_true rfl)) d_ArrayList_get_11 ⟨(by show 0 + (0) ≤ 0; omega), (by show 0 + (0) ≤ 0; omega)⟩) hS (fun q _ h => hFc q h) hFc (fun r_3 u t H1 locs ht hvm hw hB hz1 hk1 hS => ?_)
  obtain ⟨I4, T4, A4, O4, pl4, q4, s4, cq4, cs4⟩ := u
  dsimp only at hw hB
  rw [ht] at hB
  obtain ⟨hP, hD1, hac4⟩ := hB
  have hD : va_D Bq (y_W ad ar I4 T4 A4 O4 pl4) := hD1.weaken (fun _ q _ h => hFc q.1 h)
  generalize H1 = H at hP hS hac4 ⊢
  refine W.widen (k := 0) (n := 0) (by omega) (by omega) ?_
  obtain ⟨h9, hw⟩ := hw
  cases h9
  obtain ⟨t_5, rfl, ht_5⟩ := hw
  refine W.eq (g2 := F0 m 14 ls [.ref t_5]) rfl ?_
  refine y_know (fun hy91 hy92 hy93 hy94 => ?_)
  have hac9 : y_ac (cq + cs) s.heap.size (y_hs s.heap) (cq + cs) H := ⟨by omega, by omega⟩
  refine W.widen (k := 0) (n := 0) (by omega) (by omega) ?_
  exact W.aret (v := .ref t_5) hx hb hr (Or.inl ⟨_, rfl⟩) (Or.inr ⟨_, rfl⟩) (fun t ht hW => ⟨⟨(some t_5), (I, T, A, O, pl, (qn, sn, cq, cs)), rfl, ⟨rfl, t_5, rfl, ht_5⟩, (by dsimp only; rw [ht]; exact ⟨hP, hD, hac9⟩)⟩, hS.F ht⟩) hS.2.2 d_ArrayList_get_14
