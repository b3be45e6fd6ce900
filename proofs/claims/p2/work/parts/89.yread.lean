-- ===== 89.yread: small methods of the Reader, by program =====
theorem d_Reader_isDigit_0 : decode prog_8_method_10_code 0 = .ok (.iload_n 0, 1) := by decide +kernel
theorem d_Reader_isDigit_1 : decode prog_8_method_10_code 1 = .ok (.bipush 48, 2) := by decide +kernel
theorem d_Reader_isDigit_3 : decode prog_8_method_10_code 3 = .ok (.if_icmp .lt 13, 3) := by decide +kernel
theorem d_Reader_isDigit_6 : decode prog_8_method_10_code 6 = .ok (.iload_n 0, 1) := by decide +kernel
theorem d_Reader_isDigit_7 : decode prog_8_method_10_code 7 = .ok (.bipush 57, 2) := by decide +kernel
theorem d_Reader_isDigit_9 : decode prog_8_method_10_code 9 = .ok (.if_icmp .gt 7, 3) := by decide +kernel
theorem d_Reader_isDigit_12 : decode prog_8_method_10_code 12 = .ok (.iconst 1, 1) := by decide +kernel
theorem d_Reader_isDigit_13 : decode prog_8_method_10_code 13 = .ok (.goto 4, 3) := by decide +kernel
theorem d_Reader_isDigit_16 : decode prog_8_method_10_code 16 = .ok (.iconst 0, 1) := by decide +kernel
theorem d_Reader_isDigit_17 : decode prog_8_method_10_code 17 = .ok (.ireturn, 1) := by decide +kernel
theorem d_Reader_isVariable_0 : decode prog_8_method_11_code 0 = .ok (.iload_n 0, 1) := by decide +kernel
theorem d_Reader_isVariable_1 : decode prog_8_method_11_code 1 = .ok (.bipush 97, 2) := by decide +kernel
theorem d_Reader_isVariable_3 : decode prog_8_method_11_code 3 = .ok (.if_icmp .lt 13, 3) := by decide +kernel
theorem d_Reader_isVariable_6 : decode prog_8_method_11_code 6 = .ok (.iload_n 0, 1) := by decide +kernel
theorem d_Reader_isVariable_7 : decode prog_8_method_11_code 7 = .ok (.bipush 102, 2) := by decide +kernel
theorem d_Reader_isVariable_9 : decode prog_8_method_11_code 9 = .ok (.if_icmp .gt 7, 3) := by decide +kernel
theorem d_Reader_isVariable_12 : decode prog_8_method_11_code 12 = .ok (.iconst 1, 1) := by decide +kernel
theorem d_Reader_isVariable_13 : decode prog_8_method_11_code 13 = .ok (.goto 4, 3) := by decide +kernel
theorem d_Reader_isVariable_16 : decode prog_8_method_11_code 16 = .ok (.iconst 0, 1) := by decide +kernel
theorem d_Reader_isVariable_17 : decode prog_8_method_11_code 17 = .ok (.ireturn, 1) := by decide +kernel
set_option maxHeartbeats 4000000 in
set_option maxRecDepth 100000 in
theorem c_Rd_isDigit (l : Launch) (dC : Nat → ClassId) (dI : Nat → Nat → Nat) (ar : Nat → ClassId) (N0 : Nat) (z : Nat → Nat) (ad : Nat → Nat) (I : Nat → Int32) (T : Int64) (A : Nat → Nat → Int32) (O : Nat → Option Nat) (pl : va_W) (cv : Int32) (sz w0 : Nat) : Met l ({ cls := "ChannelMachine$Reader", name := "isDigit", desc := "(C)Z" } : Jvm.MethodName) ((Jvm.Cond.code ({ cls := "ChannelMachine$Reader", name := "isDigit", desc := "(C)Z" } : Jvm.MethodName) prog_8_method_10_code (1 : Nat) (Option.some Jvm.ClassFile.FieldType.boolean)) :: x_T) ({ frames := 0, cells := 0, slots := 0, locals := 0 }) (y_Pc (dC, dI) ar N0 z (y_W ad ar I T A O pl) sz w0 [.int cv]) (va_Qi (fun (r : Int32) (u : (Nat → Int32) × Int64 × (Nat → Nat → Int32) × (Nat → Option Nat) × va_W × (Nat × Nat × Nat × Nat)) => u = (I, T, A, O, pl, 0, 0, 0, 0) ∧ ((r = 0 ∧ (cv < 48 ∨ 57 < cv)) ∨ (r = 1 ∧ ¬ cv < 48 ∧ ¬ 57 < cv))) (fun u t => va_P (dC, dI) y_cl (y_W ad ar u.1 u.2.1 u.2.2.1 u.2.2.2.1 u.2.2.2.2.1) t.heap ∧ va_D (va_A (y_W ad ar I T A O pl) sz) (y_W ad ar u.1 u.2.1 u.2.2.1 u.2.2.2.1 u.2.2.2.2.1) ∧ True) (va_A (y_W ad ar I T A O pl) sz)) (0) (0) (va_A (y_W ad ar I T A O pl) sz) := by
  refine Met.ofW (cc := prog_8_method_10_code) (maxL := 1) (ret := (some .boolean)) (by decide) rfl ?_
  intro p e s m args below meth c s₁ B hml hv
  obtain ⟨rfl, hsz, hN0, hP, hU, hZ, hD0, hw0⟩ := hv
  have hK := hU.2.1
  have hx := B.exec
  have hb := B.bytes
  have hr := B.returns
  have hts : ∀ w ∈ x_T, w.before ([.int cv] : List Value).toArray s = true := fun w h => atoms_spec (ws := (Jvm.Cond.code ({ cls := "ChannelMachine$Reader", name := "isDigit", desc := "(C)Z" } : Jvm.MethodName) prog_8_method_10_code (1 : Nat) (Option.some Jvm.ClassFile.FieldType.boolean)) :: x_T) B.pre w (List.mem_cons_of_mem _ h)
  have hown : s.vm.findClass "ChannelMachine$Reader" = some m.cls := findClass_of_methodNamed B.named
  have hlocks := B.notSynchronized
  subst hsz
  subst hw0
  have hD := hD0.self (sz := s.heap.size)
  have hAN := x_AN hD0 hN0
  generalize hAe : va_A (y_W ad ar I T A O pl) s.heap.size = Bq at hD hAN ⊢
  have hA : ∀ q : Nat, s.heap.size ≤ q → Bq q := fun q h => by rw [← hAe]; exact Or.inr h
  have hS : va_S Bq s.heap s.heap [] := va_S.rf
  have hl := lv_entry ([.int cv]) (n := 1) (Nat.le_of_ble_eq_true rfl)
  rw [lg_entry_eq]
  generalize (lg_sl ([.int cv]) ++ List.replicate (1 - (lg_sl ([.int cv])).length) Slot.unset).toArray = ls at hl ⊢
  have hl : lv_has ls 1 [(0, .int cv)] := hl
  refine lv_iload_n hx hb d_Reader_isDigit_0 rfl (lv_at hl 0 rfl) ?_
  refine lv_bipush (v := 48) hx hb d_Reader_isDigit_1 (by decide) ?_
  refine lv_icmp_lt (tgt := 16) hx hb d_Reader_isDigit_3 (by decide) (fun c1 => ?_) (fun c1 => ?_)
  · refine lv_iconst (v := 0) hx hb d_Reader_isDigit_16 (by decide) ?_
    refine y_know (fun hy91 hy92 hy93 hy94 => ?_)
    have hac9 : True := trivial
    refine W.widen (k := 0) (n := 0) (by omega) (by omega) ?_
    exact W.zret (v := 0) hx hb hr (rfl) (fun t ht hW => ⟨⟨0, (I, T, A, O, pl, (0, 0, 0, 0)), rfl, ⟨rfl, Or.inl ⟨rfl, Or.inl c1⟩⟩, (by dsimp only; rw [ht]; exact ⟨hP, hD, hac9⟩)⟩, hS.F ht⟩) hS.2.2 d_Reader_isDigit_17
  · refine lv_iload_n hx hb d_Reader_isDigit_6 rfl (lv_at hl 0 rfl) ?_
    refine lv_bipush (v := 57) hx hb d_Reader_isDigit_7 (by decide) ?_
    refine lv_icmp_gt (tgt := 16) hx hb d_Reader_isDigit_9 (by decide) (fun c2 => ?_) (fun c2 => ?_)
    · refine lv_iconst (v := 0) hx hb d_Reader_isDigit_16 (by decide) ?_
      refine y_know (fun hy91 hy92 hy93 hy94 => ?_)
      have hac9 : True := trivial
      refine W.widen (k := 0) (n := 0) (by omega) (by omega) ?_
      exact W.zret (v := 0) hx hb hr (rfl) (fun t ht hW => ⟨⟨0, (I, T, A, O, pl, (0, 0, 0, 0)), rfl, ⟨rfl, Or.inl ⟨rfl, Or.inr c2⟩⟩, (by dsimp only; rw [ht]; exact ⟨hP, hD, hac9⟩)⟩, hS.F ht⟩) hS.2.2 d_Reader_isDigit_17
    · refine lv_iconst (v := 1) hx hb d_Reader_isDigit_12 (by decide) ?_
      refine lv_goto (tgt := 17) hx hb d_Reader_isDigit_13 (by decide) ?_
      refine y_know (fun hy91 hy92 hy93 hy94 => ?_)
      have hac9 : True := trivial
      refine W.widen (k := 0) (n := 0) (by omega) (by omega) ?_
      exact W.zret (v := 1) hx hb hr (rfl) (fun t ht hW => ⟨⟨1, (I, T, A, O, pl, (0, 0, 0, 0)), rfl, ⟨rfl, Or.inr ⟨rfl, c1, c2⟩⟩, (by dsimp only; rw [ht]; exact ⟨hP, hD, hac9⟩)⟩, hS.F ht⟩) hS.2.2 d_Reader_isDigit_17
set_option maxHeartbeats 4000000 in
set_option maxRecDepth 100000 in
theorem c_Rd_isVariable (l : Launch) (dC : Nat → ClassId) (dI : Nat → Nat → Nat) (ar : Nat → ClassId) (N0 : Nat) (z : Nat → Nat) (ad : Nat → Nat) (I : Nat → Int32) (T : Int64) (A : Nat → Nat → Int32) (O : Nat → Option Nat) (pl : va_W) (cv : Int32) (sz w0 : Nat) : Met l ({ cls := "ChannelMachine$Reader", name := "isVariable", desc := "(C)Z" } : Jvm.MethodName) ((Jvm.Cond.code ({ cls := "ChannelMachine$Reader", name := "isVariable", desc := "(C)Z" } : Jvm.MethodName) prog_8_method_11_code (1 : Nat) (Option.some Jvm.ClassFile.FieldType.boolean)) :: x_T) ({ frames := 0, cells := 0, slots := 0, locals := 0 }) (y_Pc (dC, dI) ar N0 z (y_W ad ar I T A O pl) sz w0 [.int cv]) (va_Qi (fun (r : Int32) (u : (Nat → Int32) × Int64 × (Nat → Nat → Int32) × (Nat → Option Nat) × va_W × (Nat × Nat × Nat × Nat)) => u = (I, T, A, O, pl, 0, 0, 0, 0) ∧ ((r = 0 ∧ (cv < 97 ∨ 102 < cv)) ∨ (r = 1 ∧ ¬ cv < 97 ∧ ¬ 102 < cv))) (fun u t => va_P (dC, dI) y_cl (y_W ad ar u.1 u.2.1 u.2.2.1 u.2.2.2.1 u.2.2.2.2.1) t.heap ∧ va_D (va_A (y_W ad ar I T A O pl) sz) (y_W ad ar u.1 u.2.1 u.2.2.1 u.2.2.2.1 u.2.2.2.2.1) ∧ True) (va_A (y_W ad ar I T A O pl) sz)) (0) (0) (va_A (y_W ad ar I T A O pl) sz) := by
  refine Met.ofW (cc := prog_8_method_11_code) (maxL := 1) (ret := (some .boolean)) (by decide) rfl ?_
  intro p e s m args below meth c s₁ B hml hv
  obtain ⟨rfl, hsz, hN0, hP, hU, hZ, hD0, hw0⟩ := hv
  have hK := hU.2.1
  have hx := B.exec
  have hb := B.bytes
  have hr := B.returns
  have hts : ∀ w ∈ x_T, w.before ([.int cv] : List Value).toArray s = true := fun w h => atoms_spec (ws := (Jvm.Cond.code ({ cls := "ChannelMachine$Reader", name := "isVariable", desc := "(C)Z" } : Jvm.MethodName) prog_8_method_11_code (1 : Nat) (Option.some Jvm.ClassFile.FieldType.boolean)) :: x_T) B.pre w (List.mem_cons_of_mem _ h)
  have hown : s.vm.findClass "ChannelMachine$Reader" = some m.cls := findClass_of_methodNamed B.named
  have hlocks := B.notSynchronized
  subst hsz
  subst hw0
  have hD := hD0.self (sz := s.heap.size)
  have hAN := x_AN hD0 hN0
  generalize hAe : va_A (y_W ad ar I T A O pl) s.heap.size = Bq at hD hAN ⊢
  have hA : ∀ q : Nat, s.heap.size ≤ q → Bq q := fun q h => by rw [← hAe]; exact Or.inr h
  have hS : va_S Bq s.heap s.heap [] := va_S.rf
  have hl := lv_entry ([.int cv]) (n := 1) (Nat.le_of_ble_eq_true rfl)
  rw [lg_entry_eq]
  generalize (lg_sl ([.int cv]) ++ List.replicate (1 - (lg_sl ([.int cv])).length) Slot.unset).toArray = ls at hl ⊢
  have hl : lv_has ls 1 [(0, .int cv)] := hl
  refine lv_iload_n hx hb d_Reader_isVariable_0 rfl (lv_at hl 0 rfl) ?_
  refine lv_bipush (v := 97) hx hb d_Reader_isVariable_1 (by decide) ?_
  refine lv_icmp_lt (tgt := 16) hx hb d_Reader_isVariable_3 (by decide) (fun c1 => ?_) (fun c1 => ?_)
  · refine lv_iconst (v := 0) hx hb d_Reader_isVariable_16 (by decide) ?_
    refine y_know (fun hy91 hy92 hy93 hy94 => ?_)
    have hac9 : True := trivial
    refine W.widen (k := 0) (n := 0) (by omega) (by omega) ?_
    exact W.zret (v := 0) hx hb hr (rfl) (fun t ht hW => ⟨⟨0, (I, T, A, O, pl, (0, 0, 0, 0)), rfl, ⟨rfl, Or.inl ⟨rfl, Or.inl c1⟩⟩, (by dsimp only; rw [ht]; exact ⟨hP, hD, hac9⟩)⟩, hS.F ht⟩) hS.2.2 d_Reader_isVariable_17
  · refine lv_iload_n hx hb d_Reader_isVariable_6 rfl (lv_at hl 0 rfl) ?_
    refine lv_bipush (v := 102) hx hb d_Reader_isVariable_7 (by decide) ?_
    refine lv_icmp_gt (tgt := 16) hx hb d_Reader_isVariable_9 (by decide) (fun c2 => ?_) (fun c2 => ?_)
    · refine lv_iconst (v := 0) hx hb d_Reader_isVariable_16 (by decide) ?_
      refine y_know (fun hy91 hy92 hy93 hy94 => ?_)
      have hac9 : True := trivial
      refine W.widen (k := 0) (n := 0) (by omega) (by omega) ?_
      exact W.zret (v := 0) hx hb hr (rfl) (fun t ht hW => ⟨⟨0, (I, T, A, O, pl, (0, 0, 0, 0)), rfl, ⟨rfl, Or.inl ⟨rfl, Or.inr c2⟩⟩, (by dsimp only; rw [ht]; exact ⟨hP, hD, hac9⟩)⟩, hS.F ht⟩) hS.2.2 d_Reader_isVariable_17
    · refine lv_iconst (v := 1) hx hb d_Reader_isVariable_12 (by decide) ?_
      refine lv_goto (tgt := 17) hx hb d_Reader_isVariable_13 (by decide) ?_
      refine y_know (fun hy91 hy92 hy93 hy94 => ?_)
      have hac9 : True := trivial
      refine W.widen (k := 0) (n := 0) (by omega) (by omega) ?_
      exact W.zret (v := 1) hx hb hr (rfl) (fun t ht hW => ⟨⟨1, (I, T, A, O, pl, (0, 0, 0, 0)), rfl, ⟨rfl, Or.inr ⟨rfl, c1, c2⟩⟩, (by dsimp only; rw [ht]; exact ⟨hP, hD, hac9⟩)⟩, hS.F ht⟩) hS.2.2 d_Reader_isVariable_17
