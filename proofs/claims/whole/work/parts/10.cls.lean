-- ===== 10.cls: calls of the class on a new object, by program =====
theorem k_13 : (Jvm.Cond.initialized "java/lang/IllegalArgumentException") ∈ x_T := x_at 13 (by decide +kernel) (by decide +kernel)
theorem k_230 : (Jvm.Cond.classLink "ChannelMachine" (31 : Nat) "java/lang/IllegalArgumentException") ∈ x_T := x_at 230 (by decide +kernel) (by decide +kernel)
theorem kn_151 : (Jvm.Cond.fieldLinkNest "ChannelMachine" (124 : Nat) "ChannelMachine$Machine" "variables" "[I" "ChannelMachine") ∈ x_nest := x_nest_at 151 (by decide +kernel) (by decide +kernel)
theorem x_tChannelMachine_35 : x_okT (vx_atS "ChannelMachine" 35 "java/lang/IllegalArgumentException" x_up2) = true := by decide +kernel
theorem d_CM_variable_0 : decode prog_1_method_8_code 0 = .ok (.iload_n 1, 1) := by decide +kernel
theorem d_CM_variable_1 : decode prog_1_method_8_code 1 = .ok (.ifCond .lt 9, 3) := by decide +kernel
theorem d_CM_variable_4 : decode prog_1_method_8_code 4 = .ok (.iload_n 1, 1) := by decide +kernel
theorem d_CM_variable_5 : decode prog_1_method_8_code 5 = .ok (.bipush 6, 2) := by decide +kernel
theorem d_CM_variable_7 : decode prog_1_method_8_code 7 = .ok (.if_icmp .lt 13, 3) := by decide +kernel
theorem d_CM_variable_10 : decode prog_1_method_8_code 10 = .ok (.new 31, 3) := by decide +kernel
theorem d_CM_variable_13 : decode prog_1_method_8_code 13 = .ok (.dup, 1) := by decide +kernel
theorem d_CM_variable_14 : decode prog_1_method_8_code 14 = .ok (.ldc 122, 2) := by decide +kernel
theorem d_CM_variable_16 : decode prog_1_method_8_code 16 = .ok (.invokespecial 35, 3) := by decide +kernel
theorem d_CM_variable_19 : decode prog_1_method_8_code 19 = .ok (.athrow, 1) := by decide +kernel
theorem d_CM_variable_20 : decode prog_1_method_8_code 20 = .ok (.aload_n 0, 1) := by decide +kernel
theorem d_CM_variable_21 : decode prog_1_method_8_code 21 = .ok (.getfield 19, 3) := by decide +kernel
theorem d_CM_variable_24 : decode prog_1_method_8_code 24 = .ok (.getfield 124, 3) := by decide +kernel
theorem d_CM_variable_27 : decode prog_1_method_8_code 27 = .ok (.iload_n 1, 1) := by decide +kernel
theorem d_CM_variable_28 : decode prog_1_method_8_code 28 = .ok (.iaload, 1) := by decide +kernel
theorem d_CM_variable_29 : decode prog_1_method_8_code 29 = .ok (.ireturn, 1) := by decide +kernel
set_option maxHeartbeats 4000000 in
set_option maxRecDepth 100000 in
theorem c_CM_variable (l : Launch) (hst : l.stackTraces = false) (dC : Nat → ClassId) (dI : Nat → Nat → Nat) (ar : Nat → ClassId) (N0 : Nat) (z : Nat) (h0 rd mc va ch gi bo qu sl sk : Nat) (v : Int32) (sz : Nat) : vx_Met l ({ cls := "ChannelMachine", name := "variable", desc := "(I)I" } : Jvm.MethodName) ((Jvm.Cond.code ({ cls := "ChannelMachine", name := "variable", desc := "(I)I" } : Jvm.MethodName) prog_1_method_8_code (2 : Nat) (Option.some Jvm.ClassFile.FieldType.int)) :: x_T) ({ frames := 6, cells := 1, slots := 6, locals := 82 }) (x_Pc (dC, dI) ar N0 z [(h0, .inr (5, [.ref rd, .ref mc, .int (-1)])), (mc, .inr (2, [.ref va, .ref ch, .ref gi, .ref bo, .ref qu, .ref sl, .ref sk, .int 0, .int 0, .int 0, .long 0])), (va, .inl (ar 0, 6, .inl (fun _ => 0)))] sz [.ref h0, .int v]) (va_Qi (fun (r : Int32) (u : Unit) => (¬ v < 0 ∧ v < 6) ∧ r = 0) (fun u t => True) (va_A [(h0, .inr (5, [.ref rd, .ref mc, .int (-1)])), (mc, .inr (2, [.ref va, .ref ch, .ref gi, .ref bo, .ref qu, .ref sl, .ref sk, .int 0, .int 0, .int 0, .long 0])), (va, .inl (ar 0, 6, .inl (fun _ => 0)))] sz)) (vx_X (fun (_ : Unit) => v < 0 ∨ ¬ v < 6) (fun E _ t => E = "java/lang/IllegalArgumentException") (va_A [(h0, .inr (5, [.ref rd, .ref mc, .int (-1)])), (mc, .inr (2, [.ref va, .ref ch, .ref gi, .ref bo, .ref qu, .ref sl, .ref sk, .int 0, .int 0, .int 0, .long 0])), (va, .inl (ar 0, 6, .inl (fun _ => 0)))] sz)) 1 6 (va_A [(h0, .inr (5, [.ref rd, .ref mc, .int (-1)])), (mc, .inr (2, [.ref va, .ref ch, .ref gi, .ref bo, .ref qu, .ref sl, .ref sk, .int 0, .int 0, .int 0, .long 0])), (va, .inl (ar 0, 6, .inl (fun _ => 0)))] sz) := by
  refine vx_ofW (cc := prog_1_method_8_code) (maxL := 2) (ret := (some .int)) (by decide) rfl ?_
  intro p e s m args below meth c s₁ B hml htb hv
  obtain ⟨rfl, hsz, hN0, hP, hU, hZ, hD0⟩ := hv
  have hK := hU.1
  have hx := B.exec
  have hb := B.bytes
  have hr := B.returns
  have hts : ∀ w ∈ x_T, w.before ([.ref h0, .int v] : List Value).toArray s = true := fun w h => atoms_spec (ws := (Jvm.Cond.code ({ cls := "ChannelMachine", name := "variable", desc := "(I)I" } : Jvm.MethodName) prog_1_method_8_code (2 : Nat) (Option.some Jvm.ClassFile.FieldType.int)) :: x_T) B.pre w (List.mem_cons_of_mem _ h)
  have hown : s.vm.findClass "ChannelMachine" = some m.cls := findClass_of_methodNamed B.named
  have hlocks := B.notSynchronized
  subst hsz
  have hD := hD0.self (sz := s.heap.size)
  have hAN := x_AN hD0 hN0
  generalize hAe : va_A [(h0, .inr (5, [.ref rd, .ref mc, .int (-1)])), (mc, .inr (2, [.ref va, .ref ch, .ref gi, .ref bo, .ref qu, .ref sl, .ref sk, .int 0, .int 0, .int 0, .long 0])), (va, .inl (ar 0, 6, .inl (fun _ => 0)))] s.heap.size = A at hD hAN ⊢
  have hA : ∀ q : Nat, s.heap.size ≤ q → A q := fun q h => by rw [← hAe]; exact Or.inr h
  have hS : va_S A s.heap s.heap [] := va_S.rf
  have hP : va_P (dC, dI) x_cl [(h0, .inr (5, [.ref rd, .ref mc, .int (-1)])), (mc, .inr (2, [.ref va, .ref ch, .ref gi, .ref bo, .ref qu, .ref sl, .ref sk, .int 0, .int 0, .int 0, .long 0])), (va, .inl (ar 0, 6, .inl (fun _ => 0)))] s.heap := hP
  have hl := lv_entry ([.ref h0, .int v]) (n := 2) (Nat.le_of_ble_eq_true rfl)
  rw [lg_entry_eq]
  generalize (lg_sl ([.ref h0, .int v]) ++ List.replicate (2 - (lg_sl ([.ref h0, .int v])).length) Slot.unset).toArray = ls at hl ⊢
  have hl : lv_has ls 2 [(0, .ref h0), (1, .int v)] := hl
  have hH0 : s.heap.size ≤ s.heap.size := Nat.le_refl _
  refine lv_iload_n hx hb d_CM_variable_0 rfl (lv_at hl 1 rfl) ?_
  refine lv_if_lt (tgt := 10) hx hb d_CM_variable_1 (by decide) (fun c1 => ?_) (fun c1 => ?_)
  · exact x_throw (A := A) hx hb hst (own := "ChannelMachine") (cls := "java/lang/IllegalArgumentException") (text := "not a variable") (ik := 31) (is := 122) (ic := 35) hown k_230 k_13 (by decide) x_tChannelMachine_35 (by decide +kernel) rfl hts hU hZ hAN hS (by rw [hml]; exact hl.1) d_CM_variable_10 d_CM_variable_13 d_CM_variable_14 d_CM_variable_16 d_CM_variable_19 htb (Nat.le_of_ble_eq_true rfl) (Nat.le_of_ble_eq_true rfl) (Nat.le_of_ble_eq_true rfl) (Nat.le_of_ble_eq_true rfl) hlocks (fun t h1 h2 h3 h4 => ⟨(), Or.inl c1, rfl, h4⟩) hS.2.2 (Nat.le_of_ble_eq_true rfl) (Nat.le_of_ble_eq_true rfl)
  · refine lv_iload_n hx hb d_CM_variable_4 rfl (lv_at hl 1 rfl) ?_
    refine lv_bipush (v := 6) hx hb d_CM_variable_5 (by decide) ?_
    refine lv_icmp_lt (tgt := 20) hx hb d_CM_variable_7 (by decide) (fun c2 => ?_) (fun c2 => ?_)
    · refine lv_aload_n hx hb d_CM_variable_20 rfl (lv_at hl 0 rfl) ?_
      refine va_get (D := (dC, dI)) (ci := 5) (v := .ref mc) (C := "ChannelMachine") (T := F_CM) (N := 3) hx hb hts i_CM hown hK hP 0 rfl rfl 1 (by decide) (hts _ k_195) (fun _ h9 => h9) rfl d_CM_variable_21 ?_
      refine va_getN (D := (dC, dI)) (ci := 2) (v := .ref va) (C := "ChannelMachine$Machine") (T := F_Machine) (N := 11) hx hb hts i_Machine hown hK hP 1 rfl rfl 0 (by decide) (hU.2.1 _ kn_151) (fun _ h9 => h9) rfl d_CM_variable_24 ?_
      refine lv_iload_n hx hb d_CM_variable_27 rfl (lv_at hl 1 rfl) ?_
      refine va_iald hx hb hK hP 2 0 rfl rfl (x_in (b := 6) (by decide) c1 c2) d_CM_variable_28 ?_
      refine vx_ret ?_
      refine W.widen (k := 1) (n := 6) (Nat.le_of_ble_eq_true rfl) (Nat.le_of_ble_eq_true rfl) ?_
      exact W.iret (v := 0) hx hb hr (fun t ht hW => ⟨⟨0, (), rfl, ⟨⟨c1, c2⟩, rfl⟩, trivial⟩, hS.F ht⟩) hS.2.2 d_CM_variable_29
    · exact x_throw (A := A) hx hb hst (own := "ChannelMachine") (cls := "java/lang/IllegalArgumentException") (text := "not a variable") (ik := 31) (is := 122) (ic := 35) hown k_230 k_13 (by decide) x_tChannelMachine_35 (by decide +kernel) rfl hts hU hZ hAN hS (by rw [hml]; exact hl.1) d_CM_variable_10 d_CM_variable_13 d_CM_variable_14 d_CM_variable_16 d_CM_variable_19 htb (Nat.le_of_ble_eq_true rfl) (Nat.le_of_ble_eq_true rfl) (Nat.le_of_ble_eq_true rfl) (Nat.le_of_ble_eq_true rfl) hlocks (fun t h1 h2 h3 h4 => ⟨(), Or.inr c2, rfl, h4⟩) hS.2.2 (Nat.le_of_ble_eq_true rfl) (Nat.le_of_ble_eq_true rfl)
