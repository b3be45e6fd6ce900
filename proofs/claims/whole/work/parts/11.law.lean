-- ===== 11.law: the law's helpers, by program =====
theorem k_1 : (Jvm.Cond.initialized "ChannelMachine") ∈ x_T := x_at 1 (by decide +kernel) (by decide +kernel)
theorem k_221 : (Jvm.Cond.classLink "ChannelMachineLaw" (13 : Nat) "java/lang/IllegalArgumentException") ∈ x_T := x_at 221 (by decide +kernel) (by decide +kernel)
theorem k_940 : (Jvm.Cond.codeWith ({ cls := "ChannelMachineLaw", name := "variable", desc := "(LChannelMachine;I[J)I" } : Jvm.MethodName) method_8_code (4 : Nat) (Option.some Jvm.ClassFile.FieldType.int) [((0 : Nat), (9 : Nat), (12 : Nat), (13 : Nat))]) ∈ x_T := x_at 940 (by decide +kernel) (by decide +kernel)
theorem k_941 : (Jvm.Cond.methodLink "ChannelMachineLaw" (35 : Nat) ({ cls := "ChannelMachine", name := "variable", desc := "(I)I" } : Jvm.MethodName)) ∈ x_T := x_at 941 (by decide +kernel) (by decide +kernel)
theorem k_942 : (Jvm.Cond.instanceMethod ({ cls := "ChannelMachine", name := "variable", desc := "(I)I" } : Jvm.MethodName)) ∈ x_T := x_at 942 (by decide +kernel) (by decide +kernel)
theorem k_943 : (Jvm.Cond.selects "ChannelMachine" ({ cls := "ChannelMachine", name := "variable", desc := "(I)I" } : Jvm.MethodName) ({ cls := "ChannelMachine", name := "variable", desc := "(I)I" } : Jvm.MethodName)) ∈ x_T := x_at 943 (by decide +kernel) (by decide +kernel)
theorem k_944 : (Jvm.Cond.code ({ cls := "ChannelMachine", name := "variable", desc := "(I)I" } : Jvm.MethodName) prog_1_method_8_code (2 : Nat) (Option.some Jvm.ClassFile.FieldType.int)) ∈ x_T := x_at 944 (by decide +kernel) (by decide +kernel)
theorem kn_232 : (Jvm.Cond.castable "java/lang/IllegalArgumentException" "java/lang/IllegalArgumentException") ∈ x_nest := x_nest_at 232 (by decide +kernel) (by decide +kernel)
theorem d_La_variable_0 : decode method_8_code 0 = .ok (.aload_n 2, 1) := by decide +kernel
theorem d_La_variable_1 : decode method_8_code 1 = .ok (.iconst 0, 1) := by decide +kernel
theorem d_La_variable_2 : decode method_8_code 2 = .ok (.aload_n 0, 1) := by decide +kernel
theorem d_La_variable_3 : decode method_8_code 3 = .ok (.iload_n 1, 1) := by decide +kernel
theorem d_La_variable_4 : decode method_8_code 4 = .ok (.invokevirtual 35, 3) := by decide +kernel
theorem d_La_variable_7 : decode method_8_code 7 = .ok (.i2l, 1) := by decide +kernel
theorem d_La_variable_8 : decode method_8_code 8 = .ok (.lastore, 1) := by decide +kernel
theorem d_La_variable_9 : decode method_8_code 9 = .ok (.goto 6, 3) := by decide +kernel
theorem d_La_variable_12 : decode method_8_code 12 = .ok (.astore_n 3, 1) := by decide +kernel
theorem d_La_variable_13 : decode method_8_code 13 = .ok (.iconst 1, 1) := by decide +kernel
theorem d_La_variable_14 : decode method_8_code 14 = .ok (.ireturn, 1) := by decide +kernel
theorem d_La_variable_15 : decode method_8_code 15 = .ok (.iconst 0, 1) := by decide +kernel
theorem d_La_variable_16 : decode method_8_code 16 = .ok (.ireturn, 1) := by decide +kernel
set_option maxHeartbeats 4000000 in
set_option maxRecDepth 100000 in
theorem c_La_variable (l : Launch) (hst : l.stackTraces = false) (dC : Nat → ClassId) (dI : Nat → Nat → Nat) (ar : Nat → ClassId) (N0 : Nat) (z : Nat) (ot : Nat) (h0 rd mc va ch gi bo qu sl sk : Nat) (v : Int32) (sz : Nat) : Met l ({ cls := "ChannelMachineLaw", name := "variable", desc := "(LChannelMachine;I[J)I" } : Jvm.MethodName) ((Jvm.Cond.codeWith ({ cls := "ChannelMachineLaw", name := "variable", desc := "(LChannelMachine;I[J)I" } : Jvm.MethodName) method_8_code (4 : Nat) (Option.some Jvm.ClassFile.FieldType.int) [((0 : Nat), (9 : Nat), (12 : Nat), (13 : Nat))]) :: x_T) ({ frames := 7, cells := 1, slots := 6, locals := 103 }) (x_Pc (dC, dI) ar N0 z [(ot, .inl (ar 2, 1, .inr (.inl (fun _ => 0)))), (h0, .inr (5, [.ref rd, .ref mc, .int (-1)])), (mc, .inr (2, [.ref va, .ref ch, .ref gi, .ref bo, .ref qu, .ref sl, .ref sk, .int 0, .int 0, .int 0, .long 0])), (va, .inl (ar 0, 6, .inl (fun _ => 0)))] sz [.ref h0, .int v, .ref ot]) (va_Qi (fun (r : Int32) (u : Nat → Int64) => ((¬ v < 0 ∧ v < 6) ∧ r = 0 ∧ u 0 = 0) ∨ ((v < 0 ∨ ¬ v < 6) ∧ r = 1)) (fun u t => va_P (dC, dI) x_cl [(ot, .inl (ar 2, 1, .inr (.inl u)))] t.heap ∧ va_D (va_A [(ot, .inl (ar 2, 1, .inr (.inl (fun _ => 0)))), (h0, .inr (5, [.ref rd, .ref mc, .int (-1)])), (mc, .inr (2, [.ref va, .ref ch, .ref gi, .ref bo, .ref qu, .ref sl, .ref sk, .int 0, .int 0, .int 0, .long 0])), (va, .inl (ar 0, 6, .inl (fun _ => 0)))] sz) [(ot, .inl (ar 2, 1, .inr (.inl u)))]) (va_A [(ot, .inl (ar 2, 1, .inr (.inl (fun _ => 0)))), (h0, .inr (5, [.ref rd, .ref mc, .int (-1)])), (mc, .inr (2, [.ref va, .ref ch, .ref gi, .ref bo, .ref qu, .ref sl, .ref sk, .int 0, .int 0, .int 0, .long 0])), (va, .inl (ar 0, 6, .inl (fun _ => 0)))] sz)) 1 6 (va_A [(ot, .inl (ar 2, 1, .inr (.inl (fun _ => 0)))), (h0, .inr (5, [.ref rd, .ref mc, .int (-1)])), (mc, .inr (2, [.ref va, .ref ch, .ref gi, .ref bo, .ref qu, .ref sl, .ref sk, .int 0, .int 0, .int 0, .long 0])), (va, .inl (ar 0, 6, .inl (fun _ => 0)))] sz) := by
  refine va_MetW (cc := method_8_code) (maxL := 4) (ret := (some .int)) (by decide) rfl ?_
  intro p e s m args below meth c s₁ B hml hv
  obtain ⟨rfl, hsz, hN0, hP, hU, hZ, hD0⟩ := hv
  have hK := hU.1
  have hx := B.exec
  have hb := B.bytes
  have hr := B.returns
  have hts : ∀ w ∈ x_T, w.before ([.ref h0, .int v, .ref ot] : List Value).toArray s = true := fun w h => atoms_spec (ws := (Jvm.Cond.codeWith ({ cls := "ChannelMachineLaw", name := "variable", desc := "(LChannelMachine;I[J)I" } : Jvm.MethodName) method_8_code (4 : Nat) (Option.some Jvm.ClassFile.FieldType.int) [((0 : Nat), (9 : Nat), (12 : Nat), (13 : Nat))]) :: x_T) B.pre w (List.mem_cons_of_mem _ h)
  have hown : s.vm.findClass "ChannelMachineLaw" = some m.cls := findClass_of_methodNamed B.named
  have hlocks := B.notSynchronized
  subst hsz
  have hD := hD0.self (sz := s.heap.size)
  have hAN := x_AN hD0 hN0
  generalize hAe : va_A [(ot, .inl (ar 2, 1, .inr (.inl (fun _ => 0)))), (h0, .inr (5, [.ref rd, .ref mc, .int (-1)])), (mc, .inr (2, [.ref va, .ref ch, .ref gi, .ref bo, .ref qu, .ref sl, .ref sk, .int 0, .int 0, .int 0, .long 0])), (va, .inl (ar 0, 6, .inl (fun _ => 0)))] s.heap.size = A at hD hAN ⊢
  have hA : ∀ q : Nat, s.heap.size ≤ q → A q := fun q h => by rw [← hAe]; exact Or.inr h
  have hS : va_S A s.heap s.heap [] := va_S.rf
  have hP : va_P (dC, dI) x_cl [(ot, .inl (ar 2, 1, .inr (.inl (fun _ => 0)))), (h0, .inr (5, [.ref rd, .ref mc, .int (-1)])), (mc, .inr (2, [.ref va, .ref ch, .ref gi, .ref bo, .ref qu, .ref sl, .ref sk, .int 0, .int 0, .int 0, .long 0])), (va, .inl (ar 0, 6, .inl (fun _ => 0)))] s.heap := hP
  have hl := lv_entry ([.ref h0, .int v, .ref ot]) (n := 4) (Nat.le_of_ble_eq_true rfl)
  rw [lg_entry_eq]
  generalize (lg_sl ([.ref h0, .int v, .ref ot]) ++ List.replicate (4 - (lg_sl ([.ref h0, .int v, .ref ot])).length) Slot.unset).toArray = ls at hl ⊢
  have hl : lv_has ls 4 [(0, .ref h0), (1, .int v), (2, .ref ot)] := hl
  have hH0 : s.heap.size ≤ s.heap.size := Nat.le_refl _
  have htab := vx_table (x := ({ cls := "ChannelMachineLaw", name := "variable", desc := "(LChannelMachine;I[J)I" } : Jvm.MethodName)) B (hts _ k_940)
  refine lv_aload_n hx hb d_La_variable_0 rfl (lv_at hl 2 rfl) ?_
  refine lv_iconst (v := 0) hx hb d_La_variable_1 (by decide) ?_
  refine lv_aload_n hx hb d_La_variable_2 rfl (lv_at hl 0 rfl) ?_
  refine lv_iload_n hx hb d_La_variable_3 rfl (lv_at hl 1 rfl) ?_
  have hPc := hP.sub (ws' := [(h0, .inr (5, [.ref rd, .ref mc, .int (-1)])), (mc, .inr (2, [.ref va, .ref ch, .ref gi, .ref bo, .ref qu, .ref sl, .ref sk, .int 0, .int 0, .int 0, .long 0])), (va, .inl (ar 0, 6, .inl (fun _ => 0)))]) [1, 2, 3] rfl
  have hDc := hD.sub (ws' := [(h0, .inr (5, [.ref rd, .ref mc, .int (-1)])), (mc, .inr (2, [.ref va, .ref ch, .ref gi, .ref bo, .ref qu, .ref sl, .ref sk, .int 0, .int 0, .int 0, .long 0])), (va, .inl (ar 0, 6, .inl (fun _ => 0)))]) [1, 2, 3] (by decide) rfl
  have hFc := va_free (wc := [(h0, .inr (5, [.ref rd, .ref mc, .int (-1)])), (mc, .inr (2, [.ref va, .ref ch, .ref gi, .ref bo, .ref qu, .ref sl, .ref sk, .int 0, .int 0, .int 0, .long 0])), (va, .inl (ar 0, 6, .inl (fun _ => 0)))]) hD hS hA [1, 2, 3] rfl
  refine vx_calli (vx_runV (As := [.int v]) (rest := [.int 0, .ref ot]) ⟨hx, hb, hml, hown, hts⟩ (c_CM_variable l hst dC dI ar N0 z h0 rd mc va ch gi bo qu sl sk (v) s.heap.size) (cwV 1 hts (x_goodV k_941 k_942 k_943 k_1 k_944) rfl rfl rfl (by decide +kernel) ⟨Nat.le_of_ble_eq_true rfl, Nat.le_of_ble_eq_true rfl⟩) ⟨x_blind, va_recv hK hPc (ci := 5) (q0 := 0) rfl rfl, fun U hU9 hW => x_pre hU9 hW hPc hDc hU hZ hS hAN hN0⟩ rfl rfl hl.1 rfl (lv_room (Nat.le_of_ble_eq_true rfl)) d_La_variable_4 ⟨Nat.le_of_ble_eq_true rfl, Nat.le_of_ble_eq_true rfl⟩) hS (fun q _ h => hFc q h) hFc (fun q h1 h2 => hFc q h2) (fun E ce q9 u t H1 locs ht hvm hpx hbx hz1 hk1 hS hce hcv hcl => ?_) (fun r1 u2 t H1 locs ht hvm hw hB hz1 hk1 hS => ?_)
  · have hP1 : va_P (dC, dI) x_cl [] H1 := fun k q h => by simp at h
    have hD1 : va_D (va_A [(h0, .inr (5, [.ref rd, .ref mc, .int (-1)])), (mc, .inr (2, [.ref va, .ref ch, .ref gi, .ref bo, .ref qu, .ref sl, .ref sk, .int 0, .int 0, .int 0, .long 0])), (va, .inl (ar 0, 6, .inl (fun _ => 0)))] s.heap.size) [] := ⟨fun i j p q h => by simp at h, fun k q h => by simp at h⟩
    obtain ⟨hP, hD⟩ := va_join (wr := [(ot, .inl (ar 2, 1, .inr (.inl (fun _ => 0))))]) (w1 := []) hP hD [1, 2, 3] [0] rfl rfl (by decide) (by decide) hk1 hFc hP1 hD1
    generalize H1 = H at hP hS hce ⊢
    have hP : va_P (dC, dI) x_cl [(ot, .inl (ar 2, 1, .inr (.inl (fun _ => 0))))] H := hP
    have hD : va_D A [(ot, .inl (ar 2, 1, .inr (.inl (fun _ => 0))))] := hD
    refine vx_widen (k := 1) (n := 6) (Nat.le_of_ble_eq_true rfl) (Nat.le_of_ble_eq_true rfl) ?_
    obtain rfl := hbx
    refine vx_catch hown [] ⟨0, 9, 12, 13⟩ [] htab (fun z h => by cases h) (by decide) (by decide) (hts _ k_221) (va_Nw.use rfl (hU.2.1 _ kn_232)) hce hcv hcl ?_
    refine lv_astore_n (lv' := [(3, .ref q9), (0, .ref h0), (1, .int v), (2, .ref ot)]) hx hb d_La_variable_12 rfl hl (by decide) rfl (fun ls hl => ?_)
    refine lv_iconst (v := 1) hx hb d_La_variable_13 (by decide) ?_
    refine W.widen (k := 1) (n := 6) (Nat.le_of_ble_eq_true rfl) (Nat.le_of_ble_eq_true rfl) ?_
    exact W.iret (v := 1) hx hb hr (fun t ht hW => ⟨⟨1, (fun _ => 0), rfl, Or.inr ⟨hpx, rfl⟩, ⟨by rw [ht]; exact hP.sub (ws' := [(ot, .inl (ar 2, 1, .inr (.inl (fun _ => 0))))]) [0] rfl, hD.sub (ws' := [(ot, .inl (ar 2, 1, .inr (.inl (fun _ => 0))))]) [0] (by decide) rfl⟩⟩, hS.F ht⟩) hS.2.2 d_La_variable_14
  · have hP1 : va_P (dC, dI) x_cl [] t.heap := fun k q h => by simp at h
    have hD1 : va_D (va_A [(h0, .inr (5, [.ref rd, .ref mc, .int (-1)])), (mc, .inr (2, [.ref va, .ref ch, .ref gi, .ref bo, .ref qu, .ref sl, .ref sk, .int 0, .int 0, .int 0, .long 0])), (va, .inl (ar 0, 6, .inl (fun _ => 0)))] s.heap.size) [] := ⟨fun i j p q h => by simp at h, fun k q h => by simp at h⟩
    rw [ht] at hP1
    obtain ⟨hP, hD⟩ := va_join (wr := [(ot, .inl (ar 2, 1, .inr (.inl (fun _ => 0))))]) (w1 := []) hP hD [1, 2, 3] [0] rfl rfl (by decide) (by decide) hk1 hFc hP1 hD1
    generalize H1 = H at hP hS ⊢
    have hP : va_P (dC, dI) x_cl [(ot, .inl (ar 2, 1, .inr (.inl (fun _ => 0))))] H := hP
    have hD : va_D A [(ot, .inl (ar 2, 1, .inr (.inl (fun _ => 0))))] := hD
    refine W.widen (k := 1) (n := 6) (Nat.le_of_ble_eq_true rfl) (Nat.le_of_ble_eq_true rfl) ?_
    refine lv_i2l (v := (Int32.toInt64 r1)) hx hb d_La_variable_7 rfl ?_
    refine va_last hx hb hK hP hD hS 0 2 rfl rfl (i := 0) (x := (Int32.toInt64 r1)) (by unfold vp_in; decide) d_La_variable_8 (fun H locs hP hD hS => ?_)
    have hP : va_P (dC, dI) x_cl [(ot, .inl (ar 2, 1, .inr (.inl (vp_updL (fun _ => 0) (Int32.toNatClampNeg 0) (Int32.toInt64 r1)))))] H := hP
    have hD : va_D A [(ot, .inl (ar 2, 1, .inr (.inl (vp_updL (fun _ => 0) (Int32.toNatClampNeg 0) (Int32.toInt64 r1)))))] := hD
    refine lv_goto (tgt := 15) hx hb d_La_variable_9 (by decide) ?_
    refine lv_iconst (v := 0) hx hb d_La_variable_15 (by decide) ?_
    refine W.widen (k := 1) (n := 6) (Nat.le_of_ble_eq_true rfl) (Nat.le_of_ble_eq_true rfl) ?_
    exact W.iret (v := 0) hx hb hr (fun t ht hW => ⟨⟨0, (vp_updL (fun _ => 0) (Int32.toNatClampNeg 0) (Int32.toInt64 r1)), rfl, Or.inl ⟨hw.1, rfl, by rw [hw.2]; rfl⟩, ⟨by rw [ht]; exact hP.sub (ws' := [(ot, .inl (ar 2, 1, .inr (.inl (vp_updL (fun _ => 0) (Int32.toNatClampNeg 0) (Int32.toInt64 r1)))))]) [0] rfl, hD.sub (ws' := [(ot, .inl (ar 2, 1, .inr (.inl (vp_updL (fun _ => 0) (Int32.toNatClampNeg 0) (Int32.toInt64 r1)))))]) [0] (by decide) rfl⟩⟩, hS.F ht⟩) hS.2.2 d_La_variable_16
