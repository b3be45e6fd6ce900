-- ===== 20.take: take of a new object, by program =====
theorem k_28 : (Jvm.Cond.initialized "java/util/NoSuchElementException") ∈ x_T := x_at 28 (by decide +kernel) (by decide +kernel)
theorem k_912 : (Jvm.Cond.codeWith ({ cls := "ChannelMachineLaw", name := "take", desc := "(LChannelMachine;[J)I" } : Jvm.MethodName) method_7_code (3 : Nat) (Option.some Jvm.ClassFile.FieldType.int) [((0 : Nat), (8 : Nat), (11 : Nat), (33 : Nat))]) ∈ x_T := x_at 912 (by decide +kernel) (by decide +kernel)
theorem k_913 : (Jvm.Cond.classLink "ChannelMachineLaw" (33 : Nat) "java/util/NoSuchElementException") ∈ x_T := x_at 913 (by decide +kernel) (by decide +kernel)
theorem k_914 : (Jvm.Cond.methodLink "ChannelMachineLaw" (30 : Nat) ({ cls := "ChannelMachine", name := "take", desc := "()I" } : Jvm.MethodName)) ∈ x_T := x_at 914 (by decide +kernel) (by decide +kernel)
theorem k_915 : (Jvm.Cond.instanceMethod ({ cls := "ChannelMachine", name := "take", desc := "()I" } : Jvm.MethodName)) ∈ x_T := x_at 915 (by decide +kernel) (by decide +kernel)
theorem k_916 : (Jvm.Cond.selects "ChannelMachine" ({ cls := "ChannelMachine", name := "take", desc := "()I" } : Jvm.MethodName) ({ cls := "ChannelMachine", name := "take", desc := "()I" } : Jvm.MethodName)) ∈ x_T := x_at 916 (by decide +kernel) (by decide +kernel)
theorem k_917 : (Jvm.Cond.code ({ cls := "ChannelMachine", name := "take", desc := "()I" } : Jvm.MethodName) prog_1_method_7_code (1 : Nat) (Option.some Jvm.ClassFile.FieldType.int)) ∈ x_T := x_at 917 (by decide +kernel) (by decide +kernel)
theorem k_918 : (Jvm.Cond.classLink "ChannelMachine" (113 : Nat) "java/util/NoSuchElementException") ∈ x_T := x_at 918 (by decide +kernel) (by decide +kernel)
theorem kn_920 : (Jvm.Cond.castable "java/util/NoSuchElementException" "java/util/NoSuchElementException") ∈ x_nest := x_nest_at 920 (by decide +kernel) (by decide +kernel)
theorem d_CM_take_0 : decode prog_1_method_7_code 0 = .ok (.aload_n 0, 1) := by decide +kernel
theorem d_CM_take_1 : decode prog_1_method_7_code 1 = .ok (.getfield 19, 3) := by decide +kernel
theorem d_CM_take_4 : decode prog_1_method_7_code 4 = .ok (.getfield 110, 3) := by decide +kernel
theorem d_CM_take_7 : decode prog_1_method_7_code 7 = .ok (.getfield 107, 3) := by decide +kernel
theorem d_CM_take_10 : decode prog_1_method_7_code 10 = .ok (.ifCond .ne 13, 3) := by decide +kernel
theorem d_CM_take_13 : decode prog_1_method_7_code 13 = .ok (.new 113, 3) := by decide +kernel
theorem d_CM_take_16 : decode prog_1_method_7_code 16 = .ok (.dup, 1) := by decide +kernel
theorem d_CM_take_17 : decode prog_1_method_7_code 17 = .ok (.ldc 115, 2) := by decide +kernel
theorem d_CM_take_19 : decode prog_1_method_7_code 19 = .ok (.invokespecial 117, 3) := by decide +kernel
theorem d_CM_take_22 : decode prog_1_method_7_code 22 = .ok (.athrow, 1) := by decide +kernel
theorem d_CM_take_23 : decode prog_1_method_7_code 23 = .ok (.aload_n 0, 1) := by decide +kernel
theorem d_CM_take_24 : decode prog_1_method_7_code 24 = .ok (.getfield 19, 3) := by decide +kernel
theorem d_CM_take_27 : decode prog_1_method_7_code 27 = .ok (.invokevirtual 118, 3) := by decide +kernel
theorem d_CM_take_30 : decode prog_1_method_7_code 30 = .ok (.ireturn, 1) := by decide +kernel
theorem d_La_take_0 : decode method_7_code 0 = .ok (.aload_n 1, 1) := by decide +kernel
theorem d_La_take_1 : decode method_7_code 1 = .ok (.iconst 0, 1) := by decide +kernel
theorem d_La_take_2 : decode method_7_code 2 = .ok (.aload_n 0, 1) := by decide +kernel
theorem d_La_take_3 : decode method_7_code 3 = .ok (.invokevirtual 30, 3) := by decide +kernel
theorem d_La_take_6 : decode method_7_code 6 = .ok (.i2l, 1) := by decide +kernel
theorem d_La_take_7 : decode method_7_code 7 = .ok (.lastore, 1) := by decide +kernel
theorem d_La_take_8 : decode method_7_code 8 = .ok (.goto 6, 3) := by decide +kernel
theorem d_La_take_11 : decode method_7_code 11 = .ok (.astore_n 2, 1) := by decide +kernel
theorem d_La_take_12 : decode method_7_code 12 = .ok (.iconst 1, 1) := by decide +kernel
theorem d_La_take_13 : decode method_7_code 13 = .ok (.ireturn, 1) := by decide +kernel
theorem d_La_take_14 : decode method_7_code 14 = .ok (.iconst 0, 1) := by decide +kernel
theorem d_La_take_15 : decode method_7_code 15 = .ok (.ireturn, 1) := by decide +kernel
theorem x_tK_117 : x_okT ((x_ownK prog_32_method_4_code 13 "ChannelMachine" 117 "java/util/NoSuchElementException" "java/lang/RuntimeException" ["java/lang/Exception"]).filter vx_no) = true := by decide +kernel
set_option maxHeartbeats 4000000 in
set_option maxRecDepth 100000 in
theorem c_CM_take (l : Launch) (hst : l.stackTraces = false) (dC : Nat → ClassId) (dI : Nat → Nat → Nat) (ar : Nat → ClassId) (N0 : Nat) (z : Nat → Nat) (h0 rd mc va ch gi bo qu sl sk : Nat) (bv : Nat) (sz : Nat) : vx_Met l ({ cls := "ChannelMachine", name := "take", desc := "()I" } : Jvm.MethodName) ((Jvm.Cond.code ({ cls := "ChannelMachine", name := "take", desc := "()I" } : Jvm.MethodName) prog_1_method_7_code (1 : Nat) (Option.some Jvm.ClassFile.FieldType.int)) :: x_T) ({ frames := 6, cells := 1, slots := 6, locals := 82 }) (x_Pc (dC, dI) ar N0 z [(h0, .inr (5, [.ref rd, .ref mc, .int (-1)])), (mc, .inr (2, [.ref va, .ref ch, .ref gi, .ref bo, .ref qu, .ref sl, .ref sk, .int 0, .int 0, .int 0, .long 0])), (bo, .inr (4, [.ref bv, .int 0]))] sz [.ref h0]) (va_Qi (fun (r : Int32) (u : Unit) => False) (fun u t => True) (va_A [(h0, .inr (5, [.ref rd, .ref mc, .int (-1)])), (mc, .inr (2, [.ref va, .ref ch, .ref gi, .ref bo, .ref qu, .ref sl, .ref sk, .int 0, .int 0, .int 0, .long 0])), (bo, .inr (4, [.ref bv, .int 0]))] sz)) (vx_X (fun (_ : Unit) => True) (fun E _ t => E = "java/util/NoSuchElementException") (va_A [(h0, .inr (5, [.ref rd, .ref mc, .int (-1)])), (mc, .inr (2, [.ref va, .ref ch, .ref gi, .ref bo, .ref qu, .ref sl, .ref sk, .int 0, .int 0, .int 0, .long 0])), (bo, .inr (4, [.ref bv, .int 0]))] sz)) 1 6 (va_A [(h0, .inr (5, [.ref rd, .ref mc, .int (-1)])), (mc, .inr (2, [.ref va, .ref ch, .ref gi, .ref bo, .ref qu, .ref sl, .ref sk, .int 0, .int 0, .int 0, .long 0])), (bo, .inr (4, [.ref bv, .int 0]))] sz) := by
  refine vx_ofW (cc := prog_1_method_7_code) (maxL := 1) (ret := (some .int)) (by decide) rfl ?_
  intro p e s m args below meth c s₁ B hml htb hv
  obtain ⟨rfl, hsz, hN0, hP, hU, hZ, hD0⟩ := hv
  have hK := hU.1
  have hx := B.exec
  have hb := B.bytes
  have hr := B.returns
  have hts : ∀ w ∈ x_T, w.before ([.ref h0] : List Value).toArray s = true := fun w h => atoms_spec (ws := (Jvm.Cond.code ({ cls := "ChannelMachine", name := "take", desc := "()I" } : Jvm.MethodName) prog_1_method_7_code (1 : Nat) (Option.some Jvm.ClassFile.FieldType.int)) :: x_T) B.pre w (List.mem_cons_of_mem _ h)
  have hown : s.vm.findClass "ChannelMachine" = some m.cls := findClass_of_methodNamed B.named
  have hlocks := B.notSynchronized
  subst hsz
  have hD := hD0.self (sz := s.heap.size)
  have hAN := x_AN hD0 hN0
  generalize hAe : va_A [(h0, .inr (5, [.ref rd, .ref mc, .int (-1)])), (mc, .inr (2, [.ref va, .ref ch, .ref gi, .ref bo, .ref qu, .ref sl, .ref sk, .int 0, .int 0, .int 0, .long 0])), (bo, .inr (4, [.ref bv, .int 0]))] s.heap.size = A at hD hAN ⊢
  have hA : ∀ q : Nat, s.heap.size ≤ q → A q := fun q h => by rw [← hAe]; exact Or.inr h
  have hS : va_S A s.heap s.heap [] := va_S.rf
  have hP : va_P (dC, dI) x_cl [(h0, .inr (5, [.ref rd, .ref mc, .int (-1)])), (mc, .inr (2, [.ref va, .ref ch, .ref gi, .ref bo, .ref qu, .ref sl, .ref sk, .int 0, .int 0, .int 0, .long 0])), (bo, .inr (4, [.ref bv, .int 0]))] s.heap := hP
  have hl := lv_entry ([.ref h0]) (n := 1) (Nat.le_of_ble_eq_true rfl)
  rw [lg_entry_eq]
  generalize (lg_sl ([.ref h0]) ++ List.replicate (1 - (lg_sl ([.ref h0])).length) Slot.unset).toArray = ls at hl ⊢
  have hl : lv_has ls 1 [(0, .ref h0)] := hl
  have hH0 : s.heap.size ≤ s.heap.size := Nat.le_refl _
  refine lv_aload_n hx hb d_CM_take_0 rfl (lv_at hl 0 rfl) ?_
  refine va_get (D := (dC, dI)) (ci := 5) (v := .ref mc) (C := "ChannelMachine") (T := F_CM) (N := 3) hx hb hts i_CM hown hK hP 0 rfl rfl 1 (by decide) (hts _ k_195) (fun _ h9 => h9) rfl d_CM_take_1 ?_
  refine va_getN (D := (dC, dI)) (ci := 2) (v := .ref bo) (C := "ChannelMachine$Machine") (T := F_Machine) (N := 11) hx hb hts i_Machine hown hK hP 1 rfl rfl 3 (by decide) (hU.2.1 _ kn_157) (fun _ h9 => h9) rfl d_CM_take_4 ?_
  refine va_getN (D := (dC, dI)) (ci := 4) (v := .int 0) (C := "ChannelMachine$Row") (T := F_Row) (N := 2) hx hb hts i_Row hown hK hP 2 rfl rfl 1 (by decide) (hU.2.1 _ kn_94) (fun _ h9 => h9) rfl d_CM_take_7 ?_
  refine lv_if_ne (tgt := 23) hx hb d_CM_take_10 (by decide) (fun c1 => absurd rfl c1) (fun _ => ?_)
  exact x_throwK (A := A) hx hb hst (own := "ChannelMachine") (cls := "java/util/NoSuchElementException") (text := "the box is empty") (up := "java/lang/RuntimeException") (names := ["java/lang/Exception"]) (ik := 113) (is := 115) (ic := 117) (kk := 13) (bt := prog_32_method_4_code) hown k_918 k_28 (by decide) x_tK_117 (by decide +kernel) rfl rfl (by decide +kernel) (by decide +kernel) (by decide +kernel) (by decide +kernel) (by decide +kernel) hts hU hZ hAN hS (by rw [hml]; exact hl.1) d_CM_take_13 d_CM_take_16 d_CM_take_17 d_CM_take_19 d_CM_take_22 htb (Nat.le_of_ble_eq_true rfl) (Nat.le_of_ble_eq_true rfl) (Nat.le_of_ble_eq_true rfl) (Nat.le_of_ble_eq_true rfl) hlocks (fun t h1 h2 h3 h4 => ⟨(), trivial, rfl, h4⟩) hS.2.2 (Nat.le_of_ble_eq_true rfl) (Nat.le_of_ble_eq_true rfl)
set_option maxHeartbeats 4000000 in
set_option maxRecDepth 100000 in
theorem c_La_take (l : Launch) (hst : l.stackTraces = false) (dC : Nat → ClassId) (dI : Nat → Nat → Nat) (ar : Nat → ClassId) (N0 : Nat) (z : Nat → Nat) (ot : Nat) (h0 rd mc va ch gi bo qu sl sk : Nat) (bv : Nat) (sz : Nat) : Met l ({ cls := "ChannelMachineLaw", name := "take", desc := "(LChannelMachine;[J)I" } : Jvm.MethodName) ((Jvm.Cond.codeWith ({ cls := "ChannelMachineLaw", name := "take", desc := "(LChannelMachine;[J)I" } : Jvm.MethodName) method_7_code (3 : Nat) (Option.some Jvm.ClassFile.FieldType.int) [((0 : Nat), (8 : Nat), (11 : Nat), (33 : Nat))]) :: x_T) ({ frames := 7, cells := 1, slots := 6, locals := 102 }) (x_Pc (dC, dI) ar N0 z [(ot, .inl (ar 2, 1, .inr (.inl (fun _ => 0)))), (h0, .inr (5, [.ref rd, .ref mc, .int (-1)])), (mc, .inr (2, [.ref va, .ref ch, .ref gi, .ref bo, .ref qu, .ref sl, .ref sk, .int 0, .int 0, .int 0, .long 0])), (bo, .inr (4, [.ref bv, .int 0]))] sz [.ref h0, .ref ot]) (va_Qi (fun (r : Int32) (u : Nat → Int64) => r = 1) (fun u t => va_P (dC, dI) x_cl [(ot, .inl (ar 2, 1, .inr (.inl u)))] t.heap ∧ va_D (va_A [(ot, .inl (ar 2, 1, .inr (.inl (fun _ => 0)))), (h0, .inr (5, [.ref rd, .ref mc, .int (-1)])), (mc, .inr (2, [.ref va, .ref ch, .ref gi, .ref bo, .ref qu, .ref sl, .ref sk, .int 0, .int 0, .int 0, .long 0])), (bo, .inr (4, [.ref bv, .int 0]))] sz) [(ot, .inl (ar 2, 1, .inr (.inl u)))]) (va_A [(ot, .inl (ar 2, 1, .inr (.inl (fun _ => 0)))), (h0, .inr (5, [.ref rd, .ref mc, .int (-1)])), (mc, .inr (2, [.ref va, .ref ch, .ref gi, .ref bo, .ref qu, .ref sl, .ref sk, .int 0, .int 0, .int 0, .long 0])), (bo, .inr (4, [.ref bv, .int 0]))] sz)) 1 6 (va_A [(ot, .inl (ar 2, 1, .inr (.inl (fun _ => 0)))), (h0, .inr (5, [.ref rd, .ref mc, .int (-1)])), (mc, .inr (2, [.ref va, .ref ch, .ref gi, .ref bo, .ref qu, .ref sl, .ref sk, .int 0, .int 0, .int 0, .long 0])), (bo, .inr (4, [.ref bv, .int 0]))] sz) := by
  refine va_MetW (cc := method_7_code) (maxL := 3) (ret := (some .int)) (by decide) rfl ?_
  intro p e s m args below meth c s₁ B hml hv
  obtain ⟨rfl, hsz, hN0, hP, hU, hZ, hD0⟩ := hv
  have hK := hU.1
  have hx := B.exec
  have hb := B.bytes
  have hr := B.returns
  have hts : ∀ w ∈ x_T, w.before ([.ref h0, .ref ot] : List Value).toArray s = true := fun w h => atoms_spec (ws := (Jvm.Cond.codeWith ({ cls := "ChannelMachineLaw", name := "take", desc := "(LChannelMachine;[J)I" } : Jvm.MethodName) method_7_code (3 : Nat) (Option.some Jvm.ClassFile.FieldType.int) [((0 : Nat), (8 : Nat), (11 : Nat), (33 : Nat))]) :: x_T) B.pre w (List.mem_cons_of_mem _ h)
  have hown : s.vm.findClass "ChannelMachineLaw" = some m.cls := findClass_of_methodNamed B.named
  have hlocks := B.notSynchronized
  subst hsz
  have hD := hD0.self (sz := s.heap.size)
  have hAN := x_AN hD0 hN0
  generalize hAe : va_A [(ot, .inl (ar 2, 1, .inr (.inl (fun _ => 0)))), (h0, .inr (5, [.ref rd, .ref mc, .int (-1)])), (mc, .inr (2, [.ref va, .ref ch, .ref gi, .ref bo, .ref qu, .ref sl, .ref sk, .int 0, .int 0, .int 0, .long 0])), (bo, .inr (4, [.ref bv, .int 0]))] s.heap.size = A at hD hAN ⊢
  have hA : ∀ q : Nat, s.heap.size ≤ q → A q := fun q h => by rw [← hAe]; exact Or.inr h
  have hS : va_S A s.heap s.heap [] := va_S.rf
  have hP : va_P (dC, dI) x_cl [(ot, .inl (ar 2, 1, .inr (.inl (fun _ => 0)))), (h0, .inr (5, [.ref rd, .ref mc, .int (-1)])), (mc, .inr (2, [.ref va, .ref ch, .ref gi, .ref bo, .ref qu, .ref sl, .ref sk, .int 0, .int 0, .int 0, .long 0])), (bo, .inr (4, [.ref bv, .int 0]))] s.heap := hP
  have hl := lv_entry ([.ref h0, .ref ot]) (n := 3) (Nat.le_of_ble_eq_true rfl)
  rw [lg_entry_eq]
  generalize (lg_sl ([.ref h0, .ref ot]) ++ List.replicate (3 - (lg_sl ([.ref h0, .ref ot])).length) Slot.unset).toArray = ls at hl ⊢
  have hl : lv_has ls 3 [(0, .ref h0), (1, .ref ot)] := hl
  have hH0 : s.heap.size ≤ s.heap.size := Nat.le_refl _
  have htab := vx_table (x := ({ cls := "ChannelMachineLaw", name := "take", desc := "(LChannelMachine;[J)I" } : Jvm.MethodName)) B (hts _ k_912)
  refine lv_aload_n hx hb d_La_take_0 rfl (lv_at hl 1 rfl) ?_
  refine lv_iconst (v := 0) hx hb d_La_take_1 (by decide) ?_
  refine lv_aload_n hx hb d_La_take_2 rfl (lv_at hl 0 rfl) ?_
  have hPc := hP.sub (ws' := [(h0, .inr (5, [.ref rd, .ref mc, .int (-1)])), (mc, .inr (2, [.ref va, .ref ch, .ref gi, .ref bo, .ref qu, .ref sl, .ref sk, .int 0, .int 0, .int 0, .long 0])), (bo, .inr (4, [.ref bv, .int 0]))]) [1, 2, 3] rfl
  have hDc := hD.sub (ws' := [(h0, .inr (5, [.ref rd, .ref mc, .int (-1)])), (mc, .inr (2, [.ref va, .ref ch, .ref gi, .ref bo, .ref qu, .ref sl, .ref sk, .int 0, .int 0, .int 0, .long 0])), (bo, .inr (4, [.ref bv, .int 0]))]) [1, 2, 3] (by decide) rfl
  have hFc := va_free (wc := [(h0, .inr (5, [.ref rd, .ref mc, .int (-1)])), (mc, .inr (2, [.ref va, .ref ch, .ref gi, .ref bo, .ref qu, .ref sl, .ref sk, .int 0, .int 0, .int 0, .long 0])), (bo, .inr (4, [.ref bv, .int 0]))]) hD hS hA [1, 2, 3] rfl
  refine vx_calli (vx_runV (As := []) (rest := [.int 0, .ref ot]) ⟨hx, hb, hml, hown, hts⟩ (c_CM_take l hst dC dI ar N0 z h0 rd mc va ch gi bo qu sl sk bv s.heap.size) (cwV 0 hts (x_goodV k_914 k_915 k_916 k_1 k_917) rfl rfl rfl (by decide +kernel) ⟨Nat.le_of_ble_eq_true rfl, Nat.le_of_ble_eq_true rfl⟩) ⟨x_blind, va_recv hK hPc (ci := 5) (q0 := 0) rfl rfl, fun U hU9 hW => x_pre hU9 hW hPc hDc hU hZ hS hAN hN0⟩ rfl rfl hl.1 rfl (lv_room (Nat.le_of_ble_eq_true rfl)) d_La_take_3 ⟨Nat.le_of_ble_eq_true rfl, Nat.le_of_ble_eq_true rfl⟩) hS (fun q _ h => hFc q h) hFc (fun q h1 h2 => hFc q h2) (fun E ce q9 u t H1 locs ht hvm hpx hbx hz1 hk1 hS hce hcv hcl => ?_) (fun r1 u2 t H1 locs ht hvm hw hB hz1 hk1 hS => ?_)
  · have hP1 : va_P (dC, dI) x_cl [] H1 := fun k q h => by simp at h
    have hD1 : va_D (va_A [(h0, .inr (5, [.ref rd, .ref mc, .int (-1)])), (mc, .inr (2, [.ref va, .ref ch, .ref gi, .ref bo, .ref qu, .ref sl, .ref sk, .int 0, .int 0, .int 0, .long 0])), (bo, .inr (4, [.ref bv, .int 0]))] s.heap.size) [] := ⟨fun i j p q h => by simp at h, fun k q h => by simp at h⟩
    obtain ⟨hP, hD⟩ := va_join (wr := [(ot, .inl (ar 2, 1, .inr (.inl (fun _ => 0))))]) (w1 := []) hP hD [1, 2, 3] [0] rfl rfl (by decide) (by decide) hk1 hFc hP1 hD1
    generalize H1 = H at hP hS hce ⊢
    have hP : va_P (dC, dI) x_cl [(ot, .inl (ar 2, 1, .inr (.inl (fun _ => 0))))] H := hP
    have hD : va_D A [(ot, .inl (ar 2, 1, .inr (.inl (fun _ => 0))))] := hD
    refine vx_widen (k := 1) (n := 6) (Nat.le_of_ble_eq_true rfl) (Nat.le_of_ble_eq_true rfl) ?_
    obtain rfl := hbx
    refine vx_catch hown [] ⟨0, 8, 11, 33⟩ [] htab (fun z h => by cases h) (by decide) (by decide) (hts _ k_913) (va_Nw.use rfl (hU.2.1 _ kn_920)) hce hcv hcl ?_
    refine lv_astore_n (lv' := [(2, .ref q9), (0, .ref h0), (1, .ref ot)]) hx hb d_La_take_11 rfl hl (by decide) rfl (fun ls hl => ?_)
    refine lv_iconst (v := 1) hx hb d_La_take_12 (by decide) ?_
    refine W.widen (k := 1) (n := 6) (Nat.le_of_ble_eq_true rfl) (Nat.le_of_ble_eq_true rfl) ?_
    exact W.iret (v := 1) hx hb hr (fun t ht hW => ⟨⟨1, (fun _ => 0), rfl, rfl, ⟨by rw [ht]; exact hP.sub (ws' := [(ot, .inl (ar 2, 1, .inr (.inl (fun _ => 0))))]) [0] rfl, hD.sub (ws' := [(ot, .inl (ar 2, 1, .inr (.inl (fun _ => 0))))]) [0] (by decide) rfl⟩⟩, hS.F ht⟩) hS.2.2 d_La_take_13
  · exact hw.elim
