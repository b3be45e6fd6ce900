-- ===== 17.type: toward type, by program =====
theorem d_CM_byteAt_0 : decode prog_1_method_3_code 0 = .ok (.lload_n 0, 1) := by decide +kernel
theorem d_CM_byteAt_1 : decode prog_1_method_3_code 1 = .ok (.bipush 8, 2) := by decide +kernel
theorem d_CM_byteAt_3 : decode prog_1_method_3_code 3 = .ok (.bipush 7, 2) := by decide +kernel
theorem d_CM_byteAt_5 : decode prog_1_method_3_code 5 = .ok (.iload_n 2, 1) := by decide +kernel
theorem d_CM_byteAt_6 : decode prog_1_method_3_code 6 = .ok (.isub, 1) := by decide +kernel
theorem d_CM_byteAt_7 : decode prog_1_method_3_code 7 = .ok (.imul, 1) := by decide +kernel
theorem d_CM_byteAt_8 : decode prog_1_method_3_code 8 = .ok (.lushr, 1) := by decide +kernel
theorem d_CM_byteAt_9 : decode prog_1_method_3_code 9 = .ok (.l2i, 1) := by decide +kernel
theorem d_CM_byteAt_10 : decode prog_1_method_3_code 10 = .ok (.sipush 255, 3) := by decide +kernel
theorem d_CM_byteAt_13 : decode prog_1_method_3_code 13 = .ok (.iand, 1) := by decide +kernel
theorem d_CM_byteAt_14 : decode prog_1_method_3_code 14 = .ok (.ireturn, 1) := by decide +kernel
/-- the byte of e that lies k bits up -/
def x_b (e : Int64) (k : Int32) : Int32 := (Int64.toUInt64 e >>> (Int64.toUInt64 (Int32.toInt64 k) &&& Int64.toUInt64 63)).toInt64.toInt32 &&& 255
set_option maxHeartbeats 4000000 in
set_option maxRecDepth 100000 in
theorem c_CM_byteAt (l : Launch) (dC : Nat → ClassId) (dI : Nat → Nat → Nat) (ar : Nat → ClassId) (N0 : Nat) (z : Nat → Nat) (eg : Int64) (i : Int32) (sz : Nat) : Met l ({ cls := "ChannelMachine", name := "byteAt", desc := "(JI)I" } : Jvm.MethodName) ((Jvm.Cond.code ({ cls := "ChannelMachine", name := "byteAt", desc := "(JI)I" } : Jvm.MethodName) prog_1_method_3_code (3 : Nat) (Option.some Jvm.ClassFile.FieldType.int)) :: x_T) ({ frames := 0, cells := 0, slots := 0, locals := 0 }) (x_Pc (dC, dI) ar N0 z [] sz [.long eg, .int i]) (va_Qi (fun (r : Int32) (u : Unit) => r = x_b eg (8 * (7 - i))) (fun u t => va_P (dC, dI) x_cl [] t.heap ∧ va_D (va_A [] sz) []) (va_A [] sz)) 0 0 (va_A [] sz) := by
  refine Met.ofW (cc := prog_1_method_3_code) (maxL := 3) (ret := (some .int)) (by decide) rfl ?_
  intro p e s m args below meth c s₁ B hml hv
  obtain ⟨rfl, hsz, hN0, hP, hU, hZ, hD0⟩ := hv
  have hK := hU.1
  have hx := B.exec
  have hb := B.bytes
  have hr := B.returns
  have hts : ∀ w ∈ x_T, w.before ([.long eg, .int i] : List Value).toArray s = true := fun w h => atoms_spec (ws := (Jvm.Cond.code ({ cls := "ChannelMachine", name := "byteAt", desc := "(JI)I" } : Jvm.MethodName) prog_1_method_3_code (3 : Nat) (Option.some Jvm.ClassFile.FieldType.int)) :: x_T) B.pre w (List.mem_cons_of_mem _ h)
  have hown : s.vm.findClass "ChannelMachine" = some m.cls := findClass_of_methodNamed B.named
  have hlocks := B.notSynchronized
  subst hsz
  have hD := hD0.self (sz := s.heap.size)
  have hAN := x_AN hD0 hN0
  generalize hAe : va_A [] s.heap.size = A at hD hAN ⊢
  have hA : ∀ q : Nat, s.heap.size ≤ q → A q := fun q h => by rw [← hAe]; exact Or.inr h
  have hS : va_S A s.heap s.heap [] := va_S.rf
  have hP : va_P (dC, dI) x_cl [] s.heap := hP
  have hl := lv_entry ([.long eg, .int i]) (n := 3) (Nat.le_of_ble_eq_true rfl)
  rw [lg_entry_eq]
  generalize (lg_sl ([.long eg, .int i]) ++ List.replicate (3 - (lg_sl ([.long eg, .int i])).length) Slot.unset).toArray = ls at hl ⊢
  have hl : lv_has ls 3 [(0, .long eg), (2, .int i)] := hl
  have hH0 : s.heap.size ≤ s.heap.size := Nat.le_refl _
  refine lv_lload_n hx hb d_CM_byteAt_0 rfl (lv_at hl 0 rfl) ?_
  refine lv_bipush (v := 8) hx hb d_CM_byteAt_1 (by decide) ?_
  refine lv_bipush (v := 7) hx hb d_CM_byteAt_3 (by decide) ?_
  refine lv_iload_n hx hb d_CM_byteAt_5 rfl (lv_at hl 1 rfl) ?_
  refine lv_isub hx hb d_CM_byteAt_6 ?_
  refine lv_imul hx hb d_CM_byteAt_7 ?_
  refine lv_lushr (v := (Int64.toUInt64 eg >>> (Int64.toUInt64 (Int32.toInt64 (8 * (7 - i))) &&& Int64.toUInt64 63)).toInt64) hx hb d_CM_byteAt_8 rfl ?_
  refine lv_l2i (v := (Int64.toInt32 (Int64.toUInt64 eg >>> (Int64.toUInt64 (Int32.toInt64 (8 * (7 - i))) &&& Int64.toUInt64 63)).toInt64)) hx hb d_CM_byteAt_9 rfl ?_
  refine lv_sipush (v := 255) hx hb d_CM_byteAt_10 (by decide) ?_
  refine lv_iand hx hb d_CM_byteAt_13 ?_
  refine W.widen (k := 0) (n := 0) (Nat.le_of_ble_eq_true rfl) (Nat.le_of_ble_eq_true rfl) ?_
  exact W.iret (v := ((Int64.toInt32 (Int64.toUInt64 eg >>> (Int64.toUInt64 (Int32.toInt64 (8 * (7 - i))) &&& Int64.toUInt64 63)).toInt64) &&& 255)) hx hb hr (fun t ht hW => ⟨⟨((Int64.toInt32 (Int64.toUInt64 eg >>> (Int64.toUInt64 (Int32.toInt64 (8 * (7 - i))) &&& Int64.toUInt64 63)).toInt64) &&& 255), (), rfl, rfl, ⟨by rw [ht]; exact hP, hD⟩⟩, hS.F ht⟩) hS.2.2 d_CM_byteAt_14
