-- ===== 32.small: small methods of the reference, by program =====
theorem k_9 : (Jvm.Cond.initialized "ChannelMachineModel") ∈ x_T := x_at 9 (by decide +kernel) (by decide +kernel)
theorem k_967 : (Jvm.Cond.fieldLink "ChannelMachineModel" (7 : Nat) "ChannelMachineModel" "text" "[I") ∈ x_T := x_at 967 (by decide +kernel) (by decide +kernel)
theorem k_969 : (Jvm.Cond.fieldLink "ChannelMachineModel" (16 : Nat) "ChannelMachineModel" "fresh" "[I") ∈ x_T := x_at 969 (by decide +kernel) (by decide +kernel)
theorem k_971 : (Jvm.Cond.fieldLink "ChannelMachineModel" (114 : Nat) "ChannelMachineModel" "size" "I") ∈ x_T := x_at 971 (by decide +kernel) (by decide +kernel)
theorem k_973 : (Jvm.Cond.fieldLink "ChannelMachineModel" (121 : Nat) "ChannelMachineModel" "pos" "I") ∈ x_T := x_at 973 (by decide +kernel) (by decide +kernel)
theorem k_974 : (Jvm.Cond.fieldLink "ChannelMachineModel" (128 : Nat) "ChannelMachineModel" "at" "I") ∈ x_T := x_at 974 (by decide +kernel) (by decide +kernel)
theorem k_977 : (Jvm.Cond.fieldLink "ChannelMachineModel" (135 : Nat) "ChannelMachineModel" "operators" "I") ∈ x_T := x_at 977 (by decide +kernel) (by decide +kernel)
theorem k_982 : (Jvm.Cond.fieldLink "ChannelMachineModel" (38 : Nat) "ChannelMachineModel" "operator" "[I") ∈ x_T := x_at 982 (by decide +kernel) (by decide +kernel)
theorem k_983 : (Jvm.Cond.fieldLink "ChannelMachineModel" (41 : Nat) "ChannelMachineModel" "ranks" "[I") ∈ x_T := x_at 983 (by decide +kernel) (by decide +kernel)
theorem k_1113 : (Jvm.Cond.methodLink "ChannelMachineModel" (106 : Nat) ({ cls := "ChannelMachineModel", name := "in", desc := "(III)Z" } : Jvm.MethodName)) ∈ x_T := x_at 1113 (by decide +kernel) (by decide +kernel)
theorem k_1114 : (Jvm.Cond.static ({ cls := "ChannelMachineModel", name := "in", desc := "(III)Z" } : Jvm.MethodName)) ∈ x_T := x_at 1114 (by decide +kernel) (by decide +kernel)
theorem k_1115 : (Jvm.Cond.code ({ cls := "ChannelMachineModel", name := "in", desc := "(III)Z" } : Jvm.MethodName) prog_12_method_3_code (3 : Nat) (Option.some Jvm.ClassFile.FieldType.boolean)) ∈ x_T := x_at 1115 (by decide +kernel) (by decide +kernel)
theorem k_1140 : (Jvm.Cond.methodLink "ChannelMachineModel" (124 : Nat) ({ cls := "ChannelMachineModel", name := "look", desc := "()I" } : Jvm.MethodName)) ∈ x_T := x_at 1140 (by decide +kernel) (by decide +kernel)
theorem k_1142 : (Jvm.Cond.instanceMethod ({ cls := "ChannelMachineModel", name := "look", desc := "()I" } : Jvm.MethodName)) ∈ x_T := x_at 1142 (by decide +kernel) (by decide +kernel)
theorem k_1143 : (Jvm.Cond.code ({ cls := "ChannelMachineModel", name := "look", desc := "()I" } : Jvm.MethodName) prog_12_method_7_code (1 : Nat) (Option.some Jvm.ClassFile.FieldType.int)) ∈ x_T := x_at 1143 (by decide +kernel) (by decide +kernel)
theorem k_1148 : (Jvm.Cond.methodLink "ChannelMachineModel" (131 : Nat) ({ cls := "ChannelMachineModel", name := "emit", desc := "(I)V" } : Jvm.MethodName)) ∈ x_T := x_at 1148 (by decide +kernel) (by decide +kernel)
theorem k_1150 : (Jvm.Cond.instanceMethod ({ cls := "ChannelMachineModel", name := "emit", desc := "(I)V" } : Jvm.MethodName)) ∈ x_T := x_at 1150 (by decide +kernel) (by decide +kernel)
theorem k_1151 : (Jvm.Cond.code ({ cls := "ChannelMachineModel", name := "emit", desc := "(I)V" } : Jvm.MethodName) prog_12_method_9_code (2 : Nat) (Option.none : Option Jvm.ClassFile.FieldType)) ∈ x_T := x_at 1151 (by decide +kernel) (by decide +kernel)
theorem kp_53 : (Jvm.Cond.selects "ChannelMachineModel" ({ cls := "ChannelMachineModel", name := "look", desc := "()I" } : Jvm.MethodName) ({ cls := "ChannelMachineModel", name := "look", desc := "()I" } : Jvm.MethodName)) ∈ x_T := x_sel (q := (({ cls := "ChannelMachineModel", name := "look", desc := "()I" } : Jvm.MethodName), 45)) 53 (by decide +kernel) (by decide +kernel)
theorem kp_55 : (Jvm.Cond.selects "ChannelMachineModel" ({ cls := "ChannelMachineModel", name := "emit", desc := "(I)V" } : Jvm.MethodName) ({ cls := "ChannelMachineModel", name := "emit", desc := "(I)V" } : Jvm.MethodName)) ∈ x_T := x_sel (q := (({ cls := "ChannelMachineModel", name := "emit", desc := "(I)V" } : Jvm.MethodName), 45)) 55 (by decide +kernel) (by decide +kernel)
theorem d_Mo_in_0 : decode prog_12_method_3_code 0 = .ok (.iload_n 0, 1) := by decide +kernel
theorem d_Mo_in_1 : decode prog_12_method_3_code 1 = .ok (.iload_n 1, 1) := by decide +kernel
theorem d_Mo_in_2 : decode prog_12_method_3_code 2 = .ok (.if_icmp .lt 12, 3) := by decide +kernel
theorem d_Mo_in_5 : decode prog_12_method_3_code 5 = .ok (.iload_n 0, 1) := by decide +kernel
theorem d_Mo_in_6 : decode prog_12_method_3_code 6 = .ok (.iload_n 2, 1) := by decide +kernel
theorem d_Mo_in_7 : decode prog_12_method_3_code 7 = .ok (.if_icmp .gt 7, 3) := by decide +kernel
theorem d_Mo_in_10 : decode prog_12_method_3_code 10 = .ok (.iconst 1, 1) := by decide +kernel
theorem d_Mo_in_11 : decode prog_12_method_3_code 11 = .ok (.goto 4, 3) := by decide +kernel
theorem d_Mo_in_14 : decode prog_12_method_3_code 14 = .ok (.iconst 0, 1) := by decide +kernel
theorem d_Mo_in_15 : decode prog_12_method_3_code 15 = .ok (.ireturn, 1) := by decide +kernel
theorem d_Mo_look_0 : decode prog_12_method_7_code 0 = .ok (.aload_n 0, 1) := by decide +kernel
theorem d_Mo_look_1 : decode prog_12_method_7_code 1 = .ok (.getfield 121, 3) := by decide +kernel
theorem d_Mo_look_4 : decode prog_12_method_7_code 4 = .ok (.aload_n 0, 1) := by decide +kernel
theorem d_Mo_look_5 : decode prog_12_method_7_code 5 = .ok (.getfield 114, 3) := by decide +kernel
theorem d_Mo_look_8 : decode prog_12_method_7_code 8 = .ok (.if_icmp .ge 15, 3) := by decide +kernel
theorem d_Mo_look_11 : decode prog_12_method_7_code 11 = .ok (.aload_n 0, 1) := by decide +kernel
theorem d_Mo_look_12 : decode prog_12_method_7_code 12 = .ok (.getfield 7, 3) := by decide +kernel
theorem d_Mo_look_15 : decode prog_12_method_7_code 15 = .ok (.aload_n 0, 1) := by decide +kernel
theorem d_Mo_look_16 : decode prog_12_method_7_code 16 = .ok (.getfield 121, 3) := by decide +kernel
theorem d_Mo_look_19 : decode prog_12_method_7_code 19 = .ok (.iaload, 1) := by decide +kernel
theorem d_Mo_look_20 : decode prog_12_method_7_code 20 = .ok (.goto 4, 3) := by decide +kernel
theorem d_Mo_look_23 : decode prog_12_method_7_code 23 = .ok (.iconst 0, 1) := by decide +kernel
theorem d_Mo_look_24 : decode prog_12_method_7_code 24 = .ok (.ireturn, 1) := by decide +kernel
theorem d_Mo_passes_0 : decode prog_12_method_8_code 0 = .ok (.aload_n 0, 1) := by decide +kernel
theorem d_Mo_passes_1 : decode prog_12_method_8_code 1 = .ok (.invokevirtual 124, 3) := by decide +kernel
theorem d_Mo_passes_4 : decode prog_12_method_8_code 4 = .ok (.iload_n 1, 1) := by decide +kernel
theorem d_Mo_passes_5 : decode prog_12_method_8_code 5 = .ok (.if_icmp .eq 5, 3) := by decide +kernel
theorem d_Mo_passes_8 : decode prog_12_method_8_code 8 = .ok (.iconst 0, 1) := by decide +kernel
theorem d_Mo_passes_9 : decode prog_12_method_8_code 9 = .ok (.ireturn, 1) := by decide +kernel
theorem d_Mo_passes_10 : decode prog_12_method_8_code 10 = .ok (.aload_n 0, 1) := by decide +kernel
theorem d_Mo_passes_11 : decode prog_12_method_8_code 11 = .ok (.dup, 1) := by decide +kernel
theorem d_Mo_passes_12 : decode prog_12_method_8_code 12 = .ok (.getfield 121, 3) := by decide +kernel
theorem d_Mo_passes_15 : decode prog_12_method_8_code 15 = .ok (.iconst 1, 1) := by decide +kernel
theorem d_Mo_passes_16 : decode prog_12_method_8_code 16 = .ok (.iadd, 1) := by decide +kernel
theorem d_Mo_passes_17 : decode prog_12_method_8_code 17 = .ok (.putfield 121, 3) := by decide +kernel
theorem d_Mo_passes_20 : decode prog_12_method_8_code 20 = .ok (.iconst 1, 1) := by decide +kernel
theorem d_Mo_passes_21 : decode prog_12_method_8_code 21 = .ok (.ireturn, 1) := by decide +kernel
theorem d_Mo_emit_0 : decode prog_12_method_9_code 0 = .ok (.aload_n 0, 1) := by decide +kernel
theorem d_Mo_emit_1 : decode prog_12_method_9_code 1 = .ok (.getfield 16, 3) := by decide +kernel
theorem d_Mo_emit_4 : decode prog_12_method_9_code 4 = .ok (.aload_n 0, 1) := by decide +kernel
theorem d_Mo_emit_5 : decode prog_12_method_9_code 5 = .ok (.getfield 128, 3) := by decide +kernel
theorem d_Mo_emit_8 : decode prog_12_method_9_code 8 = .ok (.iload_n 1, 1) := by decide +kernel
theorem d_Mo_emit_9 : decode prog_12_method_9_code 9 = .ok (.iastore, 1) := by decide +kernel
theorem d_Mo_emit_10 : decode prog_12_method_9_code 10 = .ok (.aload_n 0, 1) := by decide +kernel
theorem d_Mo_emit_11 : decode prog_12_method_9_code 11 = .ok (.dup, 1) := by decide +kernel
theorem d_Mo_emit_12 : decode prog_12_method_9_code 12 = .ok (.getfield 128, 3) := by decide +kernel
theorem d_Mo_emit_15 : decode prog_12_method_9_code 15 = .ok (.iconst 1, 1) := by decide +kernel
theorem d_Mo_emit_16 : decode prog_12_method_9_code 16 = .ok (.iadd, 1) := by decide +kernel
theorem d_Mo_emit_17 : decode prog_12_method_9_code 17 = .ok (.putfield 128, 3) := by decide +kernel
theorem d_Mo_emit_20 : decode prog_12_method_9_code 20 = .ok (.return_, 1) := by decide +kernel
theorem d_Mo_emit2_0 : decode prog_12_method_10_code 0 = .ok (.aload_n 0, 1) := by decide +kernel
theorem d_Mo_emit2_1 : decode prog_12_method_10_code 1 = .ok (.iload_n 1, 1) := by decide +kernel
theorem d_Mo_emit2_2 : decode prog_12_method_10_code 2 = .ok (.invokevirtual 131, 3) := by decide +kernel
theorem d_Mo_emit2_5 : decode prog_12_method_10_code 5 = .ok (.aload_n 0, 1) := by decide +kernel
theorem d_Mo_emit2_6 : decode prog_12_method_10_code 6 = .ok (.iload_n 2, 1) := by decide +kernel
theorem d_Mo_emit2_7 : decode prog_12_method_10_code 7 = .ok (.invokevirtual 131, 3) := by decide +kernel
theorem d_Mo_emit2_10 : decode prog_12_method_10_code 10 = .ok (.return_, 1) := by decide +kernel
theorem d_Mo_isVariable_0 : decode prog_12_method_11_code 0 = .ok (.aload_n 0, 1) := by decide +kernel
theorem d_Mo_isVariable_1 : decode prog_12_method_11_code 1 = .ok (.invokevirtual 124, 3) := by decide +kernel
theorem d_Mo_isVariable_4 : decode prog_12_method_11_code 4 = .ok (.bipush 97, 2) := by decide +kernel
theorem d_Mo_isVariable_6 : decode prog_12_method_11_code 6 = .ok (.bipush 102, 2) := by decide +kernel
theorem d_Mo_isVariable_8 : decode prog_12_method_11_code 8 = .ok (.invokestatic 106, 3) := by decide +kernel
theorem d_Mo_isVariable_11 : decode prog_12_method_11_code 11 = .ok (.ireturn, 1) := by decide +kernel
theorem d_Mo_push_0 : decode prog_12_method_14_code 0 = .ok (.aload_n 0, 1) := by decide +kernel
theorem d_Mo_push_1 : decode prog_12_method_14_code 1 = .ok (.getfield 38, 3) := by decide +kernel
theorem d_Mo_push_4 : decode prog_12_method_14_code 4 = .ok (.aload_n 0, 1) := by decide +kernel
theorem d_Mo_push_5 : decode prog_12_method_14_code 5 = .ok (.getfield 135, 3) := by decide +kernel
theorem d_Mo_push_8 : decode prog_12_method_14_code 8 = .ok (.iload_n 1, 1) := by decide +kernel
theorem d_Mo_push_9 : decode prog_12_method_14_code 9 = .ok (.iastore, 1) := by decide +kernel
theorem d_Mo_push_10 : decode prog_12_method_14_code 10 = .ok (.aload_n 0, 1) := by decide +kernel
theorem d_Mo_push_11 : decode prog_12_method_14_code 11 = .ok (.getfield 41, 3) := by decide +kernel
theorem d_Mo_push_14 : decode prog_12_method_14_code 14 = .ok (.aload_n 0, 1) := by decide +kernel
theorem d_Mo_push_15 : decode prog_12_method_14_code 15 = .ok (.getfield 135, 3) := by decide +kernel
theorem d_Mo_push_18 : decode prog_12_method_14_code 18 = .ok (.iload_n 2, 1) := by decide +kernel
theorem d_Mo_push_19 : decode prog_12_method_14_code 19 = .ok (.iastore, 1) := by decide +kernel
theorem d_Mo_push_20 : decode prog_12_method_14_code 20 = .ok (.aload_n 0, 1) := by decide +kernel
theorem d_Mo_push_21 : decode prog_12_method_14_code 21 = .ok (.dup, 1) := by decide +kernel
theorem d_Mo_push_22 : decode prog_12_method_14_code 22 = .ok (.getfield 135, 3) := by decide +kernel
theorem d_Mo_push_25 : decode prog_12_method_14_code 25 = .ok (.iconst 1, 1) := by decide +kernel
theorem d_Mo_push_26 : decode prog_12_method_14_code 26 = .ok (.iadd, 1) := by decide +kernel
theorem d_Mo_push_27 : decode prog_12_method_14_code 27 = .ok (.putfield 135, 3) := by decide +kernel
theorem d_Mo_push_30 : decode prog_12_method_14_code 30 = .ok (.return_, 1) := by decide +kernel
/-- the character at P of a text of S characters, 0 behind it -/
def x_lk (t : Nat → Int32) (P S : Nat) : Int32 := if P < S then t P else 0
def x_isv (c : Int32) : Prop := ¬ c < 97 ∧ ¬ 102 < c
def x_rank (c : Int32) : Int32 := if c = 60 ∨ c = 61 then 1 else if c = 43 ∨ c = 45 then 2 else if c = 42 ∨ c = 47 ∨ c = 37 then 3 else 0
theorem upd_upd {f : Nat → Int32} {k : Nat} {x y : Int32} : upd (upd f k x) k y = upd f k y := by funext j; by_cases h : j = k <;> simp [upd, h]
theorem m_up_up {A : Nat → Nat → Int32} {k : Nat} {f g : Nat → Int32} : m_up (m_up A k f) k g = m_up A k g := by funext j; by_cases h : j = k <;> simp [m_up, h]
theorem m_up_s {A : Nat → Nat → Int32} {k : Nat} {f : Nat → Int32} : m_up A k f k = f := by simp [m_up]
set_option maxHeartbeats 4000000 in
set_option maxRecDepth 100000 in
theorem c_Mo_in (l : Launch) (dC : Nat → ClassId) (dI : Nat → Nat → Nat) (ar : Nat → ClassId) (N0 : Nat) (z : Nat → Nat) (v a b : Int32) (sz : Nat) : Met l ({ cls := "ChannelMachineModel", name := "in", desc := "(III)Z" } : Jvm.MethodName) ((Jvm.Cond.code ({ cls := "ChannelMachineModel", name := "in", desc := "(III)Z" } : Jvm.MethodName) prog_12_method_3_code (3 : Nat) (Option.some Jvm.ClassFile.FieldType.boolean)) :: x_T) ({ frames := 0, cells := 0, slots := 0, locals := 0 }) (x_Pc (dC, dI) ar N0 z [] sz [.int v, .int a, .int b]) (va_Qi (fun (r : Int32) (u : Unit) => (¬ v < a ∧ ¬ b < v ∧ r = 1) ∨ ((v < a ∨ b < v) ∧ r = 0)) (fun u t => va_P (dC, dI) x_cl [] t.heap ∧ va_D (va_A [] sz) []) (va_A [] sz)) 0 0 (va_A [] sz) := by
  refine Met.ofW (cc := prog_12_method_3_code) (maxL := 3) (ret := (some .boolean)) (by decide) rfl ?_
  intro p e s m args below meth c s₁ B hml hv
  obtain ⟨rfl, hsz, hN0, hP, hU, hZ, hD0⟩ := hv
  have hK := hU.1
  have hx := B.exec
  have hb := B.bytes
  have hr := B.returns
  have hts : ∀ w ∈ x_T, w.before ([.int v, .int a, .int b] : List Value).toArray s = true := fun w h => atoms_spec (ws := (Jvm.Cond.code ({ cls := "ChannelMachineModel", name := "in", desc := "(III)Z" } : Jvm.MethodName) prog_12_method_3_code (3 : Nat) (Option.some Jvm.ClassFile.FieldType.boolean)) :: x_T) B.pre w (List.mem_cons_of_mem _ h)
  have hown : s.vm.findClass "ChannelMachineModel" = some m.cls := findClass_of_methodNamed B.named
  have hlocks := B.notSynchronized
  subst hsz
  have hD := hD0.self (sz := s.heap.size)
  have hAN := x_AN hD0 hN0
  generalize hAe : va_A [] s.heap.size = A at hD hAN ⊢
  have hA : ∀ q : Nat, s.heap.size ≤ q → A q := fun q h => by rw [← hAe]; exact Or.inr h
  have hS : va_S A s.heap s.heap [] := va_S.rf
  have hP : va_P (dC, dI) x_cl [] s.heap := hP
  have hl := lv_entry ([.int v, .int a, .int b]) (n := 3) (Nat.le_of_ble_eq_true rfl)
  rw [lg_entry_eq]
  generalize (lg_sl ([.int v, .int a, .int b]) ++ List.replicate (3 - (lg_sl ([.int v, .int a, .int b])).length) Slot.unset).toArray = ls at hl ⊢
  have hl : lv_has ls 3 [(0, .int v), (1, .int a), (2, .int b)] := hl
  have hH0 : s.heap.size ≤ s.heap.size := Nat.le_refl _
  refine lv_iload_n hx hb d_Mo_in_0 rfl (lv_at hl 0 rfl) ?_
  refine lv_iload_n hx hb d_Mo_in_1 rfl (lv_at hl 1 rfl) ?_
  refine lv_icmp_lt (tgt := 14) hx hb d_Mo_in_2 (by decide) (fun c1 => ?_) (fun c1 => ?_)
  · refine lv_iconst (v := 0) hx hb d_Mo_in_14 (by decide) ?_
    refine W.widen (k := 0) (n := 0) (Nat.le_of_ble_eq_true rfl) (Nat.le_of_ble_eq_true rfl) ?_
    exact W.zret (v := 0) hx hb hr (rfl) (fun t ht hW => ⟨⟨0, (), rfl, Or.inr ⟨Or.inl c1, rfl⟩, ⟨by rw [ht]; exact hP, hD⟩⟩, hS.F ht⟩) hS.2.2 d_Mo_in_15
  · refine lv_iload_n hx hb d_Mo_in_5 rfl (lv_at hl 0 rfl) ?_
    refine lv_iload_n hx hb d_Mo_in_6 rfl (lv_at hl 2 rfl) ?_
    refine lv_icmp_gt (tgt := 14) hx hb d_Mo_in_7 (by decide) (fun c2 => ?_) (fun c2 => ?_)
    · refine lv_iconst (v := 0) hx hb d_Mo_in_14 (by decide) ?_
      refine W.widen (k := 0) (n := 0) (Nat.le_of_ble_eq_true rfl) (Nat.le_of_ble_eq_true rfl) ?_
      exact W.zret (v := 0) hx hb hr (rfl) (fun t ht hW => ⟨⟨0, (), rfl, Or.inr ⟨Or.inr c2, rfl⟩, ⟨by rw [ht]; exact hP, hD⟩⟩, hS.F ht⟩) hS.2.2 d_Mo_in_15
    · refine lv_iconst (v := 1) hx hb d_Mo_in_10 (by decide) ?_
      refine lv_goto (tgt := 15) hx hb d_Mo_in_11 (by decide) ?_
      refine W.widen (k := 0) (n := 0) (Nat.le_of_ble_eq_true rfl) (Nat.le_of_ble_eq_true rfl) ?_
      exact W.zret (v := 1) hx hb hr (rfl) (fun t ht hW => ⟨⟨1, (), rfl, Or.inl ⟨c1, c2, rfl⟩, ⟨by rw [ht]; exact hP, hD⟩⟩, hS.F ht⟩) hS.2.2 d_Mo_in_15
set_option maxHeartbeats 4000000 in
set_option maxRecDepth 100000 in
theorem m_look (l : Launch) (dC : Nat → ClassId) (dI : Nat → Nat → Nat) (ar : Nat → ClassId) (N0 : Nat) (z : Nat → Nat) (h0 : Nat) (ad : Nat → Nat) (I : Nat → Int32) (T : Int64) (A : Nat → Nat → Int32) (U : Nat → Int64) (P S : Nat) (sz : Nat) (h6 : I 6 = Int32.ofNat P) (h4 : I 4 = Int32.ofNat S) (hP9 : P ≤ 72) (hS9 : S ≤ 72) : Met l ({ cls := "ChannelMachineModel", name := "look", desc := "()I" } : Jvm.MethodName) ((Jvm.Cond.code ({ cls := "ChannelMachineModel", name := "look", desc := "()I" } : Jvm.MethodName) prog_12_method_7_code (1 : Nat) (Option.some Jvm.ClassFile.FieldType.int)) :: x_T) ({ frames := 0, cells := 0, slots := 0, locals := 0 }) (x_Pc (dC, dI) ar N0 z (m_W h0 ad ar I T A U) sz [.ref h0]) (va_Qi (fun (r : Int32) (u : (Nat → Int32) × Int64 × (Nat → Nat → Int32) × (Nat → Int64)) => u = (I, T, A, U) ∧ r = x_lk (A 0) P S) (fun u t => va_P (dC, dI) x_cl (m_W h0 ad ar u.1 u.2.1 u.2.2.1 u.2.2.2) t.heap) (va_A (m_W h0 ad ar I T A U) sz)) 0 0 (va_A (m_W h0 ad ar I T A U) sz) := by
  refine Met.ofW (cc := prog_12_method_7_code) (maxL := 1) (ret := (some .int)) (by decide) rfl ?_
  intro p e s m args below meth c s₁ B hml hv
  obtain ⟨rfl, hsz, hN0, hP, hU, hZ, hD0⟩ := hv
  have hK := hU.1
  have hx := B.exec
  have hb := B.bytes
  have hr := B.returns
  have hts : ∀ w ∈ x_T, w.before ([.ref h0] : List Value).toArray s = true := fun w h => atoms_spec (ws := (Jvm.Cond.code ({ cls := "ChannelMachineModel", name := "look", desc := "()I" } : Jvm.MethodName) prog_12_method_7_code (1 : Nat) (Option.some Jvm.ClassFile.FieldType.int)) :: x_T) B.pre w (List.mem_cons_of_mem _ h)
  have hown : s.vm.findClass "ChannelMachineModel" = some m.cls := findClass_of_methodNamed B.named
  have hlocks := B.notSynchronized
  subst hsz
  have hD := hD0.self (sz := s.heap.size)
  have hAN := x_AN hD0 hN0
  generalize hAe : va_A (m_W h0 ad ar I T A U) s.heap.size = Bq at hD hAN ⊢
  have hA : ∀ q : Nat, s.heap.size ≤ q → Bq q := fun q h => by rw [← hAe]; exact Or.inr h
  have hS : va_S Bq s.heap s.heap [] := va_S.rf
  have hl := lv_entry ([.ref h0]) (n := 1) (Nat.le_of_ble_eq_true rfl)
  rw [lg_entry_eq]
  generalize (lg_sl ([.ref h0]) ++ List.replicate (1 - (lg_sl ([.ref h0])).length) Slot.unset).toArray = ls at hl ⊢
  have hl : lv_has ls 1 [(0, .ref h0)] := hl
  refine lv_aload_n hx hb d_Mo_look_0 rfl (lv_at hl 0 rfl) ?_
  refine m_g hx hb hts hown hK hP 6 (by decide) rfl (hts _ k_973) (v := .int (Int32.ofNat P)) (congrArg Value.int h6) d_Mo_look_1 ?_
  refine lv_aload_n hx hb d_Mo_look_4 rfl (lv_at hl 0 rfl) ?_
  refine m_g hx hb hts hown hK hP 4 (by decide) rfl (hts _ k_971) (v := .int (Int32.ofNat S)) (congrArg Value.int h4) d_Mo_look_5 ?_
  refine lv_icmp_ge (tgt := 23) hx hb d_Mo_look_8 (by decide) (fun c1 => ?_) (fun c1 => ?_)
  · have c1 : S ≤ P := (x_leN (a := S) (b := P) (by omega) (by omega)).mp c1
    refine lv_iconst (v := 0) hx hb d_Mo_look_23 (by decide) ?_
    refine W.widen (k := 0) (n := 0) (Nat.le_of_ble_eq_true rfl) (Nat.le_of_ble_eq_true rfl) ?_
    exact W.iret (v := 0) hx hb hr (fun t ht hW => ⟨⟨0, (I, T, A, U), rfl, ⟨rfl, by unfold x_lk; rw [if_neg (Nat.not_lt.mpr c1)]⟩, by dsimp only; rw [ht]; exact hP⟩, hS.F ht⟩) hS.2.2 d_Mo_look_24
  · have c1 : ¬ S ≤ P := fun h9 => c1 ((x_leN (a := S) (b := P) (by omega) (by omega)).mpr h9)
    refine lv_aload_n hx hb d_Mo_look_11 rfl (lv_at hl 0 rfl) ?_
    refine m_g hx hb hts hown hK hP 0 (by decide) rfl (hts _ k_967) (v := .ref (ad 0)) rfl d_Mo_look_12 ?_
    refine lv_aload_n hx hb d_Mo_look_15 rfl (lv_at hl 0 rfl) ?_
    refine m_g hx hb hts hown hK hP 6 (by decide) rfl (hts _ k_973) (v := .int (Int32.ofNat P)) (congrArg Value.int h6) d_Mo_look_16 ?_
    refine m_ld hx hb hK hP 0 rfl (by decide) (j := (Int32.ofNat P)) (x_inN (by omega) (by decide)) d_Mo_look_19 ?_
    refine W.eq (g2 := F0 m 20 ls [.int (A 0 (P))]) (by rw [x_nat (a := P) (by omega)]) ?_
    refine lv_goto (tgt := 24) hx hb d_Mo_look_20 (by decide) ?_
    refine W.widen (k := 0) (n := 0) (Nat.le_of_ble_eq_true rfl) (Nat.le_of_ble_eq_true rfl) ?_
    exact W.iret (v := (A 0 (P))) hx hb hr (fun t ht hW => ⟨⟨(A 0 (P)), (I, T, A, U), rfl, ⟨rfl, by unfold x_lk; rw [if_pos (Nat.not_le.mp c1)]⟩, by dsimp only; rw [ht]; exact hP⟩, hS.F ht⟩) hS.2.2 d_Mo_look_24
set_option maxHeartbeats 4000000 in
set_option maxRecDepth 100000 in
theorem m_passes (l : Launch) (dC : Nat → ClassId) (dI : Nat → Nat → Nat) (ar : Nat → ClassId) (N0 : Nat) (z : Nat → Nat) (h0 : Nat) (ad : Nat → Nat) (I : Nat → Int32) (T : Int64) (A : Nat → Nat → Int32) (U : Nat → Int64) (P S : Nat) (cv : Int32) (sz : Nat) (h6 : I 6 = Int32.ofNat P) (h4 : I 4 = Int32.ofNat S) (hP9 : P ≤ 72) (hS9 : S ≤ 72) : Met l ({ cls := "ChannelMachineModel", name := "passes", desc := "(I)Z" } : Jvm.MethodName) ((Jvm.Cond.code ({ cls := "ChannelMachineModel", name := "passes", desc := "(I)Z" } : Jvm.MethodName) prog_12_method_8_code (2 : Nat) (Option.some Jvm.ClassFile.FieldType.boolean)) :: x_T) ({ frames := 1, cells := 0, slots := 0, locals := 20 }) (x_Pc (dC, dI) ar N0 z (m_W h0 ad ar I T A U) sz [.ref h0, .int cv]) (va_Qi (fun (r : Int32) (u : (Nat → Int32) × Int64 × (Nat → Nat → Int32) × (Nat → Int64)) => (x_lk (A 0) P S = cv ∧ r = 1 ∧ u = (upd I 6 (Int32.ofNat (P + 1)), T, A, U)) ∨ (¬ x_lk (A 0) P S = cv ∧ r = 0 ∧ u = (I, T, A, U))) (fun u t => va_P (dC, dI) x_cl (m_W h0 ad ar u.1 u.2.1 u.2.2.1 u.2.2.2) t.heap) (va_A (m_W h0 ad ar I T A U) sz)) 0 0 (va_A (m_W h0 ad ar I T A U) sz) := by
  refine Met.ofW (cc := prog_12_method_8_code) (maxL := 2) (ret := (some .boolean)) (by decide) rfl ?_
  intro p e s m args below meth c s₁ B hml hv
  obtain ⟨rfl, hsz, hN0, hP, hU, hZ, hD0⟩ := hv
  have hK := hU.1
  have hx := B.exec
  have hb := B.bytes
  have hr := B.returns
  have hts : ∀ w ∈ x_T, w.before ([.ref h0, .int cv] : List Value).toArray s = true := fun w h => atoms_spec (ws := (Jvm.Cond.code ({ cls := "ChannelMachineModel", name := "passes", desc := "(I)Z" } : Jvm.MethodName) prog_12_method_8_code (2 : Nat) (Option.some Jvm.ClassFile.FieldType.boolean)) :: x_T) B.pre w (List.mem_cons_of_mem _ h)
  have hown : s.vm.findClass "ChannelMachineModel" = some m.cls := findClass_of_methodNamed B.named
  have hlocks := B.notSynchronized
  subst hsz
  have hD := hD0.self (sz := s.heap.size)
  have hAN := x_AN hD0 hN0
  generalize hAe : va_A (m_W h0 ad ar I T A U) s.heap.size = Bq at hD hAN ⊢
  have hA : ∀ q : Nat, s.heap.size ≤ q → Bq q := fun q h => by rw [← hAe]; exact Or.inr h
  have hS : va_S Bq s.heap s.heap [] := va_S.rf
  have hl := lv_entry ([.ref h0, .int cv]) (n := 2) (Nat.le_of_ble_eq_true rfl)
  rw [lg_entry_eq]
  generalize (lg_sl ([.ref h0, .int cv]) ++ List.replicate (2 - (lg_sl ([.ref h0, .int cv])).length) Slot.unset).toArray = ls at hl ⊢
  have hl : lv_has ls 2 [(0, .ref h0), (1, .int cv)] := hl
  refine lv_aload_n hx hb d_Mo_passes_0 rfl (lv_at hl 0 rfl) ?_
  have hFc := m_free hD hS hA
  refine va_calli (va_runV (As := []) (rest := []) ⟨hx, hb, hml, hown, hts⟩ (m_look l dC dI ar N0 z h0 ad I T A U P S s.heap.size h6 h4 (by omega) (by omega)) (cwV 0 hts (x_goodV k_1140 k_1142 kp_53 k_9 k_1143) rfl rfl rfl (by decide +kernel) ⟨Nat.le_of_ble_eq_true rfl, Nat.le_of_ble_eq_true rfl⟩) ⟨x_blind, va_recv hK hP (ci := 6) (q0 := 0) rfl rfl, fun U9 hU9 hW9 => x_pre hU9 hW9 hP hD hU hZ hS hAN hN0⟩ rfl rfl hl.1 rfl (lv_room (Nat.le_of_ble_eq_true rfl)) d_Mo_passes_1 ⟨Nat.le_of_ble_eq_true rfl, Nat.le_of_ble_eq_true rfl⟩) hS (fun q _ h => hFc q h) hFc (fun r1 u t H1 locs ht hvm hw hB hz1 hk1 hS => ?_)
  obtain ⟨I3, T3, A3, U3⟩ := u
  dsimp only at hw hB
  rw [ht] at hB
  have hP : va_P (dC, dI) x_cl (m_W h0 ad ar I3 T3 A3 U3) H1 := hB
  have hD : va_D Bq (m_W h0 ad ar I3 T3 A3 U3) := m_D hD
  generalize H1 = H at hP hS ⊢
  refine W.widen (k := 0) (n := 0) (Nat.le_of_ble_eq_true rfl) (Nat.le_of_ble_eq_true rfl) ?_
  obtain ⟨h9, hl9⟩ := hw
  cases h9
  refine lv_iload_n hx hb d_Mo_passes_4 rfl (lv_at hl 1 rfl) ?_
  refine lv_icmp_eq (tgt := 10) hx hb d_Mo_passes_5 (by decide) (fun c4 => ?_) (fun c4 => ?_)
  · refine lv_aload_n hx hb d_Mo_passes_10 rfl (lv_at hl 0 rfl) ?_
    refine lv_dup hx hb d_Mo_passes_11 rfl ?_
    refine m_g hx hb hts hown hK hP 6 (by decide) rfl (hts _ k_973) (v := .int (Int32.ofNat P)) (congrArg Value.int h6) d_Mo_passes_12 ?_
    refine lv_iconst (v := 1) hx hb d_Mo_passes_15 (by decide) ?_
    refine lv_iadd hx hb d_Mo_passes_16 ?_
    refine W.eq (g2 := F0 m 17 ls [.int (Int32.ofNat (P + 1)), .ref h0]) (by rw [← x_addN (a := P) (b := 1)] <;> rfl) ?_
    refine m_p hx hb hts hown hK hP hD hS 6 (by decide) rfl (hts _ k_973) rfl (by decide +kernel) rfl (by decide) (x := (Int32.ofNat (P + 1))) d_Mo_passes_17 (fun H locs hP hD hS => ?_)
    refine lv_iconst (v := 1) hx hb d_Mo_passes_20 (by decide) ?_
    refine W.widen (k := 0) (n := 0) (Nat.le_of_ble_eq_true rfl) (Nat.le_of_ble_eq_true rfl) ?_
    exact W.zret (v := 1) hx hb hr (rfl) (fun t ht hW => ⟨⟨1, ((upd I 6 (Int32.ofNat (P + 1))), T, A, U), rfl, Or.inl ⟨hl9.symm.trans c4, rfl, rfl⟩, by dsimp only; rw [ht]; exact hP⟩, hS.F ht⟩) hS.2.2 d_Mo_passes_21
  · refine lv_iconst (v := 0) hx hb d_Mo_passes_8 (by decide) ?_
    refine W.widen (k := 0) (n := 0) (Nat.le_of_ble_eq_true rfl) (Nat.le_of_ble_eq_true rfl) ?_
    exact W.zret (v := 0) hx hb hr (rfl) (fun t ht hW => ⟨⟨0, (I, T, A, U), rfl, Or.inr ⟨fun h8 => c4 (hl9.trans h8), rfl, rfl⟩, by dsimp only; rw [ht]; exact hP⟩, hS.F ht⟩) hS.2.2 d_Mo_passes_9
set_option maxHeartbeats 4000000 in
set_option maxRecDepth 100000 in
theorem m_emit (l : Launch) (dC : Nat → ClassId) (dI : Nat → Nat → Nat) (ar : Nat → ClassId) (N0 : Nat) (z : Nat → Nat) (h0 : Nat) (ad : Nat → Nat) (I : Nat → Int32) (T : Int64) (A : Nat → Nat → Int32) (U : Nat → Int64) (a : Nat) (v : Int32) (sz : Nat) (h7 : I 7 = Int32.ofNat a) (ha : a < 1200) : Met l ({ cls := "ChannelMachineModel", name := "emit", desc := "(I)V" } : Jvm.MethodName) ((Jvm.Cond.code ({ cls := "ChannelMachineModel", name := "emit", desc := "(I)V" } : Jvm.MethodName) prog_12_method_9_code (2 : Nat) (Option.none : Option Jvm.ClassFile.FieldType)) :: x_T) ({ frames := 0, cells := 0, slots := 0, locals := 0 }) (x_Pc (dC, dI) ar N0 z (m_W h0 ad ar I T A U) sz [.ref h0, .int v]) (va_Qv (fun (u : (Nat → Int32) × Int64 × (Nat → Nat → Int32) × (Nat → Int64)) => u = (upd I 7 (Int32.ofNat (a + 1)), T, m_up A 2 (upd (A 2) a v), U)) (fun u t => va_P (dC, dI) x_cl (m_W h0 ad ar u.1 u.2.1 u.2.2.1 u.2.2.2) t.heap) (va_A (m_W h0 ad ar I T A U) sz)) 0 0 (va_A (m_W h0 ad ar I T A U) sz) := by
  refine Met.ofW (cc := prog_12_method_9_code) (maxL := 2) (ret := none) (by decide) rfl ?_
  intro p e s m args below meth c s₁ B hml hv
  obtain ⟨rfl, hsz, hN0, hP, hU, hZ, hD0⟩ := hv
  have hK := hU.1
  have hx := B.exec
  have hb := B.bytes
  have hr := B.returns
  have hts : ∀ w ∈ x_T, w.before ([.ref h0, .int v] : List Value).toArray s = true := fun w h => atoms_spec (ws := (Jvm.Cond.code ({ cls := "ChannelMachineModel", name := "emit", desc := "(I)V" } : Jvm.MethodName) prog_12_method_9_code (2 : Nat) (Option.none : Option Jvm.ClassFile.FieldType)) :: x_T) B.pre w (List.mem_cons_of_mem _ h)
  have hown : s.vm.findClass "ChannelMachineModel" = some m.cls := findClass_of_methodNamed B.named
  have hlocks := B.notSynchronized
  subst hsz
  have hD := hD0.self (sz := s.heap.size)
  have hAN := x_AN hD0 hN0
  generalize hAe : va_A (m_W h0 ad ar I T A U) s.heap.size = Bq at hD hAN ⊢
  have hA : ∀ q : Nat, s.heap.size ≤ q → Bq q := fun q h => by rw [← hAe]; exact Or.inr h
  have hS : va_S Bq s.heap s.heap [] := va_S.rf
  have hl := lv_entry ([.ref h0, .int v]) (n := 2) (Nat.le_of_ble_eq_true rfl)
  rw [lg_entry_eq]
  generalize (lg_sl ([.ref h0, .int v]) ++ List.replicate (2 - (lg_sl ([.ref h0, .int v])).length) Slot.unset).toArray = ls at hl ⊢
  have hl : lv_has ls 2 [(0, .ref h0), (1, .int v)] := hl
  refine lv_aload_n hx hb d_Mo_emit_0 rfl (lv_at hl 0 rfl) ?_
  refine m_g hx hb hts hown hK hP 2 (by decide) rfl (hts _ k_969) (v := .ref (ad 2)) rfl d_Mo_emit_1 ?_
  refine lv_aload_n hx hb d_Mo_emit_4 rfl (lv_at hl 0 rfl) ?_
  refine m_g hx hb hts hown hK hP 7 (by decide) rfl (hts _ k_974) (v := .int (Int32.ofNat a)) (congrArg Value.int h7) d_Mo_emit_5 ?_
  refine lv_iload_n hx hb d_Mo_emit_8 rfl (lv_at hl 1 rfl) ?_
  refine m_st hx hb hK hP hD hS 2 rfl (by decide) (j := (Int32.ofNat a)) (x := v) (x_inN (by omega) (by decide)) d_Mo_emit_9 (fun H locs hP hD hS => ?_)
  rw [x_nat (a := a) (by omega)] at hP hD
  refine lv_aload_n hx hb d_Mo_emit_10 rfl (lv_at hl 0 rfl) ?_
  refine lv_dup hx hb d_Mo_emit_11 rfl ?_
  refine m_g hx hb hts hown hK hP 7 (by decide) rfl (hts _ k_974) (v := .int (Int32.ofNat a)) (congrArg Value.int h7) d_Mo_emit_12 ?_
  refine lv_iconst (v := 1) hx hb d_Mo_emit_15 (by decide) ?_
  refine lv_iadd hx hb d_Mo_emit_16 ?_
  refine W.eq (g2 := F0 m 17 ls [.int (Int32.ofNat (a + 1)), .ref h0]) (by rw [← x_addN (a := a) (b := 1)] <;> rfl) ?_
  refine m_p hx hb hts hown hK hP hD hS 7 (by decide) rfl (hts _ k_974) rfl (by decide +kernel) rfl (by decide) (x := (Int32.ofNat (a + 1))) d_Mo_emit_17 (fun H locs hP hD hS => ?_)
  refine W.widen (k := 0) (n := 0) (Nat.le_of_ble_eq_true rfl) (Nat.le_of_ble_eq_true rfl) ?_
  exact W.vret hx hb hr (fun t ht hW => ⟨⟨((upd I 7 (Int32.ofNat (a + 1))), T, (m_up A 2 (upd (A 2) (a) v)), U), rfl, rfl, by dsimp only; rw [ht]; exact hP⟩, hS.F ht⟩) hS.2.2 d_Mo_emit_20
set_option maxHeartbeats 4000000 in
set_option maxRecDepth 100000 in
theorem m_emit2 (l : Launch) (dC : Nat → ClassId) (dI : Nat → Nat → Nat) (ar : Nat → ClassId) (N0 : Nat) (z : Nat → Nat) (h0 : Nat) (ad : Nat → Nat) (I : Nat → Int32) (T : Int64) (A : Nat → Nat → Int32) (U : Nat → Int64) (a : Nat) (v x : Int32) (sz : Nat) (h7 : I 7 = Int32.ofNat a) (ha : a + 1 < 1200) : Met l ({ cls := "ChannelMachineModel", name := "emit2", desc := "(II)V" } : Jvm.MethodName) ((Jvm.Cond.code ({ cls := "ChannelMachineModel", name := "emit2", desc := "(II)V" } : Jvm.MethodName) prog_12_method_10_code (3 : Nat) (Option.none : Option Jvm.ClassFile.FieldType)) :: x_T) ({ frames := 1, cells := 0, slots := 0, locals := 21 }) (x_Pc (dC, dI) ar N0 z (m_W h0 ad ar I T A U) sz [.ref h0, .int v, .int x]) (va_Qv (fun (u : (Nat → Int32) × Int64 × (Nat → Nat → Int32) × (Nat → Int64)) => u = (upd I 7 (Int32.ofNat (a + 2)), T, m_up A 2 (upd (upd (A 2) a v) (a + 1) x), U)) (fun u t => va_P (dC, dI) x_cl (m_W h0 ad ar u.1 u.2.1 u.2.2.1 u.2.2.2) t.heap) (va_A (m_W h0 ad ar I T A U) sz)) 0 0 (va_A (m_W h0 ad ar I T A U) sz) := by
  refine Met.ofW (cc := prog_12_method_10_code) (maxL := 3) (ret := none) (by decide) rfl ?_
  intro p e s m args below meth c s₁ B hml hv
  obtain ⟨rfl, hsz, hN0, hP, hU, hZ, hD0⟩ := hv
  have hK := hU.1
  have hx := B.exec
  have hb := B.bytes
  have hr := B.returns
  have hts : ∀ w ∈ x_T, w.before ([.ref h0, .int v, .int x] : List Value).toArray s = true := fun w h => atoms_spec (ws := (Jvm.Cond.code ({ cls := "ChannelMachineModel", name := "emit2", desc := "(II)V" } : Jvm.MethodName) prog_12_method_10_code (3 : Nat) (Option.none : Option Jvm.ClassFile.FieldType)) :: x_T) B.pre w (List.mem_cons_of_mem _ h)
  have hown : s.vm.findClass "ChannelMachineModel" = some m.cls := findClass_of_methodNamed B.named
  have hlocks := B.notSynchronized
  subst hsz
  have hD := hD0.self (sz := s.heap.size)
  have hAN := x_AN hD0 hN0
  generalize hAe : va_A (m_W h0 ad ar I T A U) s.heap.size = Bq at hD hAN ⊢
  have hA : ∀ q : Nat, s.heap.size ≤ q → Bq q := fun q h => by rw [← hAe]; exact Or.inr h
  have hS : va_S Bq s.heap s.heap [] := va_S.rf
  have hl := lv_entry ([.ref h0, .int v, .int x]) (n := 3) (Nat.le_of_ble_eq_true rfl)
  rw [lg_entry_eq]
  generalize (lg_sl ([.ref h0, .int v, .int x]) ++ List.replicate (3 - (lg_sl ([.ref h0, .int v, .int x])).length) Slot.unset).toArray = ls at hl ⊢
  have hl : lv_has ls 3 [(0, .ref h0), (1, .int v), (2, .int x)] := hl
  refine lv_aload_n hx hb d_Mo_emit2_0 rfl (lv_at hl 0 rfl) ?_
  refine lv_iload_n hx hb d_Mo_emit2_1 rfl (lv_at hl 1 rfl) ?_
  have hFc := m_free hD hS hA
  refine va_callv (va_runV (As := [.int v]) (rest := []) ⟨hx, hb, hml, hown, hts⟩ (m_emit l dC dI ar N0 z h0 ad I T A U a (v) s.heap.size h7 (by omega)) (cwV 1 hts (x_goodV k_1148 k_1150 kp_55 k_9 k_1151) rfl rfl rfl (by decide +kernel) ⟨Nat.le_of_ble_eq_true rfl, Nat.le_of_ble_eq_true rfl⟩) ⟨x_blind, va_recv hK hP (ci := 6) (q0 := 0) rfl rfl, fun U9 hU9 hW9 => x_pre hU9 hW9 hP hD hU hZ hS hAN hN0⟩ rfl rfl hl.1 rfl (lv_room (Nat.le_of_ble_eq_true rfl)) d_Mo_emit2_2 ⟨Nat.le_of_ble_eq_true rfl, Nat.le_of_ble_eq_true rfl⟩) hS (fun q _ h => hFc q h) hFc (fun u t H1 locs ht hvm hw hB hz1 hk1 hS => ?_)
  obtain ⟨I2, T2, A2, U2⟩ := u
  dsimp only at hw hB
  rw [ht] at hB
  have hP : va_P (dC, dI) x_cl (m_W h0 ad ar I2 T2 A2 U2) H1 := hB
  have hD : va_D Bq (m_W h0 ad ar I2 T2 A2 U2) := m_D hD
  generalize H1 = H at hP hS ⊢
  refine W.widen (k := 0) (n := 0) (Nat.le_of_ble_eq_true rfl) (Nat.le_of_ble_eq_true rfl) ?_
  cases hw
  refine lv_aload_n hx hb d_Mo_emit2_5 rfl (lv_at hl 0 rfl) ?_
  refine lv_iload_n hx hb d_Mo_emit2_6 rfl (lv_at hl 2 rfl) ?_
  have hFc := m_free hD hS hA
  refine va_callv (va_runV (As := [.int x]) (rest := []) ⟨hx, hb, hml, hown, hts⟩ (m_emit l dC dI ar N0 z h0 ad (upd I 7 (Int32.ofNat (a + 1))) T (m_up A 2 (upd (A 2) a v)) U ((a + 1)) (x) H.size rfl (by omega)) (cwV 1 hts (x_goodV k_1148 k_1150 kp_55 k_9 k_1151) rfl rfl rfl (by decide +kernel) ⟨Nat.le_of_ble_eq_true rfl, Nat.le_of_ble_eq_true rfl⟩) ⟨x_blind, va_recv hK hP (ci := 6) (q0 := 0) rfl rfl, fun U9 hU9 hW9 => x_pre hU9 hW9 hP hD hU hZ hS hAN hN0⟩ rfl rfl hl.1 rfl (lv_room (Nat.le_of_ble_eq_true rfl)) d_Mo_emit2_7 ⟨Nat.le_of_ble_eq_true rfl, Nat.le_of_ble_eq_true rfl⟩) hS (fun q _ h => hFc q h) hFc (fun u t H1 locs ht hvm hw hB hz1 hk1 hS => ?_)
  obtain ⟨I4, T4, A4, U4⟩ := u
  dsimp only at hw hB
  rw [ht] at hB
  have hP : va_P (dC, dI) x_cl (m_W h0 ad ar I4 T4 A4 U4) H1 := hB
  have hD : va_D Bq (m_W h0 ad ar I4 T4 A4 U4) := m_D hD
  generalize H1 = H at hP hS ⊢
  refine W.widen (k := 0) (n := 0) (Nat.le_of_ble_eq_true rfl) (Nat.le_of_ble_eq_true rfl) ?_
  cases hw
  refine W.widen (k := 0) (n := 0) (Nat.le_of_ble_eq_true rfl) (Nat.le_of_ble_eq_true rfl) ?_
  exact W.vret hx hb hr (fun t ht hW => ⟨⟨((upd (upd I 7 (Int32.ofNat (a + 1))) 7 (Int32.ofNat (((a + 1)) + 1))), T, (m_up (m_up A 2 (upd (A 2) a v)) 2 (upd ((m_up A 2 (upd (A 2) a v)) 2) ((a + 1)) x)), U), rfl, by rw [upd_upd, m_up_up, m_up_s], by dsimp only; rw [ht]; exact hP⟩, hS.F ht⟩) hS.2.2 d_Mo_emit2_10
set_option maxHeartbeats 4000000 in
set_option maxRecDepth 100000 in
theorem m_isVariable (l : Launch) (dC : Nat → ClassId) (dI : Nat → Nat → Nat) (ar : Nat → ClassId) (N0 : Nat) (z : Nat → Nat) (h0 : Nat) (ad : Nat → Nat) (I : Nat → Int32) (T : Int64) (A : Nat → Nat → Int32) (U : Nat → Int64) (P S : Nat) (sz : Nat) (h6 : I 6 = Int32.ofNat P) (h4 : I 4 = Int32.ofNat S) (hP9 : P ≤ 72) (hS9 : S ≤ 72) : Met l ({ cls := "ChannelMachineModel", name := "isVariable", desc := "()Z" } : Jvm.MethodName) ((Jvm.Cond.code ({ cls := "ChannelMachineModel", name := "isVariable", desc := "()Z" } : Jvm.MethodName) prog_12_method_11_code (1 : Nat) (Option.some Jvm.ClassFile.FieldType.boolean)) :: x_T) ({ frames := 1, cells := 0, slots := 0, locals := 22 }) (x_Pc (dC, dI) ar N0 z (m_W h0 ad ar I T A U) sz [.ref h0]) (va_Qi (fun (r : Int32) (u : (Nat → Int32) × Int64 × (Nat → Nat → Int32) × (Nat → Int64)) => u = (I, T, A, U) ∧ ((x_isv (x_lk (A 0) P S) ∧ r = 1) ∨ (¬ x_isv (x_lk (A 0) P S) ∧ r = 0))) (fun u t => va_P (dC, dI) x_cl (m_W h0 ad ar u.1 u.2.1 u.2.2.1 u.2.2.2) t.heap) (va_A (m_W h0 ad ar I T A U) sz)) 0 0 (va_A (m_W h0 ad ar I T A U) sz) := by
  refine Met.ofW (cc := prog_12_method_11_code) (maxL := 1) (ret := (some .boolean)) (by decide) rfl ?_
  intro p e s m args below meth c s₁ B hml hv
  obtain ⟨rfl, hsz, hN0, hP, hU, hZ, hD0⟩ := hv
  have hK := hU.1
  have hx := B.exec
  have hb := B.bytes
  have hr := B.returns
  have hts : ∀ w ∈ x_T, w.before ([.ref h0] : List Value).toArray s = true := fun w h => atoms_spec (ws := (Jvm.Cond.code ({ cls := "ChannelMachineModel", name := "isVariable", desc := "()Z" } : Jvm.MethodName) prog_12_method_11_code (1 : Nat) (Option.some Jvm.ClassFile.FieldType.boolean)) :: x_T) B.pre w (List.mem_cons_of_mem _ h)
  have hown : s.vm.findClass "ChannelMachineModel" = some m.cls := findClass_of_methodNamed B.named
  have hlocks := B.notSynchronized
  subst hsz
  have hD := hD0.self (sz := s.heap.size)
  have hAN := x_AN hD0 hN0
  generalize hAe : va_A (m_W h0 ad ar I T A U) s.heap.size = Bq at hD hAN ⊢
  have hA : ∀ q : Nat, s.heap.size ≤ q → Bq q := fun q h => by rw [← hAe]; exact Or.inr h
  have hS : va_S Bq s.heap s.heap [] := va_S.rf
  have hl := lv_entry ([.ref h0]) (n := 1) (Nat.le_of_ble_eq_true rfl)
  rw [lg_entry_eq]
  generalize (lg_sl ([.ref h0]) ++ List.replicate (1 - (lg_sl ([.ref h0])).length) Slot.unset).toArray = ls at hl ⊢
  have hl : lv_has ls 1 [(0, .ref h0)] := hl
  refine lv_aload_n hx hb d_Mo_isVariable_0 rfl (lv_at hl 0 rfl) ?_
  have hFc := m_free hD hS hA
  refine va_calli (va_runV (As := []) (rest := []) ⟨hx, hb, hml, hown, hts⟩ (m_look l dC dI ar N0 z h0 ad I T A U P S s.heap.size h6 h4 (by omega) (by omega)) (cwV 0 hts (x_goodV k_1140 k_1142 kp_53 k_9 k_1143) rfl rfl rfl (by decide +kernel) ⟨Nat.le_of_ble_eq_true rfl, Nat.le_of_ble_eq_true rfl⟩) ⟨x_blind, va_recv hK hP (ci := 6) (q0 := 0) rfl rfl, fun U9 hU9 hW9 => x_pre hU9 hW9 hP hD hU hZ hS hAN hN0⟩ rfl rfl hl.1 rfl (lv_room (Nat.le_of_ble_eq_true rfl)) d_Mo_isVariable_1 ⟨Nat.le_of_ble_eq_true rfl, Nat.le_of_ble_eq_true rfl⟩) hS (fun q _ h => hFc q h) hFc (fun r1 u t H1 locs ht hvm hw hB hz1 hk1 hS => ?_)
  obtain ⟨I3, T3, A3, U3⟩ := u
  dsimp only at hw hB
  rw [ht] at hB
  have hP : va_P (dC, dI) x_cl (m_W h0 ad ar I3 T3 A3 U3) H1 := hB
  have hD : va_D Bq (m_W h0 ad ar I3 T3 A3 U3) := m_D hD
  generalize H1 = H at hP hS ⊢
  refine W.widen (k := 0) (n := 0) (Nat.le_of_ble_eq_true rfl) (Nat.le_of_ble_eq_true rfl) ?_
  obtain ⟨h9, hl9⟩ := hw
  cases h9
  refine lv_bipush (v := 97) hx hb d_Mo_isVariable_4 (by decide) ?_
  refine lv_bipush (v := 102) hx hb d_Mo_isVariable_6 (by decide) ?_
  have hFc := m_free hD hS hA
  refine va_calli (va_runS (As := [.int r1, .int 97, .int 102]) (rest := []) ⟨hx, hb, hml, hown, hts⟩ (c_Mo_in l dC dI ar N0 z (r1) (97) (102) H.size) (cwS 3 hts (x_goodS k_1113 k_1114 k_9 k_1115) rfl rfl rfl (by decide +kernel) ⟨Nat.le_of_ble_eq_true rfl, Nat.le_of_ble_eq_true rfl⟩) ⟨x_blind, fun U9 hU9 hW9 => x_pre (ws := []) hU9 hW9 (fun k q h => by simp at h) (⟨fun i j p q h => by simp at h, fun k q h => by simp at h⟩ : va_D Bq []) hU hZ hS hAN hN0⟩ rfl rfl hl.1 rfl (lv_room (Nat.le_of_ble_eq_true rfl)) d_Mo_isVariable_8 ⟨Nat.le_of_ble_eq_true rfl, Nat.le_of_ble_eq_true rfl⟩) hS (fun q _ h => hA q (Nat.le_trans hS.1 (h.elim (fun ⟨k, e9, hk⟩ => by simp at hk) id))) (fun q h => hA q (Nat.le_trans hS.1 (h.elim (fun ⟨k, e9, hk⟩ => by simp at hk) id))) (fun r4 u t H1 locs ht hvm hw hB hz1 hk1 hS => ?_)
  have hP : va_P (dC, dI) x_cl (m_W h0 ad ar I T A U) H1 := fun k q hk => (hP k q hk).kept (hk1 q.1 ((hP k q hk).lt) (fun h9 => h9.elim (fun ⟨k, e9, hk⟩ => by simp at hk) (fun h8 => absurd (hP k q hk).lt (Nat.not_lt.mpr h8))))
  generalize H1 = H at hP hS ⊢
  refine W.widen (k := 0) (n := 0) (Nat.le_of_ble_eq_true rfl) (Nat.le_of_ble_eq_true rfl) ?_
  rcases hw with ⟨i6, i6', rfl⟩ | ⟨i6, rfl⟩
  · have i6 := i6
    refine W.widen (k := 0) (n := 0) (Nat.le_of_ble_eq_true rfl) (Nat.le_of_ble_eq_true rfl) ?_
    exact W.zret (v := 1) hx hb hr (rfl) (fun t ht hW => ⟨⟨1, (I, T, A, U), rfl, ⟨rfl, Or.inl ⟨by rw [← hl9]; exact ⟨i6, i6'⟩, rfl⟩⟩, by dsimp only; rw [ht]; exact hP⟩, hS.F ht⟩) hS.2.2 d_Mo_isVariable_11
  · have i6 := i6
    refine W.widen (k := 0) (n := 0) (Nat.le_of_ble_eq_true rfl) (Nat.le_of_ble_eq_true rfl) ?_
    exact W.zret (v := 0) hx hb hr (rfl) (fun t ht hW => ⟨⟨0, (I, T, A, U), rfl, ⟨rfl, Or.inr ⟨by rw [← hl9]; exact fun h8 => i6.elim h8.1 h8.2, rfl⟩⟩, by dsimp only; rw [ht]; exact hP⟩, hS.F ht⟩) hS.2.2 d_Mo_isVariable_11
set_option maxHeartbeats 4000000 in
set_option maxRecDepth 100000 in
theorem m_push (l : Launch) (dC : Nat → ClassId) (dI : Nat → Nat → Nat) (ar : Nat → ClassId) (N0 : Nat) (z : Nat → Nat) (h0 : Nat) (ad : Nat → Nat) (I : Nat → Int32) (T : Int64) (A : Nat → Nat → Int32) (U : Nat → Int64) (o : Nat) (cv rv : Int32) (sz : Nat) (h10 : I 10 = Int32.ofNat o) (ho : o < 40) : Met l ({ cls := "ChannelMachineModel", name := "push", desc := "(II)V" } : Jvm.MethodName) ((Jvm.Cond.code ({ cls := "ChannelMachineModel", name := "push", desc := "(II)V" } : Jvm.MethodName) prog_12_method_14_code (3 : Nat) (Option.none : Option Jvm.ClassFile.FieldType)) :: x_T) ({ frames := 0, cells := 0, slots := 0, locals := 0 }) (x_Pc (dC, dI) ar N0 z (m_W h0 ad ar I T A U) sz [.ref h0, .int cv, .int rv]) (va_Qv (fun (u : (Nat → Int32) × Int64 × (Nat → Nat → Int32) × (Nat → Int64)) => u = (upd I 10 (Int32.ofNat (o + 1)), T, m_up (m_up A 15 (upd (A 15) o cv)) 16 (upd (A 16) o rv), U)) (fun u t => va_P (dC, dI) x_cl (m_W h0 ad ar u.1 u.2.1 u.2.2.1 u.2.2.2) t.heap) (va_A (m_W h0 ad ar I T A U) sz)) 0 0 (va_A (m_W h0 ad ar I T A U) sz) := by
  refine Met.ofW (cc := prog_12_method_14_code) (maxL := 3) (ret := none) (by decide) rfl ?_
  intro p e s m args below meth c s₁ B hml hv
  obtain ⟨rfl, hsz, hN0, hP, hU, hZ, hD0⟩ := hv
  have hK := hU.1
  have hx := B.exec
  have hb := B.bytes
  have hr := B.returns
  have hts : ∀ w ∈ x_T, w.before ([.ref h0, .int cv, .int rv] : List Value).toArray s = true := fun w h => atoms_spec (ws := (Jvm.Cond.code ({ cls := "ChannelMachineModel", name := "push", desc := "(II)V" } : Jvm.MethodName) prog_12_method_14_code (3 : Nat) (Option.none : Option Jvm.ClassFile.FieldType)) :: x_T) B.pre w (List.mem_cons_of_mem _ h)
  have hown : s.vm.findClass "ChannelMachineModel" = some m.cls := findClass_of_methodNamed B.named
  have hlocks := B.notSynchronized
  subst hsz
  have hD := hD0.self (sz := s.heap.size)
  have hAN := x_AN hD0 hN0
  generalize hAe : va_A (m_W h0 ad ar I T A U) s.heap.size = Bq at hD hAN ⊢
  have hA : ∀ q : Nat, s.heap.size ≤ q → Bq q := fun q h => by rw [← hAe]; exact Or.inr h
  have hS : va_S Bq s.heap s.heap [] := va_S.rf
  have hl := lv_entry ([.ref h0, .int cv, .int rv]) (n := 3) (Nat.le_of_ble_eq_true rfl)
  rw [lg_entry_eq]
  generalize (lg_sl ([.ref h0, .int cv, .int rv]) ++ List.replicate (3 - (lg_sl ([.ref h0, .int cv, .int rv])).length) Slot.unset).toArray = ls at hl ⊢
  have hl : lv_has ls 3 [(0, .ref h0), (1, .int cv), (2, .int rv)] := hl
  refine lv_aload_n hx hb d_Mo_push_0 rfl (lv_at hl 0 rfl) ?_
  refine m_g hx hb hts hown hK hP 15 (by decide) rfl (hts _ k_982) (v := .ref (ad 15)) rfl d_Mo_push_1 ?_
  refine lv_aload_n hx hb d_Mo_push_4 rfl (lv_at hl 0 rfl) ?_
  refine m_g hx hb hts hown hK hP 10 (by decide) rfl (hts _ k_977) (v := .int (Int32.ofNat o)) (congrArg Value.int h10) d_Mo_push_5 ?_
  refine lv_iload_n hx hb d_Mo_push_8 rfl (lv_at hl 1 rfl) ?_
  refine m_st hx hb hK hP hD hS 8 rfl (by decide) (j := (Int32.ofNat o)) (x := cv) (x_inN (by omega) (by decide)) d_Mo_push_9 (fun H locs hP hD hS => ?_)
  rw [x_nat (a := o) (by omega)] at hP hD
  refine lv_aload_n hx hb d_Mo_push_10 rfl (lv_at hl 0 rfl) ?_
  refine m_g hx hb hts hown hK hP 16 (by decide) rfl (hts _ k_983) (v := .ref (ad 16)) rfl d_Mo_push_11 ?_
  refine lv_aload_n hx hb d_Mo_push_14 rfl (lv_at hl 0 rfl) ?_
  refine m_g hx hb hts hown hK hP 10 (by decide) rfl (hts _ k_977) (v := .int (Int32.ofNat o)) (congrArg Value.int h10) d_Mo_push_15 ?_
  refine lv_iload_n hx hb d_Mo_push_18 rfl (lv_at hl 2 rfl) ?_
  refine m_st hx hb hK hP hD hS 9 rfl (by decide) (j := (Int32.ofNat o)) (x := rv) (x_inN (by omega) (by decide)) d_Mo_push_19 (fun H locs hP hD hS => ?_)
  rw [x_nat (a := o) (by omega)] at hP hD
  refine lv_aload_n hx hb d_Mo_push_20 rfl (lv_at hl 0 rfl) ?_
  refine lv_dup hx hb d_Mo_push_21 rfl ?_
  refine m_g hx hb hts hown hK hP 10 (by decide) rfl (hts _ k_977) (v := .int (Int32.ofNat o)) (congrArg Value.int h10) d_Mo_push_22 ?_
  refine lv_iconst (v := 1) hx hb d_Mo_push_25 (by decide) ?_
  refine lv_iadd hx hb d_Mo_push_26 ?_
  refine W.eq (g2 := F0 m 27 ls [.int (Int32.ofNat (o + 1)), .ref h0]) (by rw [← x_addN (a := o) (b := 1)] <;> rfl) ?_
  refine m_p hx hb hts hown hK hP hD hS 10 (by decide) rfl (hts _ k_977) rfl (by decide +kernel) rfl (by decide) (x := (Int32.ofNat (o + 1))) d_Mo_push_27 (fun H locs hP hD hS => ?_)
  refine W.widen (k := 0) (n := 0) (Nat.le_of_ble_eq_true rfl) (Nat.le_of_ble_eq_true rfl) ?_
  exact W.vret hx hb hr (fun t ht hW => ⟨⟨((upd I 10 (Int32.ofNat (o + 1))), T, (m_up (m_up A 15 (upd (A 15) (o) cv)) 16 (upd ((m_up A 15 (upd (A 15) (o) cv)) 16) (o) rv)), U), rfl, rfl, by dsimp only; rw [ht]; exact hP⟩, hS.F ht⟩) hS.2.2 d_Mo_push_30
