-- ===== 73.ysmall: small methods of the class, by program =====
theorem k_453 : (Jvm.Cond.fieldLink "ChannelMachine$Task" (34 : Nat) "ChannelMachine$Task" "at" "LChannelMachine$Process;") ∈ x_T := x_at 453 (by decide +kernel) (by decide +kernel)
theorem k_455 : (Jvm.Cond.fieldLink "ChannelMachine$Task" (9 : Nat) "ChannelMachine$Task" "isBehind" "Z") ∈ x_T := x_at 455 (by decide +kernel) (by decide +kernel)
theorem d_Task_enter_0 : decode prog_10_method_2_code 0 = .ok (.aload_n 0, 1) := by decide +kernel
theorem d_Task_enter_1 : decode prog_10_method_2_code 1 = .ok (.aload_n 1, 1) := by decide +kernel
theorem d_Task_enter_2 : decode prog_10_method_2_code 2 = .ok (.putfield 34, 3) := by decide +kernel
theorem d_Task_enter_5 : decode prog_10_method_2_code 5 = .ok (.aload_n 0, 1) := by decide +kernel
theorem d_Task_enter_6 : decode prog_10_method_2_code 6 = .ok (.iconst 0, 1) := by decide +kernel
theorem d_Task_enter_7 : decode prog_10_method_2_code 7 = .ok (.putfield 9, 3) := by decide +kernel
theorem d_Task_enter_10 : decode prog_10_method_2_code 10 = .ok (.return_, 1) := by decide +kernel
theorem d_Task_goOn_0 : decode prog_10_method_3_code 0 = .ok (.aload_n 0, 1) := by decide +kernel
theorem d_Task_goOn_1 : decode prog_10_method_3_code 1 = .ok (.iconst 1, 1) := by decide +kernel
theorem d_Task_goOn_2 : decode prog_10_method_3_code 2 = .ok (.putfield 9, 3) := by decide +kernel
theorem d_Task_goOn_5 : decode prog_10_method_3_code 5 = .ok (.return_, 1) := by decide +kernel
set_option maxHeartbeats 4000000 in
set_option maxRecDepth 100000 in
theorem c_T_enter (l : Launch) (dC : Nat → ClassId) (dI : Nat → Nat → Nat) (ar : Nat → ClassId) (N0 : Nat) (z : Nat → Nat) (ad : Nat → Nat) (I : Nat → Int32) (T : Int64) (A : Nat → Nat → Int32) (O : Nat → Option Nat) (pl : va_W) (G : Nat → Nat) (C Gs : Nat → List Nat) (qn sn cq cs : Nat) (tt pp : Nat) (sz w0 : Nat) (hmi : y_MI z ar G C Gs I O (y_L pl) (qn, sn, cq, cs)) (htt : G tt = 8) (hpp : G pp = 7) : Met l ({ cls := "ChannelMachine$Task", name := "enter", desc := "(LChannelMachine$Process;)V" } : Jvm.MethodName) ((Jvm.Cond.code ({ cls := "ChannelMachine$Task", name := "enter", desc := "(LChannelMachine$Process;)V" } : Jvm.MethodName) prog_10_method_2_code (2 : Nat) (Option.none : Option Jvm.ClassFile.FieldType)) :: x_T) ({ frames := 0, cells := 0, slots := 0, locals := 0 }) (y_Pc (dC, dI) ar N0 z (y_W ad ar I T A O pl) sz w0 [.ref tt, .ref pp]) (va_Qv (fun (u : (Nat → Int32) × Int64 × (Nat → Nat → Int32) × (Nat → Option Nat) × va_W × (Nat × Nat × Nat × Nat)) => u.1 = I ∧ u.2.1 = T ∧ u.2.2.1 = A ∧ u.2.2.2.1 = O ∧ u.2.2.2.2.2 = (qn, sn, cq, cs) ∧ y_MI z ar G C Gs u.1 u.2.2.2.1 (y_L u.2.2.2.2.1) u.2.2.2.2.2) (fun u t => va_P (dC, dI) y_cl (y_W ad ar u.1 u.2.1 u.2.2.1 u.2.2.2.1 u.2.2.2.2.1) t.heap ∧ va_D (va_A (y_W ad ar I T A O pl) sz) (y_W ad ar u.1 u.2.1 u.2.2.1 u.2.2.2.1 u.2.2.2.2.1) ∧ y_ac (cq + cs) sz w0 (u.2.2.2.2.2.2.2.1 + u.2.2.2.2.2.2.2.2) t.heap) (va_A (y_W ad ar I T A O pl) sz)) (0) (0) (va_A (y_W ad ar I T A O pl) sz) := by
  refine Met.ofW (cc := prog_10_method_2_code) (maxL := 2) (ret := none) (by decide) rfl ?_
  intro p e s m args below meth c s₁ B hml hv
  obtain ⟨rfl, hsz, hN0, hP, hU, hZ, hD0, hw0⟩ := hv
  have hK := hU.2.1
  have hx := B.exec
  have hb := B.bytes
  have hr := B.returns
  have hts : ∀ w ∈ x_T, w.before ([.ref tt, .ref pp] : List Value).toArray s = true := fun w h => atoms_spec (ws := (Jvm.Cond.code ({ cls := "ChannelMachine$Task", name := "enter", desc := "(LChannelMachine$Process;)V" } : Jvm.MethodName) prog_10_method_2_code (2 : Nat) (Option.none : Option Jvm.ClassFile.FieldType)) :: x_T) B.pre w (List.mem_cons_of_mem _ h)
  have hown : s.vm.findClass "ChannelMachine$Task" = some m.cls := findClass_of_methodNamed B.named
  have hlocks := B.notSynchronized
  subst hsz
  subst hw0
  have hD := hD0.self (sz := s.heap.size)
  have hAN := x_AN hD0 hN0
  generalize hAe : va_A (y_W ad ar I T A O pl) s.heap.size = Bq at hD hAN ⊢
  have hA : ∀ q : Nat, s.heap.size ≤ q → Bq q := fun q h => by rw [← hAe]; exact Or.inr h
  have hS : va_S Bq s.heap s.heap [] := va_S.rf
  have hl := lv_entry ([.ref tt, .ref pp]) (n := 2) (Nat.le_of_ble_eq_true rfl)
  rw [lg_entry_eq]
  generalize (lg_sl ([.ref tt, .ref pp]) ++ List.replicate (2 - (lg_sl ([.ref tt, .ref pp])).length) Slot.unset).toArray = ls at hl ⊢
  have hl : lv_has ls 2 [(0, .ref tt), (1, .ref pp)] := hl
  refine lv_aload_n hx hb d_Task_enter_0 rfl (lv_at hl 0 rfl) ?_
  refine lv_aload_n hx hb d_Task_enter_1 rfl (lv_at hl 1 rfl) ?_
  obtain ⟨w1, m1, a1, b1, r1, v1, u1, hf1, hw1, hm1, ha1⟩ := hmi.1.2.1 tt htt
  refine d_p (C := "ChannelMachine$Task") (F := F_Task) (N := 7) hx hb hts i_Task hown t_Task t_Task_ok n_Task hK hP hD hS hf1 2 rfl (by decide) (hts _ k_453) (fun _ h9 => h9) rfl (ty := (.object "ChannelMachine$Process")) (v := .ref pp) (by decide +kernel) rfl rfl (Nat.le_of_ble_eq_true rfl) d_Task_enter_2 (fun pl2 H locs hL hP hD hS => ?_)
  have hmi := y_MI.task hmi (t := tt) (w := w1) (m := m1) (a := pp) (b := b1) (r := r1) (v := v1) (u := u1) htt hw1 hm1 hpp
  have hfo1 := hf1
  have hf1 : y_L pl2 tt = some (.inr (8, y_Tf w1 m1 pp b1 r1 v1 u1)) := by rw [hL]; exact y_Lu_s
  have hmi : y_MI z ar G C Gs I O (y_L pl2) (qn, sn, cq, cs) := by rw [hL]; exact hmi
  clear hL
  refine lv_aload_n hx hb d_Task_enter_5 rfl (lv_at hl 0 rfl) ?_
  refine lv_iconst (v := 0) hx hb d_Task_enter_6 (by decide) ?_
  refine d_p (C := "ChannelMachine$Task") (F := F_Task) (N := 7) hx hb hts i_Task hown t_Task t_Task_ok n_Task hK hP hD hS hf1 3 rfl (by decide) (hts _ k_455) (fun _ h9 => h9) rfl (ty := .boolean) (v := .int 0) (by decide +kernel) rfl rfl (Nat.le_of_ble_eq_true rfl) d_Task_enter_7 (fun pl3 H locs hL hP hD hS => ?_)
  have hmi := y_MI.task hmi (t := tt) (w := w1) (m := m1) (a := pp) (b := 0) (r := r1) (v := v1) (u := u1) htt hw1 hm1 hpp
  have hfo1 := hf1
  have hf1 : y_L pl3 tt = some (.inr (8, y_Tf w1 m1 pp 0 r1 v1 u1)) := by rw [hL]; exact y_Lu_s
  have hmi : y_MI z ar G C Gs I O (y_L pl3) (qn, sn, cq, cs) := by rw [hL]; exact hmi
  clear hL
  refine y_know (fun hy91 hy92 hy93 hy94 => ?_)
  have hac9 : y_ac (cq + cs) s.heap.size (y_hs s.heap) (cq + cs) H := ⟨by omega, by omega⟩
  refine W.widen (k := 0) (n := 0) (by omega) (by omega) ?_
  exact W.vret hx hb hr (fun t ht hW => ⟨⟨(I, T, A, O, pl3, (qn, sn, cq, cs)), rfl, ⟨rfl, rfl, rfl, rfl, rfl, hmi⟩, (by dsimp only; rw [ht]; exact ⟨hP, hD, hac9⟩)⟩, hS.F ht⟩) hS.2.2 d_Task_enter_10
set_option maxHeartbeats 4000000 in
set_option maxRecDepth 100000 in
theorem c_T_goOn (l : Launch) (dC : Nat → ClassId) (dI : Nat → Nat → Nat) (ar : Nat → ClassId) (N0 : Nat) (z : Nat → Nat) (ad : Nat → Nat) (I : Nat → Int32) (T : Int64) (A : Nat → Nat → Int32) (O : Nat → Option Nat) (pl : va_W) (G : Nat → Nat) (C Gs : Nat → List Nat) (qn sn cq cs : Nat) (tt : Nat) (sz w0 : Nat) (hmi : y_MI z ar G C Gs I O (y_L pl) (qn, sn, cq, cs)) (htt : G tt = 8) : Met l ({ cls := "ChannelMachine$Task", name := "goOn", desc := "()V" } : Jvm.MethodName) ((Jvm.Cond.code ({ cls := "ChannelMachine$Task", name := "goOn", desc := "()V" } : Jvm.MethodName) prog_10_method_3_code (1 : Nat) (Option.none : Option Jvm.ClassFile.FieldType)) :: x_T) ({ frames := 0, cells := 0, slots := 0, locals := 0 }) (y_Pc (dC, dI) ar N0 z (y_W ad ar I T A O pl) sz w0 [.ref tt]) (va_Qv (fun (u : (Nat → Int32) × Int64 × (Nat → Nat → Int32) × (Nat → Option Nat) × va_W × (Nat × Nat × Nat × Nat)) => u.1 = I ∧ u.2.1 = T ∧ u.2.2.1 = A ∧ u.2.2.2.1 = O ∧ u.2.2.2.2.2 = (qn, sn, cq, cs) ∧ y_MI z ar G C Gs u.1 u.2.2.2.1 (y_L u.2.2.2.2.1) u.2.2.2.2.2) (fun u t => va_P (dC, dI) y_cl (y_W ad ar u.1 u.2.1 u.2.2.1 u.2.2.2.1 u.2.2.2.2.1) t.heap ∧ va_D (va_A (y_W ad ar I T A O pl) sz) (y_W ad ar u.1 u.2.1 u.2.2.1 u.2.2.2.1 u.2.2.2.2.1) ∧ y_ac (cq + cs) sz w0 (u.2.2.2.2.2.2.2.1 + u.2.2.2.2.2.2.2.2) t.heap) (va_A (y_W ad ar I T A O pl) sz)) (0) (0) (va_A (y_W ad ar I T A O pl) sz) := by
  refine Met.ofW (cc := prog_10_method_3_code) (maxL := 1) (ret := none) (by decide) rfl ?_
  intro p e s m args below meth c s₁ B hml hv
  obtain ⟨rfl, hsz, hN0, hP, hU, hZ, hD0, hw0⟩ := hv
  have hK := hU.2.1
  have hx := B.exec
  have hb := B.bytes
  have hr := B.returns
  have hts : ∀ w ∈ x_T, w.before ([.ref tt] : List Value).toArray s = true := fun w h => atoms_spec (ws := (Jvm.Cond.code ({ cls := "ChannelMachine$Task", name := "goOn", desc := "()V" } : Jvm.MethodName) prog_10_method_3_code (1 : Nat) (Option.none : Option Jvm.ClassFile.FieldType)) :: x_T) B.pre w (List.mem_cons_of_mem _ h)
  have hown : s.vm.findClass "ChannelMachine$Task" = some m.cls := findClass_of_methodNamed B.named
  have hlocks := B.notSynchronized
  subst hsz
  subst hw0
  have hD := hD0.self (sz := s.heap.size)
  have hAN := x_AN hD0 hN0
  generalize hAe : va_A (y_W ad ar I T A O pl) s.heap.size = Bq at hD hAN ⊢
  have hA : ∀ q : Nat, s.heap.size ≤ q → Bq q := fun q h => by rw [← hAe]; exact Or.inr h
  have hS : va_S Bq s.heap s.heap [] := va_S.rf
  have hl := lv_entry ([.ref tt]) (n := 1) (Nat.le_of_ble_eq_true rfl)
  rw [lg_entry_eq]
  generalize (lg_sl ([.ref tt]) ++ List.replicate (1 - (lg_sl ([.ref tt])).length) Slot.unset).toArray = ls at hl ⊢
  have hl : lv_has ls 1 [(0, .ref tt)] := hl
  refine lv_aload_n hx hb d_Task_goOn_0 rfl (lv_at hl 0 rfl) ?_
  refine lv_iconst (v := 1) hx hb d_Task_goOn_1 (by decide) ?_
  obtain ⟨w1, m1, a1, b1, r1, v1, u1, hf1, hw1, hm1, ha1⟩ := hmi.1.2.1 tt htt
  refine d_p (C := "ChannelMachine$Task") (F := F_Task) (N := 7) hx hb hts i_Task hown t_Task t_Task_ok n_Task hK hP hD hS hf1 3 rfl (by decide) (hts _ k_455) (fun _ h9 => h9) rfl (ty := .boolean) (v := .int 1) (by decide +kernel) rfl rfl (Nat.le_of_ble_eq_true rfl) d_Task_goOn_2 (fun pl2 H locs hL hP hD hS => ?_)
  have hmi := y_MI.task hmi (t := tt) (w := w1) (m := m1) (a := a1) (b := 1) (r := r1) (v := v1) (u := u1) htt hw1 hm1 ha1
  have hfo1 := hf1
  have hf1 : y_L pl2 tt = some (.inr (8, y_Tf w1 m1 a1 1 r1 v1 u1)) := by rw [hL]; exact y_Lu_s
  have hmi : y_MI z ar G C Gs I O (y_L pl2) (qn, sn, cq, cs) := by rw [hL]; exact hmi
  clear hL
  refine y_know (fun hy91 hy92 hy93 hy94 => ?_)
  have hac9 : y_ac (cq + cs) s.heap.size (y_hs s.heap) (cq + cs) H := ⟨by omega, by omega⟩
  refine W.widen (k := 0) (n := 0) (by omega) (by omega) ?_
  exact W.vret hx hb hr (fun t ht hW => ⟨⟨(I, T, A, O, pl2, (qn, sn, cq, cs)), rfl, ⟨rfl, rfl, rfl, rfl, rfl, hmi⟩, (by dsimp only; rw [ht]; exact ⟨hP, hD, hac9⟩)⟩, hS.F ht⟩) hS.2.2 d_Task_goOn_5
