-- ===== 90.ybegin: begin of the machine, by program =====
theorem k_629 : (Jvm.Cond.methodLink "ChannelMachine$Machine" (63 : Nat) ({ cls := "java/util/Arrays", name := "fill", desc := "([II)V" } : Jvm.MethodName)) ∈ x_T := x_at 629 (by decide +kernel) (by decide +kernel)
theorem k_630 : (Jvm.Cond.static ({ cls := "java/util/Arrays", name := "fill", desc := "([II)V" } : Jvm.MethodName)) ∈ x_T := x_at 630 (by decide +kernel) (by decide +kernel)
theorem k_631 : (Jvm.Cond.code ({ cls := "java/util/Arrays", name := "fill", desc := "([II)V" } : Jvm.MethodName) prog_29_method_103_code (4 : Nat) (Option.none : Option Jvm.ClassFile.FieldType)) ∈ x_T := x_at 631 (by decide +kernel) (by decide +kernel)
theorem d_Arrays_fill_0 : decode prog_29_method_103_code 0 = .ok (.iconst 0, 1) := by decide +kernel
theorem d_Arrays_fill_1 : decode prog_29_method_103_code 1 = .ok (.istore_n 2, 1) := by decide +kernel
theorem d_Arrays_fill_2 : decode prog_29_method_103_code 2 = .ok (.aload_n 0, 1) := by decide +kernel
theorem d_Arrays_fill_3 : decode prog_29_method_103_code 3 = .ok (.arraylength, 1) := by decide +kernel
theorem d_Arrays_fill_4 : decode prog_29_method_103_code 4 = .ok (.istore_n 3, 1) := by decide +kernel
theorem d_Arrays_fill_5 : decode prog_29_method_103_code 5 = .ok (.iload_n 2, 1) := by decide +kernel
theorem d_Arrays_fill_6 : decode prog_29_method_103_code 6 = .ok (.iload_n 3, 1) := by decide +kernel
theorem d_Arrays_fill_7 : decode prog_29_method_103_code 7 = .ok (.if_icmp .ge 13, 3) := by decide +kernel
theorem d_Arrays_fill_10 : decode prog_29_method_103_code 10 = .ok (.aload_n 0, 1) := by decide +kernel
theorem d_Arrays_fill_11 : decode prog_29_method_103_code 11 = .ok (.iload_n 2, 1) := by decide +kernel
theorem d_Arrays_fill_12 : decode prog_29_method_103_code 12 = .ok (.iload_n 1, 1) := by decide +kernel
theorem d_Arrays_fill_13 : decode prog_29_method_103_code 13 = .ok (.iastore, 1) := by decide +kernel
theorem d_Arrays_fill_14 : decode prog_29_method_103_code 14 = .ok (.iinc 2 1, 3) := by decide +kernel
theorem d_Arrays_fill_17 : decode prog_29_method_103_code 17 = .ok (.goto (-12), 3) := by decide +kernel
theorem d_Arrays_fill_20 : decode prog_29_method_103_code 20 = .ok (.return_, 1) := by decide +kernel
theorem d_Machine_begin_0 : decode prog_6_method_2_code 0 = .ok (.aload_n 0, 1) := by decide +kernel
theorem d_Machine_begin_1 : decode prog_6_method_2_code 1 = .ok (.iconst 1, 1) := by decide +kernel
theorem d_Machine_begin_2 : decode prog_6_method_2_code 2 = .ok (.invokevirtual 59, 3) := by decide +kernel
theorem d_Machine_begin_5 : decode prog_6_method_2_code 5 = .ok (.aload_n 0, 1) := by decide +kernel
theorem d_Machine_begin_6 : decode prog_6_method_2_code 6 = .ok (.getfield 9, 3) := by decide +kernel
theorem d_Machine_begin_9 : decode prog_6_method_2_code 9 = .ok (.iconst 0, 1) := by decide +kernel
theorem d_Machine_begin_10 : decode prog_6_method_2_code 10 = .ok (.invokestatic 63, 3) := by decide +kernel
theorem d_Machine_begin_13 : decode prog_6_method_2_code 13 = .ok (.aload_n 0, 1) := by decide +kernel
theorem d_Machine_begin_14 : decode prog_6_method_2_code 14 = .ok (.getfield 24, 3) := by decide +kernel
theorem d_Machine_begin_17 : decode prog_6_method_2_code 17 = .ok (.iconst 0, 1) := by decide +kernel
theorem d_Machine_begin_18 : decode prog_6_method_2_code 18 = .ok (.putfield 69, 3) := by decide +kernel
theorem d_Machine_begin_21 : decode prog_6_method_2_code 21 = .ok (.aload_n 0, 1) := by decide +kernel
theorem d_Machine_begin_22 : decode prog_6_method_2_code 22 = .ok (.getfield 28, 3) := by decide +kernel
theorem d_Machine_begin_25 : decode prog_6_method_2_code 25 = .ok (.iconst 0, 1) := by decide +kernel
theorem d_Machine_begin_26 : decode prog_6_method_2_code 26 = .ok (.putfield 69, 3) := by decide +kernel
theorem d_Machine_begin_29 : decode prog_6_method_2_code 29 = .ok (.aload_n 0, 1) := by decide +kernel
theorem d_Machine_begin_30 : decode prog_6_method_2_code 30 = .ok (.iconst 0, 1) := by decide +kernel
theorem d_Machine_begin_31 : decode prog_6_method_2_code 31 = .ok (.putfield 51, 3) := by decide +kernel
theorem d_Machine_begin_34 : decode prog_6_method_2_code 34 = .ok (.aload_n 0, 1) := by decide +kernel
theorem d_Machine_begin_35 : decode prog_6_method_2_code 35 = .ok (.lconst 0, 1) := by decide +kernel
theorem d_Machine_begin_36 : decode prog_6_method_2_code 36 = .ok (.putfield 54, 3) := by decide +kernel
theorem d_Machine_begin_39 : decode prog_6_method_2_code 39 = .ok (.aload_n 0, 1) := by decide +kernel
theorem d_Machine_begin_40 : decode prog_6_method_2_code 40 = .ok (.aload_n 1, 1) := by decide +kernel
theorem d_Machine_begin_41 : decode prog_6_method_2_code 41 = .ok (.invokevirtual 72, 3) := by decide +kernel
theorem d_Machine_begin_44 : decode prog_6_method_2_code 44 = .ok (.ifCond .ne 8, 3) := by decide +kernel
theorem d_Machine_begin_47 : decode prog_6_method_2_code 47 = .ok (.aload_n 0, 1) := by decide +kernel
theorem d_Machine_begin_48 : decode prog_6_method_2_code 48 = .ok (.iconst 2, 1) := by decide +kernel
theorem d_Machine_begin_49 : decode prog_6_method_2_code 49 = .ok (.invokevirtual 59, 3) := by decide +kernel
theorem d_Machine_begin_52 : decode prog_6_method_2_code 52 = .ok (.return_, 1) := by decide +kernel
set_option maxHeartbeats 4000000 in
set_option maxRecDepth 100000 in
theorem c_fill5 (l : Launch) (dC : Nat → ClassId) (dI : Nat → Nat → Nat) (ar : Nat → ClassId) (N0 : Nat) (z : Nat → Nat) (ad : Nat → Nat) (I : Nat → Int32) (T : Int64) (A : Nat → Nat → Int32) (O : Nat → Option Nat) (pl : va_W) (vv : Int32) (sz w0 : Nat) : Met l ({ cls := "java/util/Arrays", name := "fill", desc := "([II)V" } : Jvm.MethodName) ((Jvm.Cond.code ({ cls := "java/util/Arrays", name := "fill", desc := "([II)V" } : Jvm.MethodName) prog_29_method_103_code (4 : Nat) (Option.none : Option Jvm.ClassFile.FieldType)) :: x_T) ({ frames := 0, cells := 0, slots := 0, locals := 0 }) (y_Pc (dC, dI) ar N0 z (y_W ad ar I T A O pl) sz w0 [.ref (ad 5), .int vv]) (va_Qv (fun (u : (Nat → Int32) × Int64 × (Nat → Nat → Int32) × (Nat → Option Nat) × va_W × (Nat × Nat × Nat × Nat)) => u.1 = I ∧ u.2.1 = T ∧ u.2.2.2.1 = O ∧ u.2.2.2.2.1 = pl) (fun u t => va_P (dC, dI) y_cl (y_W ad ar u.1 u.2.1 u.2.2.1 u.2.2.2.1 u.2.2.2.2.1) t.heap ∧ va_D (va_A (y_W ad ar I T A O pl) sz) (y_W ad ar u.1 u.2.1 u.2.2.1 u.2.2.2.1 u.2.2.2.2.1) ∧ True) (va_A (y_W ad ar I T A O pl) sz)) (0) (0) (va_A (y_W ad ar I T A O pl) sz) := by
  refine Met.ofW (cc := prog_29_method_103_code) (maxL := 4) (ret := none) (by decide) rfl ?_
  intro p e s m args below meth c s₁ B hml hv
  obtain ⟨rfl, hsz, hN0, hP, hU, hZ, hD0, hw0⟩ := hv
  have hK := hU.2.1
  have hx := B.exec
  have hb := B.bytes
  have hr := B.returns
  have hts : ∀ w ∈ x_T, w.before ([.ref (ad 5), .int vv] : List Value).toArray s = true := fun w h => atoms_spec (ws := (Jvm.Cond.code ({ cls := "java/util/Arrays", name := "fill", desc := "([II)V" } : Jvm.MethodName) prog_29_method_103_code (4 : Nat) (Option.none : Option Jvm.ClassFile.FieldType)) :: x_T) B.pre w (List.mem_cons_of_mem _ h)
  have hown : s.vm.findClass "java/util/Arrays" = some m.cls := findClass_of_methodNamed B.named
  have hlocks := B.notSynchronized
  subst hsz
  subst hw0
  have hD := hD0.self (sz := s.heap.size)
  have hAN := x_AN hD0 hN0
  generalize hAe : va_A (y_W ad ar I T A O pl) s.heap.size = Bq at hD hAN ⊢
  have hA : ∀ q : Nat, s.heap.size ≤ q → Bq q := fun q h => by rw [← hAe]; exact Or.inr h
  have hS : va_S Bq s.heap s.heap [] := va_S.rf
  have hl := lv_entry ([.ref (ad 5), .int vv]) (n := 4) (Nat.le_of_ble_eq_true rfl)
  rw [lg_entry_eq]
  generalize (lg_sl ([.ref (ad 5), .int vv]) ++ List.replicate (4 - (lg_sl ([.ref (ad 5), .int vv])).length) Slot.unset).toArray = ls at hl ⊢
  have hl : lv_has ls 4 [(0, .ref (ad 5)), (1, .int vv)] := hl
  refine lv_iconst (v := 0) hx hb d_Arrays_fill_0 (by decide) ?_
  refine W.eq (g2 := F0 m 1 ls [.int (Int32.ofNat 0)]) rfl ?_
  refine lv_istore_n (lv' := [(2, .int (Int32.ofNat 0)), (0, .ref (ad 5)), (1, .int vv)]) hx hb d_Arrays_fill_1 rfl hl (by decide) rfl (fun ls hl => ?_)
  refine lv_aload_n hx hb d_Arrays_fill_2 rfl (lv_at hl 1 rfl) ?_
  have ha5 : (y_W ad ar I T A O pl)[5]? = some (ad 5, .inl (ar 0, 6, .inl (A 5))) := by
    rw [y_W_ar (by decide) (by decide) (by decide), if_neg (by decide)]; try rfl
  refine va_alen hx hb hK hP 5 0 ha5 rfl rfl d_Arrays_fill_3 ?_
  refine lv_istore_n (lv' := [(3, .int (Int32.ofNat 6)), (2, .int (Int32.ofNat 0)), (0, .ref (ad 5)), (1, .int vv)]) hx hb d_Arrays_fill_4 rfl hl (by decide) rfl (fun ls hl => ?_)
  refine x_while (fun n H locs ls => ∃ (A1 : Nat → Nat → Int32) (i1 : Nat), n = 6 - i1 ∧ i1 ≤ 6 ∧ va_P (dC, dI) y_cl (y_W ad ar I T A1 O pl) H ∧ va_D Bq (y_W ad ar I T A1 O pl) ∧ va_S Bq s.heap H locs ∧ lv_has ls 4 [(0, .ref (ad 5)), (1, .int vv), (2, .int (Int32.ofNat i1)), (3, .int (Int32.ofNat 6))]) (fun n ih H locs ls h9 => ?_) ⟨A, 0, rfl, Nat.zero_le _, hP, hD, hS, lv_sub hl [2, 3, 1, 0] rfl⟩
  clear hP hD hS hl
  obtain ⟨A1, i1, hn9, q9, hP, hD, hS, hl⟩ := h9
  refine lv_iload_n hx hb d_Arrays_fill_5 rfl (lv_at hl 2 rfl) ?_
  refine lv_iload_n hx hb d_Arrays_fill_6 rfl (lv_at hl 3 rfl) ?_
  refine lv_icmp_ge (tgt := 20) hx hb d_Arrays_fill_7 (by decide) (fun c_1 => ?_) (fun c_1 => ?_)
  · have c_1 : 6 ≤ i1 := (x_leN (a := 6) (b := i1) (by omega) (by omega)).mp c_1
    refine y_know (fun hy91 hy92 hy93 hy94 => ?_)
    have hac9 : True := trivial
    refine W.widen (k := 0) (n := 0) (by omega) (by omega) ?_
    exact W.vret hx hb hr (fun t ht hW => ⟨⟨(I, T, A1, O, pl, (0, 0, 0, 0)), rfl, ⟨rfl, rfl, rfl, rfl⟩, (by dsimp only; rw [ht]; exact ⟨hP, hD, hac9⟩)⟩, hS.F ht⟩) hS.2.2 d_Arrays_fill_20
  · have c_1 : ¬ 6 ≤ i1 := fun h9 => c_1 ((x_leN (a := 6) (b := i1) (by omega) (by omega)).mpr h9)
    refine lv_aload_n hx hb d_Arrays_fill_10 rfl (lv_at hl 0 rfl) ?_
    refine lv_iload_n hx hb d_Arrays_fill_11 rfl (lv_at hl 2 rfl) ?_
    refine lv_iload_n hx hb d_Arrays_fill_12 rfl (lv_at hl 1 rfl) ?_
    refine k_st hx hb hK hP hD hS 5 (by decide) (by decide) (by decide) (by decide) (j := (Int32.ofNat i1)) (x := vv) (x_inN (show i1 < 6 from by omega) (by decide)) d_Arrays_fill_13 (fun H locs hP hD hS => ?_)
    generalize m_up A1 5 _ = A2 at hP hD
    refine lv_iinc (v := (Int32.ofNat (i1 + 1))) (lv' := [(2, .int (Int32.ofNat (i1 + 1))), (0, .ref (ad 5)), (1, .int vv), (3, .int (Int32.ofNat 6))]) hx hb d_Arrays_fill_14 hl (k := 2) rfl (x_incN i1) (by decide) rfl (fun ls hl => ?_)
    refine lv_goto (tgt := 5) hx hb d_Arrays_fill_17 (by decide) ?_
    exact ih (6 - (i1 + 1)) (by omega) H locs ls ⟨A2, i1 + 1, rfl, by omega, hP, hD, hS, lv_sub hl [1, 2, 0, 3] rfl⟩
set_option maxHeartbeats 4000000 in
set_option maxRecDepth 100000 in
theorem c_M_begin (l : Launch) (dC : Nat → ClassId) (dI : Nat → Nat → Nat) (ar : Nat → ClassId) (N0 : Nat) (z : Nat → Nat) (ad : Nat → Nat) (I : Nat → Int32) (T : Int64) (A : Nat → Nat → Int32) (O : Nat → Option Nat) (pl : va_W) (G : Nat → Nat) (C Gs : Nat → List Nat) (qn sn cq cs : Nat) (tt : Nat) (sz w0 : Nat) (hmi : y_MI z ar G C Gs I O (y_L pl) (qn, sn, cq, cs)) (htt : G tt = 8) : Met l ({ cls := "ChannelMachine$Machine", name := "begin", desc := "(LChannelMachine$Task;)V" } : Jvm.MethodName) ((Jvm.Cond.code ({ cls := "ChannelMachine$Machine", name := "begin", desc := "(LChannelMachine$Task;)V" } : Jvm.MethodName) prog_6_method_2_code (2 : Nat) (Option.none : Option Jvm.ClassFile.FieldType)) :: x_T) ({ frames := 8, cells := y_gc 0 cq, slots := y_gs 0 cq, locals := 212 }) (y_Pc (dC, dI) ar N0 z (y_W ad ar I T A O pl) sz w0 [.ref (ad 4), .ref tt]) (va_Qv (fun (u : (Nat → Int32) × Int64 × (Nat → Nat → Int32) × (Nat → Option Nat) × va_W × (Nat × Nat × Nat × Nat)) => y_MI z ar G C Gs u.1 u.2.2.2.1 (y_L u.2.2.2.2.1) u.2.2.2.2.2 ∧ y_bd (qn, sn, cq, cs) u.2.2.2.2.2 1 0 ∧ m_fr [7, 8, 9, 10, 11, 12, 13, 14, 15] I u.1 ∧ u.1 9 = Int32.ofNat 0) (fun u t => va_P (dC, dI) y_cl (y_W ad ar u.1 u.2.1 u.2.2.1 u.2.2.2.1 u.2.2.2.2.1) t.heap ∧ va_D (va_A (y_W ad ar I T A O pl) sz) (y_W ad ar u.1 u.2.1 u.2.2.1 u.2.2.2.1 u.2.2.2.2.1) ∧ y_ac (cq + cs) sz w0 (u.2.2.2.2.2.2.2.1 + u.2.2.2.2.2.2.2.2) t.heap) (va_A (y_W ad ar I T A O pl) sz)) (y_gc 0 cq) (y_gs 0 cq) (va_A (y_W ad ar I T A O pl) sz) := by
  refine Met.ofW (cc := prog_6_method_2_code) (maxL := 2) (ret := none) (by decide) rfl ?_
  intro p e s m args below meth c s₁ B hml hv
  obtain ⟨rfl, hsz, hN0, hP, hU, hZ, hD0, hw0⟩ := hv
  have hK := hU.2.1
  have hx := B.exec
  have hb := B.bytes
  have hr := B.returns
  have hts : ∀ w ∈ x_T, w.before ([.ref (ad 4), .ref tt] : List Value).toArray s = true := fun w h => atoms_spec (ws := (Jvm.Cond.code ({ cls := "ChannelMachine$Machine", name := "begin", desc := "(LChannelMachine$Task;)V" } : Jvm.MethodName) prog_6_method_2_code (2 : Nat) (Option.none : Option Jvm.ClassFile.FieldType)) :: x_T) B.pre w (List.mem_cons_of_mem _ h)
  have hown : s.vm.findClass "ChannelMachine$Machine" = some m.cls := findClass_of_methodNamed B.named
  have hlocks := B.notSynchronized
  subst hsz
  subst hw0
  have hD := hD0.self (sz := s.heap.size)
  have hAN := x_AN hD0 hN0
  generalize hAe : va_A (y_W ad ar I T A O pl) s.heap.size = Bq at hD hAN ⊢
  have hA : ∀ q : Nat, s.heap.size ≤ q → Bq q := fun q h => by rw [← hAe]; exact Or.inr h
  have hS : va_S Bq s.heap s.heap [] := va_S.rf
  have hl := lv_entry ([.ref (ad 4), .ref tt]) (n := 2) (Nat.le_of_ble_eq_true rfl)
  rw [lg_entry_eq]
  generalize (lg_sl ([.ref (ad 4), .ref tt]) ++ List.replicate (2 - (lg_sl ([.ref (ad 4), .ref tt])).length) Slot.unset).toArray = ls at hl ⊢
  have hl : lv_has ls 2 [(0, .ref (ad 4)), (1, .ref tt)] := hl
  have hle := y_LS.le hmi.2.1.2
  dsimp only at hle
  have hcap := hmi.2.2.2.2.1
  dsimp only at hcap
  have hgg := y_gg 0 cq
  refine lv_aload_n hx hb d_Machine_begin_0 rfl (lv_at hl 0 rfl) ?_
  refine lv_iconst (v := 1) hx hb d_Machine_begin_1 (by decide) ?_
  have hFc := y_free hD hS hA
  refine va_callv (va_runV (As := [.int 1]) (rest := []) ⟨hx, hb, hml, hown, hts⟩ (c_M_close l dC dI ar N0 z ad I T A O pl G C Gs qn sn cq cs (1) s.heap.size (y_hs s.heap) hmi) (cwV 1 hts (x_goodV k_616 k_618 kp_20 k_3 k_619) rfl rfl rfl (by decide +kernel) ⟨Nat.le_of_ble_eq_true rfl, Nat.le_of_ble_eq_true rfl⟩) ⟨y_blind, va_recv hK hP (ci := 2) (q0 := 4) rfl (y_W_ob (by decide) (by decide)), fun U9 hU9 hW9 => y_pre hU9 hW9 hP hD hU hZ hS hAN hN0⟩ rfl rfl hl.1 rfl (lv_room (Nat.le_of_ble_eq_true rfl)) d_Machine_begin_2 ⟨(by show 0 + (0) ≤ y_gc 0 cq; omega), (by show 0 + (0) ≤ y_gs 0 cq; omega)⟩) hS (fun q _ h => hFc q h) hFc (fun u t H1 locs ht hvm hw hB hz1 hk1 hS => ?_)
  obtain ⟨I1, T1, A1, O1, pl1, q1, s1, cq1, cs1⟩ := u
  dsimp only at hw hB
  rw [ht] at hB
  obtain ⟨hP, hD1, hac1⟩ := hB
  have hD : va_D Bq (y_W ad ar I1 T1 A1 O1 pl1) := hD1.weaken (fun _ q _ h => hFc q.1 h)
  generalize H1 = H at hP hS hac1 ⊢
  have hae1 := hac1
  try unfold y_ac at hae1
  try dsimp only at hae1
  refine W.widen (k := 0) (n := 0) (by omega) (by omega) ?_
  obtain ⟨hmi, e5, fr1, h71, e2, e3, hcl1⟩ := hw
  cases e5
  rw [e2, e3] at hP hD
  have hP : va_P (dC, dI) y_cl (y_W ad ar I1 T A O1 pl1) H := hP
  have hD : va_D Bq (y_W ad ar I1 T A O1 pl1) := hD
  have hmi : y_MI z ar G C Gs I1 O1 (y_L pl1) (0, 0, cq, cs) := hmi
  have hbdr1 : y_bd (qn, sn, cq, cs) (0, 0, cq, cs) 0 0 := ⟨by dsimp only; omega, by dsimp only; omega, Or.inl rfl, Or.inl rfl⟩
  refine lv_aload_n hx hb d_Machine_begin_5 rfl (lv_at hl 0 rfl) ?_
  refine k_g (C := "ChannelMachine$Machine") (F := F_Machine) (N := 11) hx hb hts i_Machine hown hK hP 4 0 (by decide) (by decide) rfl (by decide) (d := (0, 5)) rfl (hts _ k_150) (fun _ h9 => h9) (v := .ref (ad 5)) rfl d_Machine_begin_6 ?_
  refine lv_iconst (v := 0) hx hb d_Machine_begin_9 (by decide) ?_
  have hFc := y_free hD hS hA
  refine va_callv (va_runS (As := [.ref (ad 5), .int 0]) (rest := []) ⟨hx, hb, hml, hown, hts⟩ (c_fill5 l dC dI ar N0 z ad I1 T A O1 pl1 (0) H.size (y_hs H) ) (va_cwS 2 hts (x_goodSW k_629 k_630 k_21 k_631) rfl rfl rfl (by decide +kernel) ⟨Nat.le_of_ble_eq_true rfl, Nat.le_of_ble_eq_true rfl⟩) ⟨y_blind, fun U9 hU9 hW9 => y_pre hU9 hW9 hP hD hU hZ hS hAN hN0⟩ rfl rfl hl.1 rfl (lv_room (Nat.le_of_ble_eq_true rfl)) d_Machine_begin_10 ⟨(by show 0 + (0) ≤ y_gc 0 cq; omega), (by show 0 + (0) ≤ y_gs 0 cq; omega)⟩) hS (fun q _ h => hFc q h) hFc (fun u t H1 locs ht hvm hw hB hz1 hk1 hS => ?_)
  obtain ⟨I2, T2, A2, O2, pl2, q2, s2, cq2, cs2⟩ := u
  dsimp only at hw hB
  rw [ht] at hB
  obtain ⟨hP, hD1, hac2⟩ := hB
  have hD : va_D Bq (y_W ad ar I2 T2 A2 O2 pl2) := hD1.weaken (fun _ q _ h => hFc q.1 h)
  generalize H1 = H at hP hS hac2 ⊢
  have hae2 := hac2
  try unfold y_ac at hae2
  try dsimp only at hae2
  refine W.widen (k := 0) (n := 0) (by omega) (by omega) ?_
  obtain ⟨e1, e2, e3, e4⟩ := hw
  rw [e1, e2, e3, e4] at hP hD
  refine lv_aload_n hx hb d_Machine_begin_13 rfl (lv_at hl 0 rfl) ?_
  refine k_g (C := "ChannelMachine$Machine") (F := F_Machine) (N := 11) hx hb hts i_Machine hown hK hP 4 2 (by decide) (by decide) rfl (by decide) (d := (0, 7)) rfl (hts _ k_154) (fun _ h9 => h9) (v := .ref (ad 7)) rfl d_Machine_begin_14 ?_
  refine lv_iconst (v := 0) hx hb d_Machine_begin_17 (by decide) ?_
  refine W.eq (g2 := F0 m 18 ls [.int (Int32.ofNat 0), .ref (ad 7)]) rfl ?_
  refine k_piN (C := "ChannelMachine$Row") (F := F_Row) (N := 2) hx hb hts i_Row hown t_Row t_Row_ok n_Row hK hP hD hS 7 1 (by decide) (by decide) rfl (by decide) (j := 10) (x := (Int32.ofNat 0)) rfl (hU.1.2.1 _ kn_93) (fun _ h9 => h9) rfl (by decide +kernel) d_Machine_begin_18 (fun H locs hP hD hS => ?_)
  have hmi : y_MI z ar G C Gs (upd I1 10 (Int32.ofNat 0)) O1 (y_L pl1) (0, 0, cq, cs) := hmi.r10 (by omega)
  refine lv_aload_n hx hb d_Machine_begin_21 rfl (lv_at hl 0 rfl) ?_
  refine k_g (C := "ChannelMachine$Machine") (F := F_Machine) (N := 11) hx hb hts i_Machine hown hK hP 4 3 (by decide) (by decide) rfl (by decide) (d := (0, 9)) rfl (hts _ k_156) (fun _ h9 => h9) (v := .ref (ad 9)) rfl d_Machine_begin_22 ?_
  refine lv_iconst (v := 0) hx hb d_Machine_begin_25 (by decide) ?_
  refine W.eq (g2 := F0 m 26 ls [.int (Int32.ofNat 0), .ref (ad 9)]) rfl ?_
  refine k_piN (C := "ChannelMachine$Row") (F := F_Row) (N := 2) hx hb hts i_Row hown t_Row t_Row_ok n_Row hK hP hD hS 9 1 (by decide) (by decide) rfl (by decide) (j := 11) (x := (Int32.ofNat 0)) rfl (hU.1.2.1 _ kn_93) (fun _ h9 => h9) rfl (by decide +kernel) d_Machine_begin_26 (fun H locs hP hD hS => ?_)
  have hmi : y_MI z ar G C Gs (upd (upd I1 10 (Int32.ofNat 0)) 11 (Int32.ofNat 0)) O1 (y_L pl1) (0, 0, cq, cs) := hmi.r11 (by omega)
  refine lv_aload_n hx hb d_Machine_begin_29 rfl (lv_at hl 0 rfl) ?_
  refine lv_iconst (v := 0) hx hb d_Machine_begin_30 (by decide) ?_
  refine W.eq (g2 := F0 m 31 ls [.int (Int32.ofNat 0), .ref (ad 4)]) rfl ?_
  refine k_pi (C := "ChannelMachine$Machine") (F := F_Machine) (N := 11) hx hb hts i_Machine hown t_Machine t_Machine_ok n_Machine hK hP hD hS 4 9 (by decide) (by decide) rfl (by decide) (j := 9) (x := (Int32.ofNat 0)) rfl (hts _ k_167) (fun _ h9 => h9) rfl (by decide +kernel) d_Machine_begin_31 (fun H locs hP hD hS => ?_)
  have hmi : y_MI z ar G C Gs (upd (upd (upd I1 10 (Int32.ofNat 0)) 11 (Int32.ofNat 0)) 9 (Int32.ofNat 0)) O1 (y_L pl1) (0, 0, cq, cs) := hmi
  refine lv_aload_n hx hb d_Machine_begin_34 rfl (lv_at hl 0 rfl) ?_
  refine lv_lconst (v := 0) hx hb d_Machine_begin_35 (by decide) ?_
  refine k_pt (C := "ChannelMachine$Machine") (F := F_Machine) (N := 11) hx hb hts i_Machine hown t_Machine t_Machine_ok n_Machine hK hP hD hS 4 10 (by decide) (by decide) rfl (by decide) (x := 0) rfl (hts _ k_169) (fun _ h9 => h9) rfl (by decide +kernel) d_Machine_begin_36 (fun H locs hP hD hS => ?_)
  have hmi : y_MI z ar G C Gs (upd (upd (upd I1 10 (Int32.ofNat 0)) 11 (Int32.ofNat 0)) 9 (Int32.ofNat 0)) O1 (y_L pl1) (0, 0, cq, cs) := hmi
  refine lv_aload_n hx hb d_Machine_begin_39 rfl (lv_at hl 0 rfl) ?_
  refine lv_aload_n hx hb d_Machine_begin_40 rfl (lv_at hl 1 rfl) ?_
  have hgg3 := y_gg 0 cq
  refine y_know (fun hya1 hya2 hya3 hya4 => ?_)
  have hFc := y_free hD hS hA
  refine va_calli (va_runV (As := [.ref tt]) (rest := []) ⟨hx, hb, hml, hown, hts⟩ (c_M_start l dC dI ar N0 z ad (upd (upd (upd I1 10 (Int32.ofNat 0)) 11 (Int32.ofNat 0)) 9 (Int32.ofNat 0)) 0 A2 O1 pl1 G C Gs 0 0 cq cs tt H.size (y_hs H) hmi htt (by omega)) (cwV 1 hts (x_goodV k_632 k_634 kp_21 k_3 k_635) rfl rfl rfl (by decide +kernel) ⟨Nat.le_of_ble_eq_true rfl, Nat.le_of_ble_eq_true rfl⟩) ⟨y_blind, va_recv hK hP (ci := 2) (q0 := 4) rfl (y_W_ob (by decide) (by decide)), fun U9 hU9 hW9 => y_pre hU9 hW9 hP hD hU hZ hS hAN hN0⟩ rfl rfl hl.1 rfl (lv_room (Nat.le_of_ble_eq_true rfl)) d_Machine_begin_41 ⟨(by show 0 + (y_gc 0 cq) ≤ y_gc 0 cq; omega), (by show 0 + (y_gs 0 cq) ≤ y_gs 0 cq; omega)⟩) hS (fun q _ h => hFc q h) hFc (fun r_4 u t H1 locs ht hvm hw hB hz1 hk1 hS => ?_)
  obtain ⟨I5, T5, A5, O5, pl5, q5, s5, cq5, cs5⟩ := u
  dsimp only at hw hB
  rw [ht] at hB
  obtain ⟨hP, hD1, hac5⟩ := hB
  have hD : va_D Bq (y_W ad ar I5 T5 A5 O5 pl5) := hD1.weaken (fun _ q _ h => hFc q.1 h)
  generalize H1 = H at hP hS hac5 ⊢
  have hae5 := hac5
  try unfold y_ac at hae5
  try dsimp only at hae5
  obtain ⟨hmi, hbd5, fr5, hr9⟩ := hw
  unfold y_ac at hac5
  have hb5 := hbd5
  unfold y_bd at hb5
  dsimp only at hb5 hac5
  rcases hr9 with rfl | rfl
  · refine lv_if_ne (tgt := 52) hx hb d_Machine_begin_44 (by decide) (fun c6 => absurd rfl c6) (fun _ => ?_)
    refine lv_aload_n hx hb d_Machine_begin_47 rfl (lv_at hl 0 rfl) ?_
    refine lv_iconst (v := 2) hx hb d_Machine_begin_48 (by decide) ?_
    have hFc := y_free hD hS hA
    refine va_callv (va_runV (As := [.int 2]) (rest := []) ⟨hx, hb, hml, hown, hts⟩ (c_M_close l dC dI ar N0 z ad I5 T5 A5 O5 pl5 G C Gs q5 s5 cq5 cs5 (2) H.size (y_hs H) hmi) (cwV 1 hts (x_goodV k_616 k_618 kp_20 k_3 k_619) rfl rfl rfl (by decide +kernel) ⟨Nat.le_of_ble_eq_true rfl, Nat.le_of_ble_eq_true rfl⟩) ⟨y_blind, va_recv hK hP (ci := 2) (q0 := 4) rfl (y_W_ob (by decide) (by decide)), fun U9 hU9 hW9 => y_pre hU9 hW9 hP hD hU hZ hS hAN hN0⟩ rfl rfl hl.1 rfl (lv_room (Nat.le_of_ble_eq_true rfl)) d_Machine_begin_49 ⟨(by show 0 + (y_gc 0 cq) + (0) ≤ y_gc 0 cq; omega), (by show 0 + (y_gs 0 cq) + (0) ≤ y_gs 0 cq; omega)⟩) hS (fun q _ h => hFc q h) hFc (fun u t H1 locs ht hvm hw hB hz1 hk1 hS => ?_)
    obtain ⟨I7, T7, A7, O7, pl7, q7, s7, cq7, cs7⟩ := u
    dsimp only at hw hB
    rw [ht] at hB
    obtain ⟨hP, hD1, hac7⟩ := hB
    have hD : va_D Bq (y_W ad ar I7 T7 A7 O7 pl7) := hD1.weaken (fun _ q _ h => hFc q.1 h)
    generalize H1 = H at hP hS hac7 ⊢
    have hae7 := hac7
    try unfold y_ac at hae7
    try dsimp only at hae7
    refine W.widen (k := 0 + (y_gc 0 cq)) (n := 0 + (y_gs 0 cq)) (by omega) (by omega) ?_
    obtain ⟨hmi, e5, fr7, h77, e2, e3, hcl7⟩ := hw
    cases e5
    rw [e2, e3] at hP hD
    have hP : va_P (dC, dI) y_cl (y_W ad ar I7 T5 A5 O7 pl7) H := hP
    have hD : va_D Bq (y_W ad ar I7 T5 A5 O7 pl7) := hD
    have hmi : y_MI z ar G C Gs I7 O7 (y_L pl7) (0, 0, cq5, cs5) := hmi
    have hbdr7 : y_bd (q5, s5, cq5, cs5) (0, 0, cq5, cs5) 0 0 := ⟨by dsimp only; omega, by dsimp only; omega, Or.inl rfl, Or.inl rfl⟩
    refine y_know (fun hy91 hy92 hy93 hy94 => ?_)
    have hac9 : y_ac (cq + cs) s.heap.size (y_hs s.heap) (cq5 + cs5) H := ⟨by omega, by omega⟩
    refine W.widen (k := y_gc 0 cq) (n := y_gs 0 cq) (by omega) (by omega) ?_
    exact W.vret hx hb hr (fun t ht hW => ⟨⟨(I7, T5, A5, O7, pl7, (0, 0, cq5, cs5)), rfl, ⟨hmi, (y_bd.tr (y_bd.tr (y_bd.tr hbdr1 hbd5 (e := 1) (g := 0) (by decide) (by decide)) hbdr7 (e := 1) (g := 0) (by decide) (by decide)) (y_bd.rf (a := 0) (b := 0)) (e := 1) (g := 0) (by decide) (by decide)), ((((((m_fr.rf.tr fr1 (by decide)).up (by decide) _).up (by decide) _).up (by decide) _).tr fr5 (by decide)).tr fr7 (by decide)), ((fr7 9 (by decide)).trans ((fr5 9 (by decide)).trans rfl))⟩, (by dsimp only; rw [ht]; exact ⟨hP, hD, hac9⟩)⟩, hS.F ht⟩) hS.2.2 d_Machine_begin_52
  · refine lv_if_ne (tgt := 52) hx hb d_Machine_begin_44 (by decide) (fun _ => ?_) (fun c8 => absurd c8 (by decide))
    refine y_know (fun hy91 hy92 hy93 hy94 => ?_)
    have hac9 : y_ac (cq + cs) s.heap.size (y_hs s.heap) (cq5 + cs5) H := ⟨by omega, by omega⟩
    refine W.widen (k := y_gc 0 cq) (n := y_gs 0 cq) (by omega) (by omega) ?_
    exact W.vret hx hb hr (fun t ht hW => ⟨⟨(I5, T5, A5, O5, pl5, (q5, s5, cq5, cs5)), rfl, ⟨hmi, (y_bd.tr (y_bd.tr hbdr1 hbd5 (e := 1) (g := 0) (by decide) (by decide)) (y_bd.rf (a := 0) (b := 0)) (e := 1) (g := 0) (by decide) (by decide)), (((((m_fr.rf.tr fr1 (by decide)).up (by decide) _).up (by decide) _).up (by decide) _).tr fr5 (by decide)), ((fr5 9 (by decide)).trans rfl)⟩, (by dsimp only; rw [ht]; exact ⟨hP, hD, hac9⟩)⟩, hS.F ht⟩) hS.2.2 d_Machine_begin_52
