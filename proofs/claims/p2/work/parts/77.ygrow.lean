-- ===== 77.ygrow: grow, add of a list, by program =====
theorem k_24 : (Jvm.Cond.initialized "jdk/internal/util/ArraysSupport") ∈ x_T := x_at 24 (by decide +kernel) (by decide +kernel)
theorem k_661 : (Jvm.Cond.methodLink "java/util/ArrayList" (129 : Nat) ({ cls := "java/util/ArrayList", name := "grow", desc := "()[Ljava/lang/Object;" } : Jvm.MethodName)) ∈ x_T := x_at 661 (by decide +kernel) (by decide +kernel)
theorem k_663 : (Jvm.Cond.instanceMethod ({ cls := "java/util/ArrayList", name := "grow", desc := "()[Ljava/lang/Object;" } : Jvm.MethodName)) ∈ x_T := x_at 663 (by decide +kernel) (by decide +kernel)
theorem k_664 : (Jvm.Cond.code ({ cls := "java/util/ArrayList", name := "grow", desc := "()[Ljava/lang/Object;" } : Jvm.MethodName) prog_28_method_7_code (1 : Nat) (Option.some (Jvm.ClassFile.FieldType.array (Jvm.ClassFile.FieldType.object "java/lang/Object")))) ∈ x_T := x_at 664 (by decide +kernel) (by decide +kernel)
theorem k_665 : (Jvm.Cond.methodLink "java/util/ArrayList" (69 : Nat) ({ cls := "java/util/ArrayList", name := "grow", desc := "(I)[Ljava/lang/Object;" } : Jvm.MethodName)) ∈ x_T := x_at 665 (by decide +kernel) (by decide +kernel)
theorem k_667 : (Jvm.Cond.instanceMethod ({ cls := "java/util/ArrayList", name := "grow", desc := "(I)[Ljava/lang/Object;" } : Jvm.MethodName)) ∈ x_T := x_at 667 (by decide +kernel) (by decide +kernel)
theorem k_668 : (Jvm.Cond.code ({ cls := "java/util/ArrayList", name := "grow", desc := "(I)[Ljava/lang/Object;" } : Jvm.MethodName) prog_28_method_6_code (4 : Nat) (Option.some (Jvm.ClassFile.FieldType.array (Jvm.ClassFile.FieldType.object "java/lang/Object")))) ∈ x_T := x_at 668 (by decide +kernel) (by decide +kernel)
theorem k_669 : (Jvm.Cond.methodLink "java/util/ArrayList" (73 : Nat) ({ cls := "jdk/internal/util/ArraysSupport", name := "newLength", desc := "(III)I" } : Jvm.MethodName)) ∈ x_T := x_at 669 (by decide +kernel) (by decide +kernel)
theorem k_670 : (Jvm.Cond.static ({ cls := "jdk/internal/util/ArraysSupport", name := "newLength", desc := "(III)I" } : Jvm.MethodName)) ∈ x_T := x_at 670 (by decide +kernel) (by decide +kernel)
theorem k_671 : (Jvm.Cond.code ({ cls := "jdk/internal/util/ArraysSupport", name := "newLength", desc := "(III)I" } : Jvm.MethodName) prog_36_method_27_code (4 : Nat) (Option.some Jvm.ClassFile.FieldType.int)) ∈ x_T := x_at 671 (by decide +kernel) (by decide +kernel)
theorem k_677 : (Jvm.Cond.methodLink "java/util/ArrayList" (66 : Nat) ({ cls := "java/util/Arrays", name := "copyOf", desc := "([Ljava/lang/Object;I)[Ljava/lang/Object;" } : Jvm.MethodName)) ∈ x_T := x_at 677 (by decide +kernel) (by decide +kernel)
theorem k_678 : (Jvm.Cond.static ({ cls := "java/util/Arrays", name := "copyOf", desc := "([Ljava/lang/Object;I)[Ljava/lang/Object;" } : Jvm.MethodName)) ∈ x_T := x_at 678 (by decide +kernel) (by decide +kernel)
theorem k_679 : (Jvm.Cond.code ({ cls := "java/util/Arrays", name := "copyOf", desc := "([Ljava/lang/Object;I)[Ljava/lang/Object;" } : Jvm.MethodName) prog_29_method_119_code (2 : Nat) (Option.some (Jvm.ClassFile.FieldType.array (Jvm.ClassFile.FieldType.object "java/lang/Object")))) ∈ x_T := x_at 679 (by decide +kernel) (by decide +kernel)
theorem k_705 : (Jvm.Cond.methodLink "java/util/ArrayList" (79 : Nat) ({ cls := "java/lang/Math", name := "max", desc := "(II)I" } : Jvm.MethodName)) ∈ x_T := x_at 705 (by decide +kernel) (by decide +kernel)
theorem k_706 : (Jvm.Cond.classLink "java/util/ArrayList" (7 : Nat) "java/lang/Object") ∈ x_T := x_at 706 (by decide +kernel) (by decide +kernel)
theorem kp_23 : (Jvm.Cond.selects "java/util/ArrayList" ({ cls := "java/util/ArrayList", name := "grow", desc := "()[Ljava/lang/Object;" } : Jvm.MethodName) ({ cls := "java/util/ArrayList", name := "grow", desc := "()[Ljava/lang/Object;" } : Jvm.MethodName)) ∈ x_T := x_sel (q := (({ cls := "java/util/ArrayList", name := "grow", desc := "()[Ljava/lang/Object;" } : Jvm.MethodName), 3)) 23 (by decide +kernel) (by decide +kernel)
theorem kp_24 : (Jvm.Cond.selects "java/util/ArrayList" ({ cls := "java/util/ArrayList", name := "grow", desc := "(I)[Ljava/lang/Object;" } : Jvm.MethodName) ({ cls := "java/util/ArrayList", name := "grow", desc := "(I)[Ljava/lang/Object;" } : Jvm.MethodName)) ∈ x_T := x_sel (q := (({ cls := "java/util/ArrayList", name := "grow", desc := "(I)[Ljava/lang/Object;" } : Jvm.MethodName), 3)) 24 (by decide +kernel) (by decide +kernel)
theorem d_ArrayList_grow1_0 : decode prog_28_method_6_code 0 = .ok (.aload_n 0, 1) := by decide +kernel
theorem d_ArrayList_grow1_1 : decode prog_28_method_6_code 1 = .ok (.getfield 9, 3) := by decide +kernel
theorem d_ArrayList_grow1_4 : decode prog_28_method_6_code 4 = .ok (.arraylength, 1) := by decide +kernel
theorem d_ArrayList_grow1_5 : decode prog_28_method_6_code 5 = .ok (.istore_n 2, 1) := by decide +kernel
theorem d_ArrayList_grow1_6 : decode prog_28_method_6_code 6 = .ok (.iload_n 2, 1) := by decide +kernel
theorem d_ArrayList_grow1_7 : decode prog_28_method_6_code 7 = .ok (.ifCond .gt 13, 3) := by decide +kernel
theorem d_ArrayList_grow1_10 : decode prog_28_method_6_code 10 = .ok (.aload_n 0, 1) := by decide +kernel
theorem d_ArrayList_grow1_11 : decode prog_28_method_6_code 11 = .ok (.getfield 9, 3) := by decide +kernel
theorem d_ArrayList_grow1_14 : decode prog_28_method_6_code 14 = .ok (.getstatic 39, 3) := by decide +kernel
theorem d_ArrayList_grow1_17 : decode prog_28_method_6_code 17 = .ok (.if_acmp .eq 28, 3) := by decide +kernel
theorem d_ArrayList_grow1_20 : decode prog_28_method_6_code 20 = .ok (.iload_n 2, 1) := by decide +kernel
theorem d_ArrayList_grow1_21 : decode prog_28_method_6_code 21 = .ok (.iload_n 1, 1) := by decide +kernel
theorem d_ArrayList_grow1_22 : decode prog_28_method_6_code 22 = .ok (.iload_n 2, 1) := by decide +kernel
theorem d_ArrayList_grow1_23 : decode prog_28_method_6_code 23 = .ok (.isub, 1) := by decide +kernel
theorem d_ArrayList_grow1_24 : decode prog_28_method_6_code 24 = .ok (.iload_n 2, 1) := by decide +kernel
theorem d_ArrayList_grow1_25 : decode prog_28_method_6_code 25 = .ok (.iconst 1, 1) := by decide +kernel
theorem d_ArrayList_grow1_26 : decode prog_28_method_6_code 26 = .ok (.ishr, 1) := by decide +kernel
theorem d_ArrayList_grow1_27 : decode prog_28_method_6_code 27 = .ok (.invokestatic 73, 3) := by decide +kernel
theorem d_ArrayList_grow1_30 : decode prog_28_method_6_code 30 = .ok (.istore_n 3, 1) := by decide +kernel
theorem d_ArrayList_grow1_31 : decode prog_28_method_6_code 31 = .ok (.aload_n 0, 1) := by decide +kernel
theorem d_ArrayList_grow1_32 : decode prog_28_method_6_code 32 = .ok (.aload_n 0, 1) := by decide +kernel
theorem d_ArrayList_grow1_33 : decode prog_28_method_6_code 33 = .ok (.getfield 9, 3) := by decide +kernel
theorem d_ArrayList_grow1_36 : decode prog_28_method_6_code 36 = .ok (.iload_n 3, 1) := by decide +kernel
theorem d_ArrayList_grow1_37 : decode prog_28_method_6_code 37 = .ok (.invokestatic 66, 3) := by decide +kernel
theorem d_ArrayList_grow1_40 : decode prog_28_method_6_code 40 = .ok (.dup_x1, 1) := by decide +kernel
theorem d_ArrayList_grow1_41 : decode prog_28_method_6_code 41 = .ok (.putfield 9, 3) := by decide +kernel
theorem d_ArrayList_grow1_44 : decode prog_28_method_6_code 44 = .ok (.areturn, 1) := by decide +kernel
theorem d_ArrayList_grow1_45 : decode prog_28_method_6_code 45 = .ok (.aload_n 0, 1) := by decide +kernel
theorem d_ArrayList_grow1_46 : decode prog_28_method_6_code 46 = .ok (.bipush 10, 2) := by decide +kernel
theorem d_ArrayList_grow1_48 : decode prog_28_method_6_code 48 = .ok (.iload_n 1, 1) := by decide +kernel
theorem d_ArrayList_grow1_49 : decode prog_28_method_6_code 49 = .ok (.invokestatic 79, 3) := by decide +kernel
theorem d_ArrayList_grow1_52 : decode prog_28_method_6_code 52 = .ok (.anewarray 7, 3) := by decide +kernel
theorem d_ArrayList_grow1_55 : decode prog_28_method_6_code 55 = .ok (.dup_x1, 1) := by decide +kernel
theorem d_ArrayList_grow1_56 : decode prog_28_method_6_code 56 = .ok (.putfield 9, 3) := by decide +kernel
theorem d_ArrayList_grow1_59 : decode prog_28_method_6_code 59 = .ok (.areturn, 1) := by decide +kernel
theorem d_ArrayList_grow_0 : decode prog_28_method_7_code 0 = .ok (.aload_n 0, 1) := by decide +kernel
theorem d_ArrayList_grow_1 : decode prog_28_method_7_code 1 = .ok (.aload_n 0, 1) := by decide +kernel
theorem d_ArrayList_grow_2 : decode prog_28_method_7_code 2 = .ok (.getfield 48, 3) := by decide +kernel
theorem d_ArrayList_grow_5 : decode prog_28_method_7_code 5 = .ok (.iconst 1, 1) := by decide +kernel
theorem d_ArrayList_grow_6 : decode prog_28_method_7_code 6 = .ok (.iadd, 1) := by decide +kernel
theorem d_ArrayList_grow_7 : decode prog_28_method_7_code 7 = .ok (.invokevirtual 69, 3) := by decide +kernel
theorem d_ArrayList_grow_10 : decode prog_28_method_7_code 10 = .ok (.areturn, 1) := by decide +kernel
theorem d_ArrayList_add3_0 : decode prog_28_method_24_code 0 = .ok (.iload_n 3, 1) := by decide +kernel
theorem d_ArrayList_add3_1 : decode prog_28_method_24_code 1 = .ok (.aload_n 2, 1) := by decide +kernel
theorem d_ArrayList_add3_2 : decode prog_28_method_24_code 2 = .ok (.arraylength, 1) := by decide +kernel
theorem d_ArrayList_add3_3 : decode prog_28_method_24_code 3 = .ok (.if_icmp .ne 8, 3) := by decide +kernel
theorem d_ArrayList_add3_6 : decode prog_28_method_24_code 6 = .ok (.aload_n 0, 1) := by decide +kernel
theorem d_ArrayList_add3_7 : decode prog_28_method_24_code 7 = .ok (.invokevirtual 129, 3) := by decide +kernel
theorem d_ArrayList_add3_10 : decode prog_28_method_24_code 10 = .ok (.astore_n 2, 1) := by decide +kernel
theorem d_ArrayList_add3_11 : decode prog_28_method_24_code 11 = .ok (.aload_n 2, 1) := by decide +kernel
theorem d_ArrayList_add3_12 : decode prog_28_method_24_code 12 = .ok (.iload_n 3, 1) := by decide +kernel
theorem d_ArrayList_add3_13 : decode prog_28_method_24_code 13 = .ok (.aload_n 1, 1) := by decide +kernel
theorem d_ArrayList_add3_14 : decode prog_28_method_24_code 14 = .ok (.aastore, 1) := by decide +kernel
theorem d_ArrayList_add3_15 : decode prog_28_method_24_code 15 = .ok (.aload_n 0, 1) := by decide +kernel
theorem d_ArrayList_add3_16 : decode prog_28_method_24_code 16 = .ok (.iload_n 3, 1) := by decide +kernel
theorem d_ArrayList_add3_17 : decode prog_28_method_24_code 17 = .ok (.iconst 1, 1) := by decide +kernel
theorem d_ArrayList_add3_18 : decode prog_28_method_24_code 18 = .ok (.iadd, 1) := by decide +kernel
theorem d_ArrayList_add3_19 : decode prog_28_method_24_code 19 = .ok (.putfield 48, 3) := by decide +kernel
theorem d_ArrayList_add3_22 : decode prog_28_method_24_code 22 = .ok (.return_, 1) := by decide +kernel
theorem y_upn {g : Nat → Option Nat} {k j : Nat} {v : Option Nat} (h : ¬ j = k) : va_up g k v j = g j := if_neg h
def y_gc (n c : Nat) : Nat := if n = c then 1 else 0
def y_gs (n c : Nat) : Nat := if n = c then c + c / 2 + 10 else 0
theorem y_gg (n c : Nat) : (n = c ∧ y_gc n c = 1 ∧ y_gs n c = c + c / 2 + 10) ∨ (¬ n = c ∧ y_gc n c = 0 ∧ y_gs n c = 0) := by
  unfold y_gc y_gs
  by_cases h : n = c
  · exact Or.inl ⟨h, if_pos h, if_pos h⟩
  · exact Or.inr ⟨h, if_neg h, if_neg h⟩
theorem y_new0 {N : Nat} {z : Nat → Nat} {s : State} {B : Nat → Prop} {ad : Nat → Nat} {ar : Nat → ClassId} {I : Nat → Int32} {T : Int64} {A : Nat → Nat → Int32} {O : Nat → Option Nat} {pl : va_W} {q : Nat} {e : va_E} (hZ : y_Z N z s) (hAN : ∀ q, B q → N ≤ q) (hD : va_D B (y_W ad ar I T A O pl)) (h : y_L pl q = some e) : q ≠ z 0 := by
  obtain ⟨k, hk⟩ := y_L_at h
  have h1 := hAN q (hD.2 (20 + k) (q, e) (by rw [y_W_pl]; exact hk))
  obtain ⟨cell, _, _, _, _, _, _, h2⟩ := hZ.2.2.2.2.2.1
  intro h9
  rw [h9] at h1
  exact h2 h1
set_option maxHeartbeats 4000000 in
set_option maxRecDepth 100000 in
theorem c_L_grow1_11 (l : Launch) (dC : Nat → ClassId) (dI : Nat → Nat → Nat) (ar : Nat → ClassId) (N0 : Nat) (z : Nat → Nat) (ad : Nat → Nat) (I : Nat → Int32) (T : Int64) (A : Nat → Nat → Int32) (O : Nat → Option Nat) (pl : va_W) (G : Nat → Nat) (C Gs : Nat → List Nat) (qn sn cq cs : Nat) (sz w0 : Nat) (hmi : y_MI z ar G C Gs I O (y_L pl) (qn, sn, cq, cs)) (hfull : qn = cq) (hlim : qn ≤ 20000000) : Met l ({ cls := "java/util/ArrayList", name := "grow", desc := "(I)[Ljava/lang/Object;" } : Jvm.MethodName) ((Jvm.Cond.code ({ cls := "java/util/ArrayList", name := "grow", desc := "(I)[Ljava/lang/Object;" } : Jvm.MethodName) prog_28_method_6_code (4 : Nat) (Option.some (Jvm.ClassFile.FieldType.array (Jvm.ClassFile.FieldType.object "java/lang/Object")))) :: x_T) ({ frames := 3, cells := 1, slots := max 10 (cq + cq / 2), locals := 104 }) (y_Pc (dC, dI) ar N0 z (y_W ad ar I T A O pl) sz w0 [.ref (ad 11), .int (Int32.ofNat (qn + 1))]) (va_Qq (fun (r : Option Nat) (u : (Nat → Int32) × Int64 × (Nat → Nat → Int32) × (Nat → Option Nat) × va_W × (Nat × Nat × Nat × Nat)) => ∃ (q1 : Nat) (g1 : Nat → Option Nat), r = some q1 ∧ y_L pl q1 = none ∧ u.1 = I ∧ u.2.1 = T ∧ u.2.2.1 = A ∧ u.2.2.2.1 = y_up O 1 (some q1) ∧ y_L u.2.2.2.2.1 = y_Lu (y_L pl) q1 (.inl (ar 5, (max 10 (cq + cq / 2)), .inr (.inr (.inr (.inr g1))))) ∧ (∀ j, j < qn → ∃ t, g1 j = some t ∧ G t = 8) ∧ q1 ≠ z 0) (fun u t => va_P (dC, dI) y_cl (y_W ad ar u.1 u.2.1 u.2.2.1 u.2.2.2.1 u.2.2.2.2.1) t.heap ∧ va_D (va_A (y_W ad ar I T A O pl) sz) (y_W ad ar u.1 u.2.1 u.2.2.1 u.2.2.2.1 u.2.2.2.2.1) ∧ t.heap.size ≤ sz + 1 ∧ y_hs t.heap ≤ w0 + max 10 (cq + cq / 2)) (va_A (y_W ad ar I T A O pl) sz)) (1) (max 10 (cq + cq / 2)) (va_A (y_W ad ar I T A O pl) sz) := by
  refine Met.ofW (cc := prog_28_method_6_code) (maxL := 4) (ret := (some (.array (.object "java/lang/Object")))) (by decide) rfl ?_
  intro p e s m args below meth c s₁ B hml hv
  obtain ⟨rfl, hsz, hN0, hP, hU, hZ, hD0, hw0⟩ := hv
  have hK := hU.2.1
  have hx := B.exec
  have hb := B.bytes
  have hr := B.returns
  have hts : ∀ w ∈ x_T, w.before ([.ref (ad 11), .int (Int32.ofNat (qn + 1))] : List Value).toArray s = true := fun w h => atoms_spec (ws := (Jvm.Cond.code ({ cls := "java/util/ArrayList", name := "grow", desc := "(I)[Ljava/lang/Object;" } : Jvm.MethodName) prog_28_method_6_code (4 : Nat) (Option.some (Jvm.ClassFile.FieldType.array (Jvm.ClassFile.FieldType.object "java/lang/Object")))) :: x_T) B.pre w (List.mem_cons_of_mem _ h)
  have hown : s.vm.findClass "java/util/ArrayList" = some m.cls := findClass_of_methodNamed B.named
  have hlocks := B.notSynchronized
  subst hsz
  subst hw0
  have hD := hD0.self (sz := s.heap.size)
  have hAN := x_AN hD0 hN0
  generalize hAe : va_A (y_W ad ar I T A O pl) s.heap.size = Bq at hD hAN ⊢
  have hA : ∀ q : Nat, s.heap.size ≤ q → Bq q := fun q h => by rw [← hAe]; exact Or.inr h
  have hS : va_S Bq s.heap s.heap [] := va_S.rf
  have hl := lv_entry ([.ref (ad 11), .int (Int32.ofNat (qn + 1))]) (n := 4) (Nat.le_of_ble_eq_true rfl)
  rw [lg_entry_eq]
  generalize (lg_sl ([.ref (ad 11), .int (Int32.ofNat (qn + 1))]) ++ List.replicate (4 - (lg_sl ([.ref (ad 11), .int (Int32.ofNat (qn + 1))])).length) Slot.unset).toArray = ls at hl ⊢
  have hl : lv_has ls 4 [(0, .ref (ad 11)), (1, .int (Int32.ofNat (qn + 1)))] := hl
  have hcap := hmi.2.2.2.2.1
  dsimp only at hcap
  rcases hmi.2.1.2 with ⟨h1, h2, h3⟩ | ⟨a9, g9, ho9, hfa, hle9, h109, hz9, hel⟩
  · dsimp only at h2 h3
    refine lv_aload_n hx hb d_ArrayList_grow1_0 rfl (lv_at hl 0 rfl) ?_
    refine k_g (C := "java/util/ArrayList") (F := F_List) (N := 3) hx hb hts i_List hown hK hP 11 0 (by decide) (by decide) rfl (by decide) (d := (3, 1)) rfl (hts _ k_114) (fun _ h9 => h9) (v := .ref (z 0)) (by show va_rf (O 1) = _; rw [h1]; rfl) d_ArrayList_grow1_1 ?_
    refine va_tlen hx hb (hZ.2.2.2.2.2.1.narrow hAN) hS (v := Int32.ofNat 0) rfl d_ArrayList_grow1_4 ?_
    refine lv_istore_n (lv' := [(2, .int (Int32.ofNat 0)), (0, .ref (ad 11)), (1, .int (Int32.ofNat (qn + 1)))]) hx hb d_ArrayList_grow1_5 rfl hl (by decide) rfl (fun ls hl => ?_)
    refine lv_iload_n hx hb d_ArrayList_grow1_6 rfl (lv_at hl 0 rfl) ?_
    refine lv_if_gt (tgt := 20) hx hb d_ArrayList_grow1_7 (by decide) (fun h9 => absurd h9 (by decide)) (fun _ => ?_)
    refine lv_aload_n hx hb d_ArrayList_grow1_10 rfl (lv_at hl 1 rfl) ?_
    refine k_g (C := "java/util/ArrayList") (F := F_List) (N := 3) hx hb hts i_List hown hK hP 11 0 (by decide) (by decide) rfl (by decide) (d := (3, 1)) rfl (hts _ k_114) (fun _ h9 => h9) (v := .ref (z 0)) (by show va_rf (O 1) = _; rw [h1]; rfl) d_ArrayList_grow1_11 ?_
    refine va_gets hx hb (hZ.1.1.narrow hAN) hS hown (hts _ k_112) (fun _ h9 => h9) d_ArrayList_grow1_14 ?_
    refine lv_acmp_eq (rx := some (z 0)) (ry := some (z 0)) (tgt := 45) hx hb d_ArrayList_grow1_17 (by decide) (fun _ => ?_) (fun h9 => absurd rfl h9)
    refine lv_aload_n hx hb d_ArrayList_grow1_45 rfl (lv_at hl 1 rfl) ?_
    refine lv_bipush (v := 10) hx hb d_ArrayList_grow1_46 (by decide) ?_
    refine lv_iload_n hx hb d_ArrayList_grow1_48 rfl (lv_at hl 2 rfl) ?_
    refine W.eq (g2 := F0 m 49 ls [.int (Int32.ofNat (qn + 1)), .int (Int32.ofNat 10), .ref (ad 11)]) rfl ?_
    have hm10 : (if Int32.ofNat 10 < Int32.ofNat ((qn + 1)) then Int32.ofNat ((qn + 1)) else Int32.ofNat 10) = Int32.ofNat 10 := if_neg (fun h9 => absurd ((x_ltN (by omega) (by omega)).mp h9) (by omega))
    refine va_mmax hx hb (by rw [hml]; exact hl.1.symm) hown (hts _ k_705) (hts _ k_482) (hts _ k_19) (hts _ k_483) (Nat.le_of_ble_eq_true rfl) (Nat.le_of_ble_eq_true rfl) (by show 0 ≤ 1; omega) (by show 0 ≤ max 10 (cq + cq / 2); omega) d_ArrayList_grow1_49 ?_
    refine W.eq (g2 := F0 m 52 ls [.int (Int32.ofNat 10), .ref (ad 11)]) (by rw [hm10]) ?_
    refine d_newq hx hb hK hP hD hS hA hown (hts _ k_706) hU.2.2.1 (N' := 10) (by omega) (by show 0 + 1 ≤ 1; omega) (by show 0 + 10 ≤ max 10 (cq + cq / 2); omega) d_ArrayList_grow1_52 (fun q1 pl1 H hno hL hP hD hS => ?_)
    refine W.widen (k := 1) (n := 10) (by omega) (by omega) ?_
    refine lv_dup_x1 hx hb d_ArrayList_grow1_55 rfl rfl ?_
    refine k_po (C := "java/util/ArrayList") (F := F_List) (N := 3) hx hb hts i_List hown t_List t_List_ok n_List hK hP hD hS 11 0 (by decide) (by decide) rfl (by decide) (j := 1) (x := (some q1)) (ty := (.array (.object "java/lang/Object"))) rfl (hts _ k_114) (fun _ h9 => h9) rfl (by decide +kernel) rfl rfl d_ArrayList_grow1_56 (fun H locs hP hD hS => ?_)
    have hq9 : q1 ≠ z 0 := y_new0 hZ hAN hD (by rw [hL]; exact y_Lu_s)
    refine y_know (fun hy91 hy92 hy93 hy94 => ?_)
    have hac9 : H.size ≤ s.heap.size + 1 ∧ y_hs H ≤ y_hs s.heap + max 10 (cq + cq / 2) := ⟨by omega, by omega⟩
    refine W.widen (k := 1) (n := max 10 (cq + cq / 2)) (by omega) (by omega) ?_
    exact W.aret (v := .ref q1) hx hb hr (Or.inr ⟨_, rfl⟩) (Or.inr ⟨_, rfl⟩) (fun t ht hW => ⟨⟨(some q1), (I, T, A, (y_up O 1 (some q1)), pl1, (qn, sn, cq, cs)), rfl, ⟨q1, _, rfl, hno, rfl, rfl, rfl, rfl, (by rw [hL, show max 10 (cq + cq / 2) = 10 by omega]), fun j hj => absurd hj (by omega), hq9⟩, (by dsimp only; rw [ht]; exact ⟨hP, hD, hac9⟩)⟩, hS.F ht⟩) hS.2.2 d_ArrayList_grow1_59
  · dsimp only at hfa hle9 h109 hel
    refine lv_aload_n hx hb d_ArrayList_grow1_0 rfl (lv_at hl 0 rfl) ?_
    refine k_g (C := "java/util/ArrayList") (F := F_List) (N := 3) hx hb hts i_List hown hK hP 11 0 (by decide) (by decide) rfl (by decide) (d := (3, 1)) rfl (hts _ k_114) (fun _ h9 => h9) (v := .ref a9) (by show va_rf (O 1) = _; rw [ho9]; rfl) d_ArrayList_grow1_1 ?_
    refine d_alen hx hb hK hP hfa d_ArrayList_grow1_4 ?_
    refine lv_istore_n (lv' := [(2, .int (Int32.ofNat cq)), (0, .ref (ad 11)), (1, .int (Int32.ofNat (qn + 1)))]) hx hb d_ArrayList_grow1_5 rfl hl (by decide) rfl (fun ls hl => ?_)
    refine lv_iload_n hx hb d_ArrayList_grow1_6 rfl (lv_at hl 0 rfl) ?_
    refine lv_if_gt (tgt := 20) hx hb d_ArrayList_grow1_7 (by decide) (fun _ => ?_) (fun h9 => absurd ((x_ltN (a := 0) (b := cq) (by omega) (by omega)).mpr (by omega)) h9)
    refine lv_iload_n hx hb d_ArrayList_grow1_20 rfl (lv_at hl 0 rfl) ?_
    refine lv_iload_n hx hb d_ArrayList_grow1_21 rfl (lv_at hl 2 rfl) ?_
    refine lv_iload_n hx hb d_ArrayList_grow1_22 rfl (lv_at hl 0 rfl) ?_
    refine lv_isub hx hb d_ArrayList_grow1_23 ?_
    refine W.eq (g2 := F0 m 24 ls [.int (Int32.ofNat ((qn + 1) - cq)), .int (Int32.ofNat cq)]) (by rw [← x_subN (a := (qn + 1)) (b := cq) (by omega)] <;> rfl) ?_
    refine lv_iload_n hx hb d_ArrayList_grow1_24 rfl (lv_at hl 0 rfl) ?_
    refine lv_iconst (v := 1) hx hb d_ArrayList_grow1_25 (by decide) ?_
    refine lv_ishr hx hb d_ArrayList_grow1_26 ?_
    refine W.eq (g2 := F0 m 27 ls [.int (Int32.ofNat (cq / 2)), .int (Int32.ofNat ((qn + 1) - cq)), .int (Int32.ofNat cq)]) (by rw [x_shr1 (by omega)]) ?_
    have hFc := y_free hD hS hA
    refine va_calli (va_runS (As := [.int (Int32.ofNat cq), .int (Int32.ofNat ((qn + 1) - cq)), .int (Int32.ofNat (cq / 2))]) (rest := []) ⟨hx, hb, hml, hown, hts⟩ (c_newLen l dC dI ar N0 z ad I T A O pl cq (((qn + 1) - cq)) ((cq / 2)) s.heap.size (y_hs s.heap) (by omega) (by omega) (by omega)) (va_cwS 3 hts (x_goodSW k_669 k_670 k_24 k_671) rfl rfl rfl (by decide +kernel) ⟨Nat.le_of_ble_eq_true rfl, Nat.le_of_ble_eq_true rfl⟩) ⟨y_blind, fun U9 hU9 hW9 => y_pre hU9 hW9 hP hD hU hZ hS hAN hN0⟩ rfl rfl hl.1 rfl (lv_room (Nat.le_of_ble_eq_true rfl)) d_ArrayList_grow1_27 ⟨(by show 0 + (0) ≤ 1; omega), (by show 0 + (0) ≤ max 10 (cq + cq / 2); omega)⟩) hS (fun q _ h => hFc q h) hFc (fun r_1 u t H1 locs ht hvm hw hB hz1 hk1 hS => ?_)
    obtain ⟨I2, T2, A2, O2, pl2, q2, s2, cq2, cs2⟩ := u
    dsimp only at hw hB
    rw [ht] at hB
    obtain ⟨hP, hD1, hac2⟩ := hB
    have hD : va_D Bq (y_W ad ar I2 T2 A2 O2 pl2) := hD1.weaken (fun _ q _ h => hFc q.1 h)
    generalize H1 = H at hP hS hac2 ⊢
    refine W.widen (k := 0) (n := 0) (by omega) (by omega) ?_
    obtain ⟨h9, hw⟩ := hw
    cases h9
    obtain rfl := hw
    refine lv_istore_n (lv' := [(3, .int (Int32.ofNat (cq + ((cq / 2))))), (2, .int (Int32.ofNat cq)), (0, .ref (ad 11)), (1, .int (Int32.ofNat (qn + 1)))]) hx hb d_ArrayList_grow1_30 rfl hl (by decide) rfl (fun ls hl => ?_)
    refine lv_aload_n hx hb d_ArrayList_grow1_31 rfl (lv_at hl 2 rfl) ?_
    refine lv_aload_n hx hb d_ArrayList_grow1_32 rfl (lv_at hl 2 rfl) ?_
    refine k_g (C := "java/util/ArrayList") (F := F_List) (N := 3) hx hb hts i_List hown hK hP 11 0 (by decide) (by decide) rfl (by decide) (d := (3, 1)) rfl (hts _ k_114) (fun _ h9 => h9) (v := .ref a9) (by show va_rf (O 1) = _; rw [ho9]; rfl) d_ArrayList_grow1_33 ?_
    refine lv_iload_n hx hb d_ArrayList_grow1_36 rfl (lv_at hl 0 rfl) ?_
    have hFc := y_free hD hS hA
    refine va_callq (va_runS (As := [.ref a9, .int (Int32.ofNat (cq + ((cq / 2))))]) (rest := [.ref (ad 11)]) ⟨hx, hb, hml, hown, hts⟩ (c_cpO l dC dI ar N0 z ad I T A O pl a9 cq ((cq + ((cq / 2)))) g9 H.size (y_hs H) hfa (by omega) (by omega) (fun i hi y hy => by obtain ⟨t, h1, h2⟩ := hel i (by omega); rw [hy] at h1; cases h1; obtain ⟨_, _, _, _, _, _, _, h3, _⟩ := hmi.1.2.1 y h2; exact ⟨_, h3⟩)) (va_cwS 2 hts (x_goodSW k_677 k_678 k_21 k_679) rfl rfl rfl (by decide +kernel) ⟨Nat.le_of_ble_eq_true rfl, Nat.le_of_ble_eq_true rfl⟩) ⟨y_blind, fun U9 hU9 hW9 => y_pre hU9 hW9 hP hD hU hZ hS hAN hN0⟩ rfl rfl hl.1 rfl (lv_room (Nat.le_of_ble_eq_true rfl)) d_ArrayList_grow1_37 ⟨(by show 0 + (1) ≤ 1; omega), (by show 0 + ((cq + ((cq / 2)))) ≤ max 10 (cq + cq / 2); omega)⟩) hS (fun q _ h => hFc q h) hFc (fun r_3 u t H1 locs ht hvm hw hB hz1 hk1 hS => ?_)
    obtain ⟨I4, T4, A4, O4, pl4, q4, s4, cq4, cs4⟩ := u
    dsimp only at hw hB
    rw [ht] at hB
    obtain ⟨hP, hD1, hac4⟩ := hB
    have hD : va_D Bq (y_W ad ar I4 T4 A4 O4 pl4) := hD1.weaken (fun _ q _ h => hFc q.1 h)
    generalize H1 = H at hP hS hac4 ⊢
    obtain ⟨q1, rfl, hno, e1, e2, e3, e4, hL⟩ := hw
    rw [e1, e2, e3, e4] at hP hD
    refine W.eq (g2 := F0 m 40 ls [.ref q1, .ref (ad 11)]) rfl ?_
    refine lv_dup_x1 hx hb d_ArrayList_grow1_40 rfl rfl ?_
    refine k_po (C := "java/util/ArrayList") (F := F_List) (N := 3) hx hb hts i_List hown t_List t_List_ok n_List hK hP hD hS 11 0 (by decide) (by decide) rfl (by decide) (j := 1) (x := (some q1)) (ty := (.array (.object "java/lang/Object"))) rfl (hts _ k_114) (fun _ h9 => h9) rfl (by decide +kernel) rfl rfl d_ArrayList_grow1_41 (fun H locs hP hD hS => ?_)
    have hq9 : q1 ≠ z 0 := y_new0 hZ hAN hD (by rw [hL]; exact y_Lu_s)
    refine y_know (fun hy91 hy92 hy93 hy94 => ?_)
    have hac9 : H.size ≤ s.heap.size + 1 ∧ y_hs H ≤ y_hs s.heap + max 10 (cq + cq / 2) := ⟨by omega, by omega⟩
    refine W.widen (k := 1) (n := max 10 (cq + cq / 2)) (by omega) (by omega) ?_
    exact W.aret (v := .ref q1) hx hb hr (Or.inr ⟨_, rfl⟩) (Or.inr ⟨_, rfl⟩) (fun t ht hW => ⟨⟨(some q1), (I, T, A, (y_up O 1 (some q1)), pl4, (qn, sn, cq, cs)), rfl, ⟨q1, _, rfl, hno, rfl, rfl, rfl, rfl, (by rw [hL, show max 10 (cq + cq / 2) = cq + cq / 2 by omega]), fun j hj => by (rw [y_cpy0 (by omega)]; exact hel j hj), hq9⟩, (by dsimp only; rw [ht]; exact ⟨hP, hD, hac9⟩)⟩, hS.F ht⟩) hS.2.2 d_ArrayList_grow1_44
set_option maxHeartbeats 4000000 in
set_option maxRecDepth 100000 in
theorem c_L_grow1_12 (l : Launch) (dC : Nat → ClassId) (dI : Nat → Nat → Nat) (ar : Nat → ClassId) (N0 : Nat) (z : Nat → Nat) (ad : Nat → Nat) (I : Nat → Int32) (T : Int64) (A : Nat → Nat → Int32) (O : Nat → Option Nat) (pl : va_W) (G : Nat → Nat) (C Gs : Nat → List Nat) (qn sn cq cs : Nat) (sz w0 : Nat) (hmi : y_MI z ar G C Gs I O (y_L pl) (qn, sn, cq, cs)) (hfull : sn = cs) (hlim : sn ≤ 20000000) : Met l ({ cls := "java/util/ArrayList", name := "grow", desc := "(I)[Ljava/lang/Object;" } : Jvm.MethodName) ((Jvm.Cond.code ({ cls := "java/util/ArrayList", name := "grow", desc := "(I)[Ljava/lang/Object;" } : Jvm.MethodName) prog_28_method_6_code (4 : Nat) (Option.some (Jvm.ClassFile.FieldType.array (Jvm.ClassFile.FieldType.object "java/lang/Object")))) :: x_T) ({ frames := 3, cells := 1, slots := max 10 (cs + cs / 2), locals := 104 }) (y_Pc (dC, dI) ar N0 z (y_W ad ar I T A O pl) sz w0 [.ref (ad 12), .int (Int32.ofNat (sn + 1))]) (va_Qq (fun (r : Option Nat) (u : (Nat → Int32) × Int64 × (Nat → Nat → Int32) × (Nat → Option Nat) × va_W × (Nat × Nat × Nat × Nat)) => ∃ (q1 : Nat) (g1 : Nat → Option Nat), r = some q1 ∧ y_L pl q1 = none ∧ u.1 = I ∧ u.2.1 = T ∧ u.2.2.1 = A ∧ u.2.2.2.1 = y_up O 2 (some q1) ∧ y_L u.2.2.2.2.1 = y_Lu (y_L pl) q1 (.inl (ar 5, (max 10 (cs + cs / 2)), .inr (.inr (.inr (.inr g1))))) ∧ (∀ j, j < sn → ∃ t, g1 j = some t ∧ G t = 8) ∧ q1 ≠ z 0) (fun u t => va_P (dC, dI) y_cl (y_W ad ar u.1 u.2.1 u.2.2.1 u.2.2.2.1 u.2.2.2.2.1) t.heap ∧ va_D (va_A (y_W ad ar I T A O pl) sz) (y_W ad ar u.1 u.2.1 u.2.2.1 u.2.2.2.1 u.2.2.2.2.1) ∧ t.heap.size ≤ sz + 1 ∧ y_hs t.heap ≤ w0 + max 10 (cs + cs / 2)) (va_A (y_W ad ar I T A O pl) sz)) (1) (max 10 (cs + cs / 2)) (va_A (y_W ad ar I T A O pl) sz) := by
  refine Met.ofW (cc := prog_28_method_6_code) (maxL := 4) (ret := (some (.array (.object "java/lang/Object")))) (by decide) rfl ?_
  intro p e s m args below meth c s₁ B hml hv
  obtain ⟨rfl, hsz, hN0, hP, hU, hZ, hD0, hw0⟩ := hv
  have hK := hU.2.1
  have hx := B.exec
  have hb := B.bytes
  have hr := B.returns
  have hts : ∀ w ∈ x_T, w.before ([.ref (ad 12), .int (Int32.ofNat (sn + 1))] : List Value).toArray s = true := fun w h => atoms_spec (ws := (Jvm.Cond.code ({ cls := "java/util/ArrayList", name := "grow", desc := "(I)[Ljava/lang/Object;" } : Jvm.MethodName) prog_28_method_6_code (4 : Nat) (Option.some (Jvm.ClassFile.FieldType.array (Jvm.ClassFile.FieldType.object "java/lang/Object")))) :: x_T) B.pre w (List.mem_cons_of_mem _ h)
  have hown : s.vm.findClass "java/util/ArrayList" = some m.cls := findClass_of_methodNamed B.named
  have hlocks := B.notSynchronized
  subst hsz
  subst hw0
  have hD := hD0.self (sz := s.heap.size)
  have hAN := x_AN hD0 hN0
  generalize hAe : va_A (y_W ad ar I T A O pl) s.heap.size = Bq at hD hAN ⊢
  have hA : ∀ q : Nat, s.heap.size ≤ q → Bq q := fun q h => by rw [← hAe]; exact Or.inr h
  have hS : va_S Bq s.heap s.heap [] := va_S.rf
  have hl := lv_entry ([.ref (ad 12), .int (Int32.ofNat (sn + 1))]) (n := 4) (Nat.le_of_ble_eq_true rfl)
  rw [lg_entry_eq]
  generalize (lg_sl ([.ref (ad 12), .int (Int32.ofNat (sn + 1))]) ++ List.replicate (4 - (lg_sl ([.ref (ad 12), .int (Int32.ofNat (sn + 1))])).length) Slot.unset).toArray = ls at hl ⊢
  have hl : lv_has ls 4 [(0, .ref (ad 12)), (1, .int (Int32.ofNat (sn + 1)))] := hl
  have hcap := hmi.2.2.2.2.1
  dsimp only at hcap
  rcases hmi.2.2.1.2 with ⟨h1, h2, h3⟩ | ⟨a9, g9, ho9, hfa, hle9, h109, hz9, hel⟩
  · dsimp only at h2 h3
    refine lv_aload_n hx hb d_ArrayList_grow1_0 rfl (lv_at hl 0 rfl) ?_
    refine k_g (C := "java/util/ArrayList") (F := F_List) (N := 3) hx hb hts i_List hown hK hP 12 0 (by decide) (by decide) rfl (by decide) (d := (3, 2)) rfl (hts _ k_114) (fun _ h9 => h9) (v := .ref (z 0)) (by show va_rf (O 2) = _; rw [h1]; rfl) d_ArrayList_grow1_1 ?_
    refine va_tlen hx hb (hZ.2.2.2.2.2.1.narrow hAN) hS (v := Int32.ofNat 0) rfl d_ArrayList_grow1_4 ?_
    refine lv_istore_n (lv' := [(2, .int (Int32.ofNat 0)), (0, .ref (ad 12)), (1, .int (Int32.ofNat (sn + 1)))]) hx hb d_ArrayList_grow1_5 rfl hl (by decide) rfl (fun ls hl => ?_)
    refine lv_iload_n hx hb d_ArrayList_grow1_6 rfl (lv_at hl 0 rfl) ?_
    refine lv_if_gt (tgt := 20) hx hb d_ArrayList_grow1_7 (by decide) (fun h9 => absurd h9 (by decide)) (fun _ => ?_)
    refine lv_aload_n hx hb d_ArrayList_grow1_10 rfl (lv_at hl 1 rfl) ?_
    refine k_g (C := "java/util/ArrayList") (F := F_List) (N := 3) hx hb hts i_List hown hK hP 12 0 (by decide) (by decide) rfl (by decide) (d := (3, 2)) rfl (hts _ k_114) (fun _ h9 => h9) (v := .ref (z 0)) (by show va_rf (O 2) = _; rw [h1]; rfl) d_ArrayList_grow1_11 ?_
    refine va_gets hx hb (hZ.1.1.narrow hAN) hS hown (hts _ k_112) (fun _ h9 => h9) d_ArrayList_grow1_14 ?_
    refine lv_acmp_eq (rx := some (z 0)) (ry := some (z 0)) (tgt := 45) hx hb d_ArrayList_grow1_17 (by decide) (fun _ => ?_) (fun h9 => absurd rfl h9)
    refine lv_aload_n hx hb d_ArrayList_grow1_45 rfl (lv_at hl 1 rfl) ?_
    refine lv_bipush (v := 10) hx hb d_ArrayList_grow1_46 (by decide) ?_
    refine lv_iload_n hx hb d_ArrayList_grow1_48 rfl (lv_at hl 2 rfl) ?_
    refine W.eq (g2 := F0 m 49 ls [.int (Int32.ofNat (sn + 1)), .int (Int32.ofNat 10), .ref (ad 12)]) rfl ?_
    have hm10 : (if Int32.ofNat 10 < Int32.ofNat ((sn + 1)) then Int32.ofNat ((sn + 1)) else Int32.ofNat 10) = Int32.ofNat 10 := if_neg (fun h9 => absurd ((x_ltN (by omega) (by omega)).mp h9) (by omega))
    refine va_mmax hx hb (by rw [hml]; exact hl.1.symm) hown (hts _ k_705) (hts _ k_482) (hts _ k_19) (hts _ k_483) (Nat.le_of_ble_eq_true rfl) (Nat.le_of_ble_eq_true rfl) (by show 0 ≤ 1; omega) (by show 0 ≤ max 10 (cs + cs / 2); omega) d_ArrayList_grow1_49 ?_
    refine W.eq (g2 := F0 m 52 ls [.int (Int32.ofNat 10), .ref (ad 12)]) (by rw [hm10]) ?_
    refine d_newq hx hb hK hP hD hS hA hown (hts _ k_706) hU.2.2.1 (N' := 10) (by omega) (by show 0 + 1 ≤ 1; omega) (by show 0 + 10 ≤ max 10 (cs + cs / 2); omega) d_ArrayList_grow1_52 (fun q1 pl1 H hno hL hP hD hS => ?_)
    refine W.widen (k := 1) (n := 10) (by omega) (by omega) ?_
    refine lv_dup_x1 hx hb d_ArrayList_grow1_55 rfl rfl ?_
    refine k_po (C := "java/util/ArrayList") (F := F_List) (N := 3) hx hb hts i_List hown t_List t_List_ok n_List hK hP hD hS 12 0 (by decide) (by decide) rfl (by decide) (j := 2) (x := (some q1)) (ty := (.array (.object "java/lang/Object"))) rfl (hts _ k_114) (fun _ h9 => h9) rfl (by decide +kernel) rfl rfl d_ArrayList_grow1_56 (fun H locs hP hD hS => ?_)
    have hq9 : q1 ≠ z 0 := y_new0 hZ hAN hD (by rw [hL]; exact y_Lu_s)
    refine y_know (fun hy91 hy92 hy93 hy94 => ?_)
    have hac9 : H.size ≤ s.heap.size + 1 ∧ y_hs H ≤ y_hs s.heap + max 10 (cs + cs / 2) := ⟨by omega, by omega⟩
    refine W.widen (k := 1) (n := max 10 (cs + cs / 2)) (by omega) (by omega) ?_
    exact W.aret (v := .ref q1) hx hb hr (Or.inr ⟨_, rfl⟩) (Or.inr ⟨_, rfl⟩) (fun t ht hW => ⟨⟨(some q1), (I, T, A, (y_up O 2 (some q1)), pl1, (qn, sn, cq, cs)), rfl, ⟨q1, _, rfl, hno, rfl, rfl, rfl, rfl, (by rw [hL, show max 10 (cs + cs / 2) = 10 by omega]), fun j hj => absurd hj (by omega), hq9⟩, (by dsimp only; rw [ht]; exact ⟨hP, hD, hac9⟩)⟩, hS.F ht⟩) hS.2.2 d_ArrayList_grow1_59
  · dsimp only at hfa hle9 h109 hel
    refine lv_aload_n hx hb d_ArrayList_grow1_0 rfl (lv_at hl 0 rfl) ?_
    refine k_g (C := "java/util/ArrayList") (F := F_List) (N := 3) hx hb hts i_List hown hK hP 12 0 (by decide) (by decide) rfl (by decide) (d := (3, 2)) rfl (hts _ k_114) (fun _ h9 => h9) (v := .ref a9) (by show va_rf (O 2) = _; rw [ho9]; rfl) d_ArrayList_grow1_1 ?_
    refine d_alen hx hb hK hP hfa d_ArrayList_grow1_4 ?_
    refine lv_istore_n (lv' := [(2, .int (Int32.ofNat cs)), (0, .ref (ad 12)), (1, .int (Int32.ofNat (sn + 1)))]) hx hb d_ArrayList_grow1_5 rfl hl (by decide) rfl (fun ls hl => ?_)
    refine lv_iload_n hx hb d_ArrayList_grow1_6 rfl (lv_at hl 0 rfl) ?_
    refine lv_if_gt (tgt := 20) hx hb d_ArrayList_grow1_7 (by decide) (fun _ => ?_) (fun h9 => absurd ((x_ltN (a := 0) (b := cs) (by omega) (by omega)).mpr (by omega)) h9)
    refine lv_iload_n hx hb d_ArrayList_grow1_20 rfl (lv_at hl 0 rfl) ?_
    refine lv_iload_n hx hb d_ArrayList_grow1_21 rfl (lv_at hl 2 rfl) ?_
    refine lv_iload_n hx hb d_ArrayList_grow1_22 rfl (lv_at hl 0 rfl) ?_
    refine lv_isub hx hb d_ArrayList_grow1_23 ?_
    refine W.eq (g2 := F0 m 24 ls [.int (Int32.ofNat ((sn + 1) - cs)), .int (Int32.ofNat cs)]) (by rw [← x_subN (a := (sn + 1)) (b := cs) (by omega)] <;> rfl) ?_
    refine lv_iload_n hx hb d_ArrayList_grow1_24 rfl (lv_at hl 0 rfl) ?_
    refine lv_iconst (v := 1) hx hb d_ArrayList_grow1_25 (by decide) ?_
    refine lv_ishr hx hb d_ArrayList_grow1_26 ?_
    refine W.eq (g2 := F0 m 27 ls [.int (Int32.ofNat (cs / 2)), .int (Int32.ofNat ((sn + 1) - cs)), .int (Int32.ofNat cs)]) (by rw [x_shr1 (by omega)]) ?_
    have hFc := y_free hD hS hA
    refine va_calli (va_runS (As := [.int (Int32.ofNat cs), .int (Int32.ofNat ((sn + 1) - cs)), .int (Int32.ofNat (cs / 2))]) (rest := []) ⟨hx, hb, hml, hown, hts⟩ (c_newLen l dC dI ar N0 z ad I T A O pl cs (((sn + 1) - cs)) ((cs / 2)) s.heap.size (y_hs s.heap) (by omega) (by omega) (by omega)) (va_cwS 3 hts (x_goodSW k_669 k_670 k_24 k_671) rfl rfl rfl (by decide +kernel) ⟨Nat.le_of_ble_eq_true rfl, Nat.le_of_ble_eq_true rfl⟩) ⟨y_blind, fun U9 hU9 hW9 => y_pre hU9 hW9 hP hD hU hZ hS hAN hN0⟩ rfl rfl hl.1 rfl (lv_room (Nat.le_of_ble_eq_true rfl)) d_ArrayList_grow1_27 ⟨(by show 0 + (0) ≤ 1; omega), (by show 0 + (0) ≤ max 10 (cs + cs / 2); omega)⟩) hS (fun q _ h => hFc q h) hFc (fun r_1 u t H1 locs ht hvm hw hB hz1 hk1 hS => ?_)
    obtain ⟨I2, T2, A2, O2, pl2, q2, s2, cq2, cs2⟩ := u
    dsimp only at hw hB
    rw [ht] at hB
    obtain ⟨hP, hD1, hac2⟩ := hB
    have hD : va_D Bq (y_W ad ar I2 T2 A2 O2 pl2) := hD1.weaken (fun _ q _ h => hFc q.1 h)
    generalize H1 = H at hP hS hac2 ⊢
    refine W.widen (k := 0) (n := 0) (by omega) (by omega) ?_
    obtain ⟨h9, hw⟩ := hw
    cases h9
    obtain rfl := hw
    refine lv_istore_n (lv' := [(3, .int (Int32.ofNat (cs + ((cs / 2))))), (2, .int (Int32.ofNat cs)), (0, .ref (ad 12)), (1, .int (Int32.ofNat (sn + 1)))]) hx hb d_ArrayList_grow1_30 rfl hl (by decide) rfl (fun ls hl => ?_)
    refine lv_aload_n hx hb d_ArrayList_grow1_31 rfl (lv_at hl 2 rfl) ?_
    refine lv_aload_n hx hb d_ArrayList_grow1_32 rfl (lv_at hl 2 rfl) ?_
    refine k_g (C := "java/util/ArrayList") (F := F_List) (N := 3) hx hb hts i_List hown hK hP 12 0 (by decide) (by decide) rfl (by decide) (d := (3, 2)) rfl (hts _ k_114) (fun _ h9 => h9) (v := .ref a9) (by show va_rf (O 2) = _; rw [ho9]; rfl) d_ArrayList_grow1_33 ?_
    refine lv_iload_n hx hb d_ArrayList_grow1_36 rfl (lv_at hl 0 rfl) ?_
    have hFc := y_free hD hS hA
    refine va_callq (va_runS (As := [.ref a9, .int (Int32.ofNat (cs + ((cs / 2))))]) (rest := [.ref (ad 12)]) ⟨hx, hb, hml, hown, hts⟩ (c_cpO l dC dI ar N0 z ad I T A O pl a9 cs ((cs + ((cs / 2)))) g9 H.size (y_hs H) hfa (by omega) (by omega) (fun i hi y hy => by obtain ⟨t, h1, h2⟩ := hel i (by omega); rw [hy] at h1; cases h1; obtain ⟨_, _, _, _, _, _, _, h3, _⟩ := hmi.1.2.1 y h2; exact ⟨_, h3⟩)) (va_cwS 2 hts (x_goodSW k_677 k_678 k_21 k_679) rfl rfl rfl (by decide +kernel) ⟨Nat.le_of_ble_eq_true rfl, Nat.le_of_ble_eq_true rfl⟩) ⟨y_blind, fun U9 hU9 hW9 => y_pre hU9 hW9 hP hD hU hZ hS hAN hN0⟩ rfl rfl hl.1 rfl (lv_room (Nat.le_of_ble_eq_true rfl)) d_ArrayList_grow1_37 ⟨(by show 0 + (1) ≤ 1; omega), (by show 0 + ((cs + ((cs / 2)))) ≤ max 10 (cs + cs / 2); omega)⟩) hS (fun q _ h => hFc q h) hFc (fun r_3 u t H1 locs ht hvm hw hB hz1 hk1 hS => ?_)
    obtain ⟨I4, T4, A4, O4, pl4, q4, s4, cq4, cs4⟩ := u
    dsimp only at hw hB
    rw [ht] at hB
    obtain ⟨hP, hD1, hac4⟩ := hB
    have hD : va_D Bq (y_W ad ar I4 T4 A4 O4 pl4) := hD1.weaken (fun _ q _ h => hFc q.1 h)
    generalize H1 = H at hP hS hac4 ⊢
    obtain ⟨q1, rfl, hno, e1, e2, e3, e4, hL⟩ := hw
    rw [e1, e2, e3, e4] at hP hD
    refine W.eq (g2 := F0 m 40 ls [.ref q1, .ref (ad 12)]) rfl ?_
    refine lv_dup_x1 hx hb d_ArrayList_grow1_40 rfl rfl ?_
    refine k_po (C := "java/util/ArrayList") (F := F_List) (N := 3) hx hb hts i_List hown t_List t_List_ok n_List hK hP hD hS 12 0 (by decide) (by decide) rfl (by decide) (j := 2) (x := (some q1)) (ty := (.array (.object "java/lang/Object"))) rfl (hts _ k_114) (fun _ h9 => h9) rfl (by decide +kernel) rfl rfl d_ArrayList_grow1_41 (fun H locs hP hD hS => ?_)
    have hq9 : q1 ≠ z 0 := y_new0 hZ hAN hD (by rw [hL]; exact y_Lu_s)
    refine y_know (fun hy91 hy92 hy93 hy94 => ?_)
    have hac9 : H.size ≤ s.heap.size + 1 ∧ y_hs H ≤ y_hs s.heap + max 10 (cs + cs / 2) := ⟨by omega, by omega⟩
    refine W.widen (k := 1) (n := max 10 (cs + cs / 2)) (by omega) (by omega) ?_
    exact W.aret (v := .ref q1) hx hb hr (Or.inr ⟨_, rfl⟩) (Or.inr ⟨_, rfl⟩) (fun t ht hW => ⟨⟨(some q1), (I, T, A, (y_up O 2 (some q1)), pl4, (qn, sn, cq, cs)), rfl, ⟨q1, _, rfl, hno, rfl, rfl, rfl, rfl, (by rw [hL, show max 10 (cs + cs / 2) = cs + cs / 2 by omega]), fun j hj => by (rw [y_cpy0 (by omega)]; exact hel j hj), hq9⟩, (by dsimp only; rw [ht]; exact ⟨hP, hD, hac9⟩)⟩, hS.F ht⟩) hS.2.2 d_ArrayList_grow1_44
set_option maxHeartbeats 4000000 in
set_option maxRecDepth 100000 in
theorem c_L_grow0_11 (l : Launch) (dC : Nat → ClassId) (dI : Nat → Nat → Nat) (ar : Nat → ClassId) (N0 : Nat) (z : Nat → Nat) (ad : Nat → Nat) (I : Nat → Int32) (T : Int64) (A : Nat → Nat → Int32) (O : Nat → Option Nat) (pl : va_W) (G : Nat → Nat) (C Gs : Nat → List Nat) (qn sn cq cs : Nat) (sz w0 : Nat) (hmi : y_MI z ar G C Gs I O (y_L pl) (qn, sn, cq, cs)) (hfull : qn = cq) (hlim : qn ≤ 20000000) : Met l ({ cls := "java/util/ArrayList", name := "grow", desc := "()[Ljava/lang/Object;" } : Jvm.MethodName) ((Jvm.Cond.code ({ cls := "java/util/ArrayList", name := "grow", desc := "()[Ljava/lang/Object;" } : Jvm.MethodName) prog_28_method_7_code (1 : Nat) (Option.some (Jvm.ClassFile.FieldType.array (Jvm.ClassFile.FieldType.object "java/lang/Object")))) :: x_T) ({ frames := 4, cells := 1, slots := max 10 (cq + cq / 2), locals := 127 }) (y_Pc (dC, dI) ar N0 z (y_W ad ar I T A O pl) sz w0 [.ref (ad 11)]) (va_Qq (fun (r : Option Nat) (u : (Nat → Int32) × Int64 × (Nat → Nat → Int32) × (Nat → Option Nat) × va_W × (Nat × Nat × Nat × Nat)) => ∃ (q1 : Nat) (g1 : Nat → Option Nat), r = some q1 ∧ y_L pl q1 = none ∧ u.1 = I ∧ u.2.1 = T ∧ u.2.2.1 = A ∧ u.2.2.2.1 = y_up O 1 (some q1) ∧ y_L u.2.2.2.2.1 = y_Lu (y_L pl) q1 (.inl (ar 5, (max 10 (cq + cq / 2)), .inr (.inr (.inr (.inr g1))))) ∧ (∀ j, j < qn → ∃ t, g1 j = some t ∧ G t = 8) ∧ q1 ≠ z 0) (fun u t => va_P (dC, dI) y_cl (y_W ad ar u.1 u.2.1 u.2.2.1 u.2.2.2.1 u.2.2.2.2.1) t.heap ∧ va_D (va_A (y_W ad ar I T A O pl) sz) (y_W ad ar u.1 u.2.1 u.2.2.1 u.2.2.2.1 u.2.2.2.2.1) ∧ t.heap.size ≤ sz + 1 ∧ y_hs t.heap ≤ w0 + max 10 (cq + cq / 2)) (va_A (y_W ad ar I T A O pl) sz)) (1) (max 10 (cq + cq / 2)) (va_A (y_W ad ar I T A O pl) sz) := by
  refine Met.ofW (cc := prog_28_method_7_code) (maxL := 1) (ret := (some (.array (.object "java/lang/Object")))) (by decide) rfl ?_
  intro p e s m args below meth c s₁ B hml hv
  obtain ⟨rfl, hsz, hN0, hP, hU, hZ, hD0, hw0⟩ := hv
  have hK := hU.2.1
  have hx := B.exec
  have hb := B.bytes
  have hr := B.returns
  have hts : ∀ w ∈ x_T, w.before ([.ref (ad 11)] : List Value).toArray s = true := fun w h => atoms_spec (ws := (Jvm.Cond.code ({ cls := "java/util/ArrayList", name := "grow", desc := "()[Ljava/lang/Object;" } : Jvm.MethodName) prog_28_method_7_code (1 : Nat) (Option.some (Jvm.ClassFile.FieldType.array (Jvm.ClassFile.FieldType.object "java/lang/Object")))) :: x_T) B.pre w (List.mem_cons_of_mem _ h)
  have hown : s.vm.findClass "java/util/ArrayList" = some m.cls := findClass_of_methodNamed B.named
  have hlocks := B.notSynchronized
  subst hsz
  subst hw0
  have hD := hD0.self (sz := s.heap.size)
  have hAN := x_AN hD0 hN0
  generalize hAe : va_A (y_W ad ar I T A O pl) s.heap.size = Bq at hD hAN ⊢
  have hA : ∀ q : Nat, s.heap.size ≤ q → Bq q := fun q h => by rw [← hAe]; exact Or.inr h
  have hS : va_S Bq s.heap s.heap [] := va_S.rf
  have hl := lv_entry ([.ref (ad 11)]) (n := 1) (Nat.le_of_ble_eq_true rfl)
  rw [lg_entry_eq]
  generalize (lg_sl ([.ref (ad 11)]) ++ List.replicate (1 - (lg_sl ([.ref (ad 11)])).length) Slot.unset).toArray = ls at hl ⊢
  have hl : lv_has ls 1 [(0, .ref (ad 11))] := hl
  refine lv_aload_n hx hb d_ArrayList_grow_0 rfl (lv_at hl 0 rfl) ?_
  refine lv_aload_n hx hb d_ArrayList_grow_1 rfl (lv_at hl 0 rfl) ?_
  refine k_g (C := "java/util/ArrayList") (F := F_List) (N := 3) hx hb hts i_List hown hK hP 11 1 (by decide) (by decide) rfl (by decide) (d := (1, 12)) rfl (hts _ k_115) (fun _ h9 => h9) (v := .int (Int32.ofNat qn)) (congrArg Value.int hmi.2.1.1) d_ArrayList_grow_2 ?_
  refine lv_iconst (v := 1) hx hb d_ArrayList_grow_5 (by decide) ?_
  refine lv_iadd hx hb d_ArrayList_grow_6 ?_
  refine W.eq (g2 := F0 m 7 ls [.int (Int32.ofNat (qn + 1)), .ref (ad 11)]) (by rw [← x_addN (a := qn) (b := 1)] <;> rfl) ?_
  have hFc := y_free hD hS hA
  refine va_callq (va_runV (As := [.int (Int32.ofNat (qn + 1))]) (rest := []) ⟨hx, hb, hml, hown, hts⟩ (c_L_grow1_11 l dC dI ar N0 z ad I T A O pl G C Gs qn sn cq cs s.heap.size (y_hs s.heap) hmi hfull hlim) (cwV 1 hts (x_goodV k_665 k_667 kp_24 k_7 k_668) rfl rfl rfl (by decide +kernel) ⟨Nat.le_of_ble_eq_true rfl, Nat.le_of_ble_eq_true rfl⟩) ⟨y_blind, va_recv hK hP (ci := 0) (q0 := 11) rfl (y_W_ob (by decide) (by decide)), fun U9 hU9 hW9 => y_pre hU9 hW9 hP hD hU hZ hS hAN hN0⟩ rfl rfl hl.1 rfl (lv_room (Nat.le_of_ble_eq_true rfl)) d_ArrayList_grow_7 ⟨(by show 0 + (1) ≤ 1; omega), (by show 0 + (max 10 (cq + cq / 2)) ≤ max 10 (cq + cq / 2); omega)⟩) hS (fun q _ h => hFc q h) hFc (fun r_1 u t H1 locs ht hvm hw hB hz1 hk1 hS => ?_)
  obtain ⟨I2, T2, A2, O2, pl2, q2, s2, cq2, cs2⟩ := u
  dsimp only at hw hB
  rw [ht] at hB
  obtain ⟨hP, hD1, hac2⟩ := hB
  have hD : va_D Bq (y_W ad ar I2 T2 A2 O2 pl2) := hD1.weaken (fun _ q _ h => hFc q.1 h)
  generalize H1 = H at hP hS hac2 ⊢
  obtain ⟨q1, g1, rfl, hno, e1, e2, e3, e4, hL, hg1, hz1⟩ := hw
  rw [e1, e2, e3, e4] at hP hD
  refine W.eq (g2 := F0 m 10 ls [.ref q1]) rfl ?_
  refine y_know (fun hy91 hy92 hy93 hy94 => ?_)
  have hac9 : H.size ≤ s.heap.size + 1 ∧ y_hs H ≤ y_hs s.heap + max 10 (cq + cq / 2) := ⟨by omega, by omega⟩
  refine W.widen (k := 1) (n := max 10 (cq + cq / 2)) (by omega) (by omega) ?_
  exact W.aret (v := .ref q1) hx hb hr (Or.inr ⟨_, rfl⟩) (Or.inr ⟨_, rfl⟩) (fun t ht hW => ⟨⟨(some q1), (I, T, A, (y_up O 1 (some q1)), pl2, (qn, sn, cq, cs)), rfl, ⟨q1, g1, rfl, hno, rfl, rfl, rfl, rfl, hL, hg1, hz1⟩, (by dsimp only; rw [ht]; exact ⟨hP, hD, hac9⟩)⟩, hS.F ht⟩) hS.2.2 d_ArrayList_grow_10
set_option maxHeartbeats 4000000 in
set_option maxRecDepth 100000 in
theorem c_L_grow0_12 (l : Launch) (dC : Nat → ClassId) (dI : Nat → Nat → Nat) (ar : Nat → ClassId) (N0 : Nat) (z : Nat → Nat) (ad : Nat → Nat) (I : Nat → Int32) (T : Int64) (A : Nat → Nat → Int32) (O : Nat → Option Nat) (pl : va_W) (G : Nat → Nat) (C Gs : Nat → List Nat) (qn sn cq cs : Nat) (sz w0 : Nat) (hmi : y_MI z ar G C Gs I O (y_L pl) (qn, sn, cq, cs)) (hfull : sn = cs) (hlim : sn ≤ 20000000) : Met l ({ cls := "java/util/ArrayList", name := "grow", desc := "()[Ljava/lang/Object;" } : Jvm.MethodName) ((Jvm.Cond.code ({ cls := "java/util/ArrayList", name := "grow", desc := "()[Ljava/lang/Object;" } : Jvm.MethodName) prog_28_method_7_code (1 : Nat) (Option.some (Jvm.ClassFile.FieldType.array (Jvm.ClassFile.FieldType.object "java/lang/Object")))) :: x_T) ({ frames := 4, cells := 1, slots := max 10 (cs + cs / 2), locals := 127 }) (y_Pc (dC, dI) ar N0 z (y_W ad ar I T A O pl) sz w0 [.ref (ad 12)]) (va_Qq (fun (r : Option Nat) (u : (Nat → Int32) × Int64 × (Nat → Nat → Int32) × (Nat → Option Nat) × va_W × (Nat × Nat × Nat × Nat)) => ∃ (q1 : Nat) (g1 : Nat → Option Nat), r = some q1 ∧ y_L pl q1 = none ∧ u.1 = I ∧ u.2.1 = T ∧ u.2.2.1 = A ∧ u.2.2.2.1 = y_up O 2 (some q1) ∧ y_L u.2.2.2.2.1 = y_Lu (y_L pl) q1 (.inl (ar 5, (max 10 (cs + cs / 2)), .inr (.inr (.inr (.inr g1))))) ∧ (∀ j, j < sn → ∃ t, g1 j = some t ∧ G t = 8) ∧ q1 ≠ z 0) (fun u t => va_P (dC, dI) y_cl (y_W ad ar u.1 u.2.1 u.2.2.1 u.2.2.2.1 u.2.2.2.2.1) t.heap ∧ va_D (va_A (y_W ad ar I T A O pl) sz) (y_W ad ar u.1 u.2.1 u.2.2.1 u.2.2.2.1 u.2.2.2.2.1) ∧ t.heap.size ≤ sz + 1 ∧ y_hs t.heap ≤ w0 + max 10 (cs + cs / 2)) (va_A (y_W ad ar I T A O pl) sz)) (1) (max 10 (cs + cs / 2)) (va_A (y_W ad ar I T A O pl) sz) := by
  refine Met.ofW (cc := prog_28_method_7_code) (maxL := 1) (ret := (some (.array (.object "java/lang/Object")))) (by decide) rfl ?_
  intro p e s m args below meth c s₁ B hml hv
  obtain ⟨rfl, hsz, hN0, hP, hU, hZ, hD0, hw0⟩ := hv
  have hK := hU.2.1
  have hx := B.exec
  have hb := B.bytes
  have hr := B.returns
  have hts : ∀ w ∈ x_T, w.before ([.ref (ad 12)] : List Value).toArray s = true := fun w h => atoms_spec (ws := (Jvm.Cond.code ({ cls := "java/util/ArrayList", name := "grow", desc := "()[Ljava/lang/Object;" } : Jvm.MethodName) prog_28_method_7_code (1 : Nat) (Option.some (Jvm.ClassFile.FieldType.array (Jvm.ClassFile.FieldType.object "java/lang/Object")))) :: x_T) B.pre w (List.mem_cons_of_mem _ h)
  have hown : s.vm.findClass "java/util/ArrayList" = some m.cls := findClass_of_methodNamed B.named
  have hlocks := B.notSynchronized
  subst hsz
  subst hw0
  have hD := hD0.self (sz := s.heap.size)
  have hAN := x_AN hD0 hN0
  generalize hAe : va_A (y_W ad ar I T A O pl) s.heap.size = Bq at hD hAN ⊢
  have hA : ∀ q : Nat, s.heap.size ≤ q → Bq q := fun q h => by rw [← hAe]; exact Or.inr h
  have hS : va_S Bq s.heap s.heap [] := va_S.rf
  have hl := lv_entry ([.ref (ad 12)]) (n := 1) (Nat.le_of_ble_eq_true rfl)
  rw [lg_entry_eq]
  generalize (lg_sl ([.ref (ad 12)]) ++ List.replicate (1 - (lg_sl ([.ref (ad 12)])).length) Slot.unset).toArray = ls at hl ⊢
  have hl : lv_has ls 1 [(0, .ref (ad 12))] := hl
  refine lv_aload_n hx hb d_ArrayList_grow_0 rfl (lv_at hl 0 rfl) ?_
  refine lv_aload_n hx hb d_ArrayList_grow_1 rfl (lv_at hl 0 rfl) ?_
  refine k_g (C := "java/util/ArrayList") (F := F_List) (N := 3) hx hb hts i_List hown hK hP 12 1 (by decide) (by decide) rfl (by decide) (d := (1, 14)) rfl (hts _ k_115) (fun _ h9 => h9) (v := .int (Int32.ofNat sn)) (congrArg Value.int hmi.2.2.1.1) d_ArrayList_grow_2 ?_
  refine lv_iconst (v := 1) hx hb d_ArrayList_grow_5 (by decide) ?_
  refine lv_iadd hx hb d_ArrayList_grow_6 ?_
  refine W.eq (g2 := F0 m 7 ls [.int (Int32.ofNat (sn + 1)), .ref (ad 12)]) (by rw [← x_addN (a := sn) (b := 1)] <;> rfl) ?_
  have hFc := y_free hD hS hA
  refine va_callq (va_runV (As := [.int (Int32.ofNat (sn + 1))]) (rest := []) ⟨hx, hb, hml, hown, hts⟩ (c_L_grow1_12 l dC dI ar N0 z ad I T A O pl G C Gs qn sn cq cs s.heap.size (y_hs s.heap) hmi hfull hlim) (cwV 1 hts (x_goodV k_665 k_667 kp_24 k_7 k_668) rfl rfl rfl (by decide +kernel) ⟨Nat.le_of_ble_eq_true rfl, Nat.le_of_ble_eq_true rfl⟩) ⟨y_blind, va_recv hK hP (ci := 0) (q0 := 12) rfl (y_W_ob (by decide) (by decide)), fun U9 hU9 hW9 => y_pre hU9 hW9 hP hD hU hZ hS hAN hN0⟩ rfl rfl hl.1 rfl (lv_room (Nat.le_of_ble_eq_true rfl)) d_ArrayList_grow_7 ⟨(by show 0 + (1) ≤ 1; omega), (by show 0 + (max 10 (cs + cs / 2)) ≤ max 10 (cs + cs / 2); omega)⟩) hS (fun q _ h => hFc q h) hFc (fun r_1 u t H1 locs ht hvm hw hB hz1 hk1 hS => ?_)
  obtain ⟨I2, T2, A2, O2, pl2, q2, s2, cq2, cs2⟩ := u
  dsimp only at hw hB
  rw [ht] at hB
  obtain ⟨hP, hD1, hac2⟩ := hB
  have hD : va_D Bq (y_W ad ar I2 T2 A2 O2 pl2) := hD1.weaken (fun _ q _ h => hFc q.1 h)
  generalize H1 = H at hP hS hac2 ⊢
  obtain ⟨q1, g1, rfl, hno, e1, e2, e3, e4, hL, hg1, hz1⟩ := hw
  rw [e1, e2, e3, e4] at hP hD
  refine W.eq (g2 := F0 m 10 ls [.ref q1]) rfl ?_
  refine y_know (fun hy91 hy92 hy93 hy94 => ?_)
  have hac9 : H.size ≤ s.heap.size + 1 ∧ y_hs H ≤ y_hs s.heap + max 10 (cs + cs / 2) := ⟨by omega, by omega⟩
  refine W.widen (k := 1) (n := max 10 (cs + cs / 2)) (by omega) (by omega) ?_
  exact W.aret (v := .ref q1) hx hb hr (Or.inr ⟨_, rfl⟩) (Or.inr ⟨_, rfl⟩) (fun t ht hW => ⟨⟨(some q1), (I, T, A, (y_up O 2 (some q1)), pl2, (qn, sn, cq, cs)), rfl, ⟨q1, g1, rfl, hno, rfl, rfl, rfl, rfl, hL, hg1, hz1⟩, (by dsimp only; rw [ht]; exact ⟨hP, hD, hac9⟩)⟩, hS.F ht⟩) hS.2.2 d_ArrayList_grow_10
set_option maxHeartbeats 4000000 in
set_option maxRecDepth 100000 in
theorem c_L_add3_11 (l : Launch) (dC : Nat → ClassId) (dI : Nat → Nat → Nat) (ar : Nat → ClassId) (N0 : Nat) (z : Nat → Nat) (ad : Nat → Nat) (I : Nat → Int32) (T : Int64) (A : Nat → Nat → Int32) (O : Nat → Option Nat) (pl : va_W) (G : Nat → Nat) (C Gs : Nat → List Nat) (qn sn cq cs : Nat) (tt ed : Nat) (sz w0 : Nat) (hmi : y_MI z ar G C Gs I O (y_L pl) (qn, sn, cq, cs)) (htt : G tt = 8) (ho : O 1 = some ed) (hlim : qn ≤ 20000000) : Met l ({ cls := "java/util/ArrayList", name := "add", desc := "(Ljava/lang/Object;[Ljava/lang/Object;I)V" } : Jvm.MethodName) ((Jvm.Cond.code ({ cls := "java/util/ArrayList", name := "add", desc := "(Ljava/lang/Object;[Ljava/lang/Object;I)V" } : Jvm.MethodName) prog_28_method_24_code (4 : Nat) (Option.none : Option Jvm.ClassFile.FieldType)) :: x_T) ({ frames := 5, cells := y_gc qn cq, slots := y_gs qn cq, locals := 147 }) (y_Pc (dC, dI) ar N0 z (y_W ad ar I T A O pl) sz w0 [.ref (ad 11), .ref tt, .ref ed, .int (Int32.ofNat qn)]) (va_Qv (fun (u : (Nat → Int32) × Int64 × (Nat → Nat → Int32) × (Nat → Option Nat) × va_W × (Nat × Nat × Nat × Nat)) => y_MI z ar G C Gs u.1 u.2.2.2.1 (y_L u.2.2.2.2.1) u.2.2.2.2.2 ∧ y_bd (qn, sn, cq, cs) u.2.2.2.2.2 1 0 ∧ m_fr [12, 13, 14, 15] I u.1 ∧ u.2.1 = T ∧ u.2.2.1 = A) (fun u t => va_P (dC, dI) y_cl (y_W ad ar u.1 u.2.1 u.2.2.1 u.2.2.2.1 u.2.2.2.2.1) t.heap ∧ va_D (va_A (y_W ad ar I T A O pl) sz) (y_W ad ar u.1 u.2.1 u.2.2.1 u.2.2.2.1 u.2.2.2.2.1) ∧ y_ac (cq + cs) sz w0 (u.2.2.2.2.2.2.2.1 + u.2.2.2.2.2.2.2.2) t.heap) (va_A (y_W ad ar I T A O pl) sz)) (y_gc qn cq) (y_gs qn cq) (va_A (y_W ad ar I T A O pl) sz) := by
  refine Met.ofW (cc := prog_28_method_24_code) (maxL := 4) (ret := none) (by decide) rfl ?_
  intro p e s m args below meth c s₁ B hml hv
  obtain ⟨rfl, hsz, hN0, hP, hU, hZ, hD0, hw0⟩ := hv
  have hK := hU.2.1
  have hx := B.exec
  have hb := B.bytes
  have hr := B.returns
  have hts : ∀ w ∈ x_T, w.before ([.ref (ad 11), .ref tt, .ref ed, .int (Int32.ofNat qn)] : List Value).toArray s = true := fun w h => atoms_spec (ws := (Jvm.Cond.code ({ cls := "java/util/ArrayList", name := "add", desc := "(Ljava/lang/Object;[Ljava/lang/Object;I)V" } : Jvm.MethodName) prog_28_method_24_code (4 : Nat) (Option.none : Option Jvm.ClassFile.FieldType)) :: x_T) B.pre w (List.mem_cons_of_mem _ h)
  have hown : s.vm.findClass "java/util/ArrayList" = some m.cls := findClass_of_methodNamed B.named
  have hlocks := B.notSynchronized
  subst hsz
  subst hw0
  have hD := hD0.self (sz := s.heap.size)
  have hAN := x_AN hD0 hN0
  generalize hAe : va_A (y_W ad ar I T A O pl) s.heap.size = Bq at hD hAN ⊢
  have hA : ∀ q : Nat, s.heap.size ≤ q → Bq q := fun q h => by rw [← hAe]; exact Or.inr h
  have hS : va_S Bq s.heap s.heap [] := va_S.rf
  have hl := lv_entry ([.ref (ad 11), .ref tt, .ref ed, .int (Int32.ofNat qn)]) (n := 4) (Nat.le_of_ble_eq_true rfl)
  rw [lg_entry_eq]
  generalize (lg_sl ([.ref (ad 11), .ref tt, .ref ed, .int (Int32.ofNat qn)]) ++ List.replicate (4 - (lg_sl ([.ref (ad 11), .ref tt, .ref ed, .int (Int32.ofNat qn)])).length) Slot.unset).toArray = ls at hl ⊢
  have hl : lv_has ls 4 [(0, .ref (ad 11)), (1, .ref tt), (2, .ref ed), (3, .int (Int32.ofNat qn))] := hl
  have hcap := hmi.2.2.2.2.1
  dsimp only at hcap
  have hle := y_LS.le hmi.2.1.2
  dsimp only at hle
  have hgg := y_gg qn cq
  rcases hmi.2.1.2 with ⟨h1, h2, h3⟩ | ⟨a9, g9, ho9, hfa, hle9, h109, hz9, hel⟩
  · dsimp only at h2 h3
    have hed : ed = z 0 := Option.some.inj (ho.symm.trans h1)
    subst hed
    refine lv_iload_n hx hb d_ArrayList_add3_0 rfl (lv_at hl 3 rfl) ?_
    refine lv_aload_n hx hb d_ArrayList_add3_1 rfl (lv_at hl 2 rfl) ?_
    refine va_tlen hx hb (hZ.2.2.2.2.2.1.narrow hAN) hS (v := Int32.ofNat cq) (by rw [h3]) d_ArrayList_add3_2 ?_
    refine lv_icmp_ne (tgt := 11) hx hb d_ArrayList_add3_3 (by decide) (fun c_1 => ?_) (fun c_1 => ?_)
    · have c_1 : ¬ qn = cq := fun h9 => c_1 ((x_eqN (a := qn) (b := cq) (by omega) (by omega)).mpr h9)
      exact absurd (h2.trans h3.symm) c_1
    · have c_1 : qn = cq := (x_eqN (a := qn) (b := cq) (by omega) (by omega)).mp c_1
      have hfull : qn = cq := c_1
      refine lv_aload_n hx hb d_ArrayList_add3_6 rfl (lv_at hl 0 rfl) ?_
      have hFc := y_free hD hS hA
      refine va_callq (va_runV (As := []) (rest := []) ⟨hx, hb, hml, hown, hts⟩ (c_L_grow0_11 l dC dI ar N0 z ad I T A O pl G C Gs qn sn cq cs s.heap.size (y_hs s.heap) hmi hfull hlim) (cwV 0 hts (x_goodV k_661 k_663 kp_23 k_7 k_664) rfl rfl rfl (by decide +kernel) ⟨Nat.le_of_ble_eq_true rfl, Nat.le_of_ble_eq_true rfl⟩) ⟨y_blind, va_recv hK hP (ci := 0) (q0 := 11) rfl (y_W_ob (by decide) (by decide)), fun U9 hU9 hW9 => y_pre hU9 hW9 hP hD hU hZ hS hAN hN0⟩ rfl rfl hl.1 rfl (lv_room (Nat.le_of_ble_eq_true rfl)) d_ArrayList_add3_7 ⟨(by show 0 + (1) ≤ y_gc qn cq; omega), (by show 0 + (max 10 (cq + cq / 2)) ≤ y_gs qn cq; omega)⟩) hS (fun q _ h => hFc q h) hFc (fun r_2 u t H1 locs ht hvm hw hB hz1 hk1 hS => ?_)
      obtain ⟨I3, T3, A3, O3, pl3, q3, s3, cq3, cs3⟩ := u
      dsimp only at hw hB
      rw [ht] at hB
      obtain ⟨hP, hD1, hac3⟩ := hB
      have hD : va_D Bq (y_W ad ar I3 T3 A3 O3 pl3) := hD1.weaken (fun _ q _ h => hFc q.1 h)
      generalize H1 = H at hP hS hac3 ⊢
      obtain ⟨q1, g1, rfl, hno, e1, e2, e3, e4, hL, hg1, hz1⟩ := hw
      rw [e1, e2, e3, e4] at hP hD
      refine W.eq (g2 := F0 m 10 ls [.ref q1]) rfl ?_
      refine lv_astore_n (lv' := [(2, .ref q1), (0, .ref (ad 11)), (1, .ref tt), (3, .int (Int32.ofNat qn))]) hx hb d_ArrayList_add3_10 rfl hl (by decide) rfl (fun ls hl => ?_)
      refine lv_aload_n hx hb d_ArrayList_add3_11 rfl (lv_at hl 0 rfl) ?_
      refine lv_iload_n hx hb d_ArrayList_add3_12 rfl (lv_at hl 3 rfl) ?_
      refine lv_aload_n hx hb d_ArrayList_add3_13 rfl (lv_at hl 2 rfl) ?_
      obtain ⟨_, _, _, _, _, _, _, hft0, _⟩ := hmi.1.2.1 tt htt
      have hnt : tt ≠ q1 := fun h9 => by rw [h9, hno] at hft0; cases hft0
      have hft9 := (show y_L pl3 tt = y_L pl tt from by rw [hL, y_Lu_n hnt]).trans hft0
      have hfq : y_L pl3 q1 = some (.inl (ar 5, (max 10 (cq + cq / 2)), .inr (.inr (.inr (.inr g1))))) := by rw [hL]; exact y_Lu_s
      refine d_aast hx hb hK hP hD hS (hU.1.2.1 _ kn_1303) hfq hft9 (j := Int32.ofNat qn) (x_inN (by omega) (by omega)) d_ArrayList_add3_14 (fun pl9 H locs hL9 hP hD hS => ?_)
      rw [x_nat (a := qn) (by omega)] at hL9
      refine lv_aload_n hx hb d_ArrayList_add3_15 rfl (lv_at hl 1 rfl) ?_
      refine lv_iload_n hx hb d_ArrayList_add3_16 rfl (lv_at hl 3 rfl) ?_
      refine lv_iconst (v := 1) hx hb d_ArrayList_add3_17 (by decide) ?_
      refine lv_iadd hx hb d_ArrayList_add3_18 ?_
      refine W.eq (g2 := F0 m 19 ls [.int (Int32.ofNat (qn + 1)), .ref (ad 11)]) (by rw [← x_addN (a := qn) (b := 1)] <;> rfl) ?_
      refine k_pi (C := "java/util/ArrayList") (F := F_List) (N := 3) hx hb hts i_List hown t_List t_List_ok n_List hK hP hD hS 11 1 (by decide) (by decide) rfl (by decide) (j := 12) (x := (Int32.ofNat (qn + 1))) rfl (hts _ k_115) (fun _ h9 => h9) rfl (by decide +kernel) d_ArrayList_add3_19 (fun H locs hP hD hS => ?_)
      refine y_know (fun hy91 hy92 hy93 hy94 => ?_)
      have hac9 : y_ac (cq + cs) s.heap.size (y_hs s.heap) ((max 10 (cq + cq / 2)) + cs) H := ⟨by omega, by omega⟩
      refine W.widen (k := y_gc qn cq) (n := y_gs qn cq) (by omega) (by omega) ?_
      exact W.vret hx hb hr (fun t ht hW => ⟨⟨((upd I 12 (Int32.ofNat (qn + 1))), T, A, (y_up O 1 (some q1)), pl9, (qn + 1, sn, (max 10 (cq + cq / 2)), cs)), rfl, ⟨(by show y_MI z ar G C Gs (upd I 12 (Int32.ofNat (qn + 1))) (y_up O 1 (some q1)) (y_L pl9) (qn + 1, sn, (max 10 (cq + cq / 2)), cs); rw [hL9, hL, y_Lu_uu]; exact hmi.row11 (Or.inl hno) rfl rfl (fun k hk => if_neg (by omega)) rfl rfl rfl rfl (by omega) (by omega) hz1 (by omega) (fun j hj => (if e : j = qn then ⟨tt, by rw [e]; exact va_up_self _ _ _, htt⟩ else (by rw [y_upn e]; exact hg1 j (by omega))))), ⟨Nat.le_refl _, Nat.le_refl _, Or.inr ⟨by dsimp only; omega, by dsimp only; omega⟩, Or.inl rfl⟩, (m_fr.rf.up (by decide) _), rfl, rfl⟩, (by dsimp only; rw [ht]; exact ⟨hP, hD, hac9⟩)⟩, hS.F ht⟩) hS.2.2 d_ArrayList_add3_22
  · dsimp only at hfa hle9 h109 hel
    have hed : ed = a9 := Option.some.inj (ho.symm.trans ho9)
    subst hed
    refine lv_iload_n hx hb d_ArrayList_add3_0 rfl (lv_at hl 3 rfl) ?_
    refine lv_aload_n hx hb d_ArrayList_add3_1 rfl (lv_at hl 2 rfl) ?_
    refine d_alen hx hb hK hP hfa d_ArrayList_add3_2 ?_
    refine lv_icmp_ne (tgt := 11) hx hb d_ArrayList_add3_3 (by decide) (fun c_4 => ?_) (fun c_4 => ?_)
    · have c_4 : ¬ qn = cq := fun h9 => c_4 ((x_eqN (a := qn) (b := cq) (by omega) (by omega)).mpr h9)
      refine lv_aload_n hx hb d_ArrayList_add3_11 rfl (lv_at hl 2 rfl) ?_
      refine lv_iload_n hx hb d_ArrayList_add3_12 rfl (lv_at hl 3 rfl) ?_
      refine lv_aload_n hx hb d_ArrayList_add3_13 rfl (lv_at hl 1 rfl) ?_
      obtain ⟨w5, m5, a5, b5, r5, v5, u5, hf5, hw5, hm5, ha5⟩ := hmi.1.2.1 tt htt
      refine d_aast hx hb hK hP hD hS (hU.1.2.1 _ kn_1303) hfa hf5 (j := Int32.ofNat qn) (x_inN (by omega) (by omega)) d_ArrayList_add3_14 (fun pl9 H locs hL9 hP hD hS => ?_)
      rw [x_nat (a := qn) (by omega)] at hL9
      refine lv_aload_n hx hb d_ArrayList_add3_15 rfl (lv_at hl 0 rfl) ?_
      refine lv_iload_n hx hb d_ArrayList_add3_16 rfl (lv_at hl 3 rfl) ?_
      refine lv_iconst (v := 1) hx hb d_ArrayList_add3_17 (by decide) ?_
      refine lv_iadd hx hb d_ArrayList_add3_18 ?_
      refine W.eq (g2 := F0 m 19 ls [.int (Int32.ofNat (qn + 1)), .ref (ad 11)]) (by rw [← x_addN (a := qn) (b := 1)] <;> rfl) ?_
      refine k_pi (C := "java/util/ArrayList") (F := F_List) (N := 3) hx hb hts i_List hown t_List t_List_ok n_List hK hP hD hS 11 1 (by decide) (by decide) rfl (by decide) (j := 12) (x := (Int32.ofNat (qn + 1))) rfl (hts _ k_115) (fun _ h9 => h9) rfl (by decide +kernel) d_ArrayList_add3_19 (fun H locs hP hD hS => ?_)
      refine y_know (fun hy91 hy92 hy93 hy94 => ?_)
      have hac9 : y_ac (cq + cs) s.heap.size (y_hs s.heap) (cq + cs) H := ⟨by omega, by omega⟩
      refine W.widen (k := y_gc qn cq) (n := y_gs qn cq) (by omega) (by omega) ?_
      exact W.vret hx hb hr (fun t ht hW => ⟨⟨((upd I 12 (Int32.ofNat (qn + 1))), T, A, O, pl9, (qn + 1, sn, cq, cs)), rfl, ⟨(by show y_MI z ar G C Gs (upd I 12 (Int32.ofNat (qn + 1))) O (y_L pl9) (qn + 1, sn, cq, cs); rw [hL9]; exact hmi.row11 (Or.inr ⟨ho, _, _, _, hfa⟩) ho rfl (fun k hk => rfl) rfl rfl rfl rfl (by omega) (by omega) hz9 (by omega) (fun j hj => (if e : j = qn then ⟨tt, by rw [e]; exact va_up_self _ _ _, htt⟩ else (by rw [y_upn e]; exact hel j (by omega))))), ⟨Nat.le_refl _, Nat.le_refl _, Or.inl rfl, Or.inl rfl⟩, (m_fr.rf.up (by decide) _), rfl, rfl⟩, (by dsimp only; rw [ht]; exact ⟨hP, hD, hac9⟩)⟩, hS.F ht⟩) hS.2.2 d_ArrayList_add3_22
    · have c_4 : qn = cq := (x_eqN (a := qn) (b := cq) (by omega) (by omega)).mp c_4
      have hfull : qn = cq := c_4
      refine lv_aload_n hx hb d_ArrayList_add3_6 rfl (lv_at hl 0 rfl) ?_
      have hFc := y_free hD hS hA
      refine va_callq (va_runV (As := []) (rest := []) ⟨hx, hb, hml, hown, hts⟩ (c_L_grow0_11 l dC dI ar N0 z ad I T A O pl G C Gs qn sn cq cs s.heap.size (y_hs s.heap) hmi hfull hlim) (cwV 0 hts (x_goodV k_661 k_663 kp_23 k_7 k_664) rfl rfl rfl (by decide +kernel) ⟨Nat.le_of_ble_eq_true rfl, Nat.le_of_ble_eq_true rfl⟩) ⟨y_blind, va_recv hK hP (ci := 0) (q0 := 11) rfl (y_W_ob (by decide) (by decide)), fun U9 hU9 hW9 => y_pre hU9 hW9 hP hD hU hZ hS hAN hN0⟩ rfl rfl hl.1 rfl (lv_room (Nat.le_of_ble_eq_true rfl)) d_ArrayList_add3_7 ⟨(by show 0 + (1) ≤ y_gc qn cq; omega), (by show 0 + (max 10 (cq + cq / 2)) ≤ y_gs qn cq; omega)⟩) hS (fun q _ h => hFc q h) hFc (fun r_6 u t H1 locs ht hvm hw hB hz1 hk1 hS => ?_)
      obtain ⟨I7, T7, A7, O7, pl7, q7, s7, cq7, cs7⟩ := u
      dsimp only at hw hB
      rw [ht] at hB
      obtain ⟨hP, hD1, hac7⟩ := hB
      have hD : va_D Bq (y_W ad ar I7 T7 A7 O7 pl7) := hD1.weaken (fun _ q _ h => hFc q.1 h)
      generalize H1 = H at hP hS hac7 ⊢
      obtain ⟨q1, g1, rfl, hno, e1, e2, e3, e4, hL, hg1, hz1⟩ := hw
      rw [e1, e2, e3, e4] at hP hD
      refine W.eq (g2 := F0 m 10 ls [.ref q1]) rfl ?_
      refine lv_astore_n (lv' := [(2, .ref q1), (0, .ref (ad 11)), (1, .ref tt), (3, .int (Int32.ofNat qn))]) hx hb d_ArrayList_add3_10 rfl hl (by decide) rfl (fun ls hl => ?_)
      refine lv_aload_n hx hb d_ArrayList_add3_11 rfl (lv_at hl 0 rfl) ?_
      refine lv_iload_n hx hb d_ArrayList_add3_12 rfl (lv_at hl 3 rfl) ?_
      refine lv_aload_n hx hb d_ArrayList_add3_13 rfl (lv_at hl 2 rfl) ?_
      obtain ⟨_, _, _, _, _, _, _, hft0, _⟩ := hmi.1.2.1 tt htt
      have hnt : tt ≠ q1 := fun h9 => by rw [h9, hno] at hft0; cases hft0
      have hft9 := (show y_L pl7 tt = y_L pl tt from by rw [hL, y_Lu_n hnt]).trans hft0
      have hfq : y_L pl7 q1 = some (.inl (ar 5, (max 10 (cq + cq / 2)), .inr (.inr (.inr (.inr g1))))) := by rw [hL]; exact y_Lu_s
      refine d_aast hx hb hK hP hD hS (hU.1.2.1 _ kn_1303) hfq hft9 (j := Int32.ofNat qn) (x_inN (by omega) (by omega)) d_ArrayList_add3_14 (fun pl9 H locs hL9 hP hD hS => ?_)
      rw [x_nat (a := qn) (by omega)] at hL9
      refine lv_aload_n hx hb d_ArrayList_add3_15 rfl (lv_at hl 1 rfl) ?_
      refine lv_iload_n hx hb d_ArrayList_add3_16 rfl (lv_at hl 3 rfl) ?_
      refine lv_iconst (v := 1) hx hb d_ArrayList_add3_17 (by decide) ?_
      refine lv_iadd hx hb d_ArrayList_add3_18 ?_
      refine W.eq (g2 := F0 m 19 ls [.int (Int32.ofNat (qn + 1)), .ref (ad 11)]) (by rw [← x_addN (a := qn) (b := 1)] <;> rfl) ?_
      refine k_pi (C := "java/util/ArrayList") (F := F_List) (N := 3) hx hb hts i_List hown t_List t_List_ok n_List hK hP hD hS 11 1 (by decide) (by decide) rfl (by decide) (j := 12) (x := (Int32.ofNat (qn + 1))) rfl (hts _ k_115) (fun _ h9 => h9) rfl (by decide +kernel) d_ArrayList_add3_19 (fun H locs hP hD hS => ?_)
      refine y_know (fun hy91 hy92 hy93 hy94 => ?_)
      have hac9 : y_ac (cq + cs) s.heap.size (y_hs s.heap) ((max 10 (cq + cq / 2)) + cs) H := ⟨by omega, by omega⟩
      refine W.widen (k := y_gc qn cq) (n := y_gs qn cq) (by omega) (by omega) ?_
      exact W.vret hx hb hr (fun t ht hW => ⟨⟨((upd I 12 (Int32.ofNat (qn + 1))), T, A, (y_up O 1 (some q1)), pl9, (qn + 1, sn, (max 10 (cq + cq / 2)), cs)), rfl, ⟨(by show y_MI z ar G C Gs (upd I 12 (Int32.ofNat (qn + 1))) (y_up O 1 (some q1)) (y_L pl9) (qn + 1, sn, (max 10 (cq + cq / 2)), cs); rw [hL9, hL, y_Lu_uu]; exact hmi.row11 (Or.inl hno) rfl rfl (fun k hk => if_neg (by omega)) rfl rfl rfl rfl (by omega) (by omega) hz1 (by omega) (fun j hj => (if e : j = qn then ⟨tt, by rw [e]; exact va_up_self _ _ _, htt⟩ else (by rw [y_upn e]; exact hg1 j (by omega))))), ⟨Nat.le_refl _, Nat.le_refl _, Or.inr ⟨by dsimp only; omega, by dsimp only; omega⟩, Or.inl rfl⟩, (m_fr.rf.up (by decide) _), rfl, rfl⟩, (by dsimp only; rw [ht]; exact ⟨hP, hD, hac9⟩)⟩, hS.F ht⟩) hS.2.2 d_ArrayList_add3_22
set_option maxHeartbeats 4000000 in
set_option maxRecDepth 100000 in
theorem c_L_add3_12 (l : Launch) (dC : Nat → ClassId) (dI : Nat → Nat → Nat) (ar : Nat → ClassId) (N0 : Nat) (z : Nat → Nat) (ad : Nat → Nat) (I : Nat → Int32) (T : Int64) (A : Nat → Nat → Int32) (O : Nat → Option Nat) (pl : va_W) (G : Nat → Nat) (C Gs : Nat → List Nat) (qn sn cq cs : Nat) (tt ed : Nat) (sz w0 : Nat) (hmi : y_MI z ar G C Gs I O (y_L pl) (qn, sn, cq, cs)) (htt : G tt = 8) (ho : O 2 = some ed) (hlim : sn ≤ 20000000) : Met l ({ cls := "java/util/ArrayList", name := "add", desc := "(Ljava/lang/Object;[Ljava/lang/Object;I)V" } : Jvm.MethodName) ((Jvm.Cond.code ({ cls := "java/util/ArrayList", name := "add", desc := "(Ljava/lang/Object;[Ljava/lang/Object;I)V" } : Jvm.MethodName) prog_28_method_24_code (4 : Nat) (Option.none : Option Jvm.ClassFile.FieldType)) :: x_T) ({ frames := 5, cells := y_gc sn cs, slots := y_gs sn cs, locals := 147 }) (y_Pc (dC, dI) ar N0 z (y_W ad ar I T A O pl) sz w0 [.ref (ad 12), .ref tt, .ref ed, .int (Int32.ofNat sn)]) (va_Qv (fun (u : (Nat → Int32) × Int64 × (Nat → Nat → Int32) × (Nat → Option Nat) × va_W × (Nat × Nat × Nat × Nat)) => y_MI z ar G C Gs u.1 u.2.2.2.1 (y_L u.2.2.2.2.1) u.2.2.2.2.2 ∧ y_bd (qn, sn, cq, cs) u.2.2.2.2.2 0 1 ∧ m_fr [12, 13, 14, 15] I u.1 ∧ u.2.1 = T ∧ u.2.2.1 = A) (fun u t => va_P (dC, dI) y_cl (y_W ad ar u.1 u.2.1 u.2.2.1 u.2.2.2.1 u.2.2.2.2.1) t.heap ∧ va_D (va_A (y_W ad ar I T A O pl) sz) (y_W ad ar u.1 u.2.1 u.2.2.1 u.2.2.2.1 u.2.2.2.2.1) ∧ y_ac (cq + cs) sz w0 (u.2.2.2.2.2.2.2.1 + u.2.2.2.2.2.2.2.2) t.heap) (va_A (y_W ad ar I T A O pl) sz)) (y_gc sn cs) (y_gs sn cs) (va_A (y_W ad ar I T A O pl) sz) := by
  refine Met.ofW (cc := prog_28_method_24_code) (maxL := 4) (ret := none) (by decide) rfl ?_
  intro p e s m args below meth c s₁ B hml hv
  obtain ⟨rfl, hsz, hN0, hP, hU, hZ, hD0, hw0⟩ := hv
  have hK := hU.2.1
  have hx := B.exec
  have hb := B.bytes
  have hr := B.returns
  have hts : ∀ w ∈ x_T, w.before ([.ref (ad 12), .ref tt, .ref ed, .int (Int32.ofNat sn)] : List Value).toArray s = true := fun w h => atoms_spec (ws := (Jvm.Cond.code ({ cls := "java/util/ArrayList", name := "add", desc := "(Ljava/lang/Object;[Ljava/lang/Object;I)V" } : Jvm.MethodName) prog_28_method_24_code (4 : Nat) (Option.none : Option Jvm.ClassFile.FieldType)) :: x_T) B.pre w (List.mem_cons_of_mem _ h)
  have hown : s.vm.findClass "java/util/ArrayList" = some m.cls := findClass_of_methodNamed B.named
  have hlocks := B.notSynchronized
  subst hsz
  subst hw0
  have hD := hD0.self (sz := s.heap.size)
  have hAN := x_AN hD0 hN0
  generalize hAe : va_A (y_W ad ar I T A O pl) s.heap.size = Bq at hD hAN ⊢
  have hA : ∀ q : Nat, s.heap.size ≤ q → Bq q := fun q h => by rw [← hAe]; exact Or.inr h
  have hS : va_S Bq s.heap s.heap [] := va_S.rf
  have hl := lv_entry ([.ref (ad 12), .ref tt, .ref ed, .int (Int32.ofNat sn)]) (n := 4) (Nat.le_of_ble_eq_true rfl)
  rw [lg_entry_eq]
  generalize (lg_sl ([.ref (ad 12), .ref tt, .ref ed, .int (Int32.ofNat sn)]) ++ List.replicate (4 - (lg_sl ([.ref (ad 12), .ref tt, .ref ed, .int (Int32.ofNat sn)])).length) Slot.unset).toArray = ls at hl ⊢
  have hl : lv_has ls 4 [(0, .ref (ad 12)), (1, .ref tt), (2, .ref ed), (3, .int (Int32.ofNat sn))] := hl
  have hcap := hmi.2.2.2.2.1
  dsimp only at hcap
  have hle := y_LS.le hmi.2.2.1.2
  dsimp only at hle
  have hgg := y_gg sn cs
  rcases hmi.2.2.1.2 with ⟨h1, h2, h3⟩ | ⟨a9, g9, ho9, hfa, hle9, h109, hz9, hel⟩
  · dsimp only at h2 h3
    have hed : ed = z 0 := Option.some.inj (ho.symm.trans h1)
    subst hed
    refine lv_iload_n hx hb d_ArrayList_add3_0 rfl (lv_at hl 3 rfl) ?_
    refine lv_aload_n hx hb d_ArrayList_add3_1 rfl (lv_at hl 2 rfl) ?_
    refine va_tlen hx hb (hZ.2.2.2.2.2.1.narrow hAN) hS (v := Int32.ofNat cs) (by rw [h3]) d_ArrayList_add3_2 ?_
    refine lv_icmp_ne (tgt := 11) hx hb d_ArrayList_add3_3 (by decide) (fun c_1 => ?_) (fun c_1 => ?_)
    · have c_1 : ¬ sn = cs := fun h9 => c_1 ((x_eqN (a := sn) (b := cs) (by omega) (by omega)).mpr h9)
      exact absurd (h2.trans h3.symm) c_1
    · have c_1 : sn = cs := (x_eqN (a := sn) (b := cs) (by omega) (by omega)).mp c_1
      have hfull : sn = cs := c_1
      refine lv_aload_n hx hb d_ArrayList_add3_6 rfl (lv_at hl 0 rfl) ?_
      have hFc := y_free hD hS hA
      refine va_callq (va_runV (As := []) (rest := []) ⟨hx, hb, hml, hown, hts⟩ (c_L_grow0_12 l dC dI ar N0 z ad I T A O pl G C Gs qn sn cq cs s.heap.size (y_hs s.heap) hmi hfull hlim) (cwV 0 hts (x_goodV k_661 k_663 kp_23 k_7 k_664) rfl rfl rfl (by decide +kernel) ⟨Nat.le_of_ble_eq_true rfl, Nat.le_of_ble_eq_true rfl⟩) ⟨y_blind, va_recv hK hP (ci := 0) (q0 := 12) rfl (y_W_ob (by decide) (by decide)), fun U9 hU9 hW9 => y_pre hU9 hW9 hP hD hU hZ hS hAN hN0⟩ rfl rfl hl.1 rfl (lv_room (Nat.le_of_ble_eq_true rfl)) d_ArrayList_add3_7 ⟨(by show 0 + (1) ≤ y_gc sn cs; omega), (by show 0 + (max 10 (cs + cs / 2)) ≤ y_gs sn cs; omega)⟩) hS (fun q _ h => hFc q h) hFc (fun r_2 u t H1 locs ht hvm hw hB hz1 hk1 hS => ?_)
      obtain ⟨I3, T3, A3, O3, pl3, q3, s3, cq3, cs3⟩ := u
      dsimp only at hw hB
      rw [ht] at hB
      obtain ⟨hP, hD1, hac3⟩ := hB
      have hD : va_D Bq (y_W ad ar I3 T3 A3 O3 pl3) := hD1.weaken (fun _ q _ h => hFc q.1 h)
      generalize H1 = H at hP hS hac3 ⊢
      obtain ⟨q1, g1, rfl, hno, e1, e2, e3, e4, hL, hg1, hz1⟩ := hw
      rw [e1, e2, e3, e4] at hP hD
      refine W.eq (g2 := F0 m 10 ls [.ref q1]) rfl ?_
      refine lv_astore_n (lv' := [(2, .ref q1), (0, .ref (ad 12)), (1, .ref tt), (3, .int (Int32.ofNat sn))]) hx hb d_ArrayList_add3_10 rfl hl (by decide) rfl (fun ls hl => ?_)
      refine lv_aload_n hx hb d_ArrayList_add3_11 rfl (lv_at hl 0 rfl) ?_
      refine lv_iload_n hx hb d_ArrayList_add3_12 rfl (lv_at hl 3 rfl) ?_
      refine lv_aload_n hx hb d_ArrayList_add3_13 rfl (lv_at hl 2 rfl) ?_
      obtain ⟨_, _, _, _, _, _, _, hft0, _⟩ := hmi.1.2.1 tt htt
      have hnt : tt ≠ q1 := fun h9 => by rw [h9, hno] at hft0; cases hft0
      have hft9 := (show y_L pl3 tt = y_L pl tt from by rw [hL, y_Lu_n hnt]).trans hft0
      have hfq : y_L pl3 q1 = some (.inl (ar 5, (max 10 (cs + cs / 2)), .inr (.inr (.inr (.inr g1))))) := by rw [hL]; exact y_Lu_s
      refine d_aast hx hb hK hP hD hS (hU.1.2.1 _ kn_1303) hfq hft9 (j := Int32.ofNat sn) (x_inN (by omega) (by omega)) d_ArrayList_add3_14 (fun pl9 H locs hL9 hP hD hS => ?_)
      rw [x_nat (a := sn) (by omega)] at hL9
      refine lv_aload_n hx hb d_ArrayList_add3_15 rfl (lv_at hl 1 rfl) ?_
      refine lv_iload_n hx hb d_ArrayList_add3_16 rfl (lv_at hl 3 rfl) ?_
      refine lv_iconst (v := 1) hx hb d_ArrayList_add3_17 (by decide) ?_
      refine lv_iadd hx hb d_ArrayList_add3_18 ?_
      refine W.eq (g2 := F0 m 19 ls [.int (Int32.ofNat (sn + 1)), .ref (ad 12)]) (by rw [← x_addN (a := sn) (b := 1)] <;> rfl) ?_
      refine k_pi (C := "java/util/ArrayList") (F := F_List) (N := 3) hx hb hts i_List hown t_List t_List_ok n_List hK hP hD hS 12 1 (by decide) (by decide) rfl (by decide) (j := 14) (x := (Int32.ofNat (sn + 1))) rfl (hts _ k_115) (fun _ h9 => h9) rfl (by decide +kernel) d_ArrayList_add3_19 (fun H locs hP hD hS => ?_)
      refine y_know (fun hy91 hy92 hy93 hy94 => ?_)
      have hac9 : y_ac (cq + cs) s.heap.size (y_hs s.heap) (cq + (max 10 (cs + cs / 2))) H := ⟨by omega, by omega⟩
      refine W.widen (k := y_gc sn cs) (n := y_gs sn cs) (by omega) (by omega) ?_
      exact W.vret hx hb hr (fun t ht hW => ⟨⟨((upd I 14 (Int32.ofNat (sn + 1))), T, A, (y_up O 2 (some q1)), pl9, (qn, sn + 1, cq, (max 10 (cs + cs / 2)))), rfl, ⟨(by show y_MI z ar G C Gs (upd I 14 (Int32.ofNat (sn + 1))) (y_up O 2 (some q1)) (y_L pl9) (qn, sn + 1, cq, (max 10 (cs + cs / 2))); rw [hL9, hL, y_Lu_uu]; exact hmi.row12 (Or.inl hno) rfl rfl (fun k hk => if_neg (by omega)) rfl rfl rfl rfl (by omega) (by omega) hz1 (by omega) (fun j hj => (if e : j = sn then ⟨tt, by rw [e]; exact va_up_self _ _ _, htt⟩ else (by rw [y_upn e]; exact hg1 j (by omega))))), ⟨Nat.le_refl _, Nat.le_refl _, Or.inl rfl, Or.inr ⟨by dsimp only; omega, by dsimp only; omega⟩⟩, (m_fr.rf.up (by decide) _), rfl, rfl⟩, (by dsimp only; rw [ht]; exact ⟨hP, hD, hac9⟩)⟩, hS.F ht⟩) hS.2.2 d_ArrayList_add3_22
  · dsimp only at hfa hle9 h109 hel
    have hed : ed = a9 := Option.some.inj (ho.symm.trans ho9)
    subst hed
    refine lv_iload_n hx hb d_ArrayList_add3_0 rfl (lv_at hl 3 rfl) ?_
    refine lv_aload_n hx hb d_ArrayList_add3_1 rfl (lv_at hl 2 rfl) ?_
    refine d_alen hx hb hK hP hfa d_ArrayList_add3_2 ?_
    refine lv_icmp_ne (tgt := 11) hx hb d_ArrayList_add3_3 (by decide) (fun c_4 => ?_) (fun c_4 => ?_)
    · have c_4 : ¬ sn = cs := fun h9 => c_4 ((x_eqN (a := sn) (b := cs) (by omega) (by omega)).mpr h9)
      refine lv_aload_n hx hb d_ArrayList_add3_11 rfl (lv_at hl 2 rfl) ?_
      refine lv_iload_n hx hb d_ArrayList_add3_12 rfl (lv_at hl 3 rfl) ?_
      refine lv_aload_n hx hb d_ArrayList_add3_13 rfl (lv_at hl 1 rfl) ?_
      obtain ⟨w5, m5, a5, b5, r5, v5, u5, hf5, hw5, hm5, ha5⟩ := hmi.1.2.1 tt htt
      refine d_aast hx hb hK hP hD hS (hU.1.2.1 _ kn_1303) hfa hf5 (j := Int32.ofNat sn) (x_inN (by omega) (by omega)) d_ArrayList_add3_14 (fun pl9 H locs hL9 hP hD hS => ?_)
      rw [x_nat (a := sn) (by omega)] at hL9
      refine lv_aload_n hx hb d_ArrayList_add3_15 rfl (lv_at hl 0 rfl) ?_
      refine lv_iload_n hx hb d_ArrayList_add3_16 rfl (lv_at hl 3 rfl) ?_
      refine lv_iconst (v := 1) hx hb d_ArrayList_add3_17 (by decide) ?_
      refine lv_iadd hx hb d_ArrayList_add3_18 ?_
      refine W.eq (g2 := F0 m 19 ls [.int (Int32.ofNat (sn + 1)), .ref (ad 12)]) (by rw [← x_addN (a := sn) (b := 1)] <;> rfl) ?_
      refine k_pi (C := "java/util/ArrayList") (F := F_List) (N := 3) hx hb hts i_List hown t_List t_List_ok n_List hK hP hD hS 12 1 (by decide) (by decide) rfl (by decide) (j := 14) (x := (Int32.ofNat (sn + 1))) rfl (hts _ k_115) (fun _ h9 => h9) rfl (by decide +kernel) d_ArrayList_add3_19 (fun H locs hP hD hS => ?_)
      refine y_know (fun hy91 hy92 hy93 hy94 => ?_)
      have hac9 : y_ac (cq + cs) s.heap.size (y_hs s.heap) (cq + cs) H := ⟨by omega, by omega⟩
      refine W.widen (k := y_gc sn cs) (n := y_gs sn cs) (by omega) (by omega) ?_
      exact W.vret hx hb hr (fun t ht hW => ⟨⟨((upd I 14 (Int32.ofNat (sn + 1))), T, A, O, pl9, (qn, sn + 1, cq, cs)), rfl, ⟨(by show y_MI z ar G C Gs (upd I 14 (Int32.ofNat (sn + 1))) O (y_L pl9) (qn, sn + 1, cq, cs); rw [hL9]; exact hmi.row12 (Or.inr ⟨ho, _, _, _, hfa⟩) ho rfl (fun k hk => rfl) rfl rfl rfl rfl (by omega) (by omega) hz9 (by omega) (fun j hj => (if e : j = sn then ⟨tt, by rw [e]; exact va_up_self _ _ _, htt⟩ else (by rw [y_upn e]; exact hel j (by omega))))), ⟨Nat.le_refl _, Nat.le_refl _, Or.inl rfl, Or.inl rfl⟩, (m_fr.rf.up (by decide) _), rfl, rfl⟩, (by dsimp only; rw [ht]; exact ⟨hP, hD, hac9⟩)⟩, hS.F ht⟩) hS.2.2 d_ArrayList_add3_22
    · have c_4 : sn = cs := (x_eqN (a := sn) (b := cs) (by omega) (by omega)).mp c_4
      have hfull : sn = cs := c_4
      refine lv_aload_n hx hb d_ArrayList_add3_6 rfl (lv_at hl 0 rfl) ?_
      have hFc := y_free hD hS hA
      refine va_callq (va_runV (As := []) (rest := []) ⟨hx, hb, hml, hown, hts⟩ (c_L_grow0_12 l dC dI ar N0 z ad I T A O pl G C Gs qn sn cq cs s.heap.size (y_hs s.heap) hmi hfull hlim) (cwV 0 hts (x_goodV k_661 k_663 kp_23 k_7 k_664) rfl rfl rfl (by decide +kernel) ⟨Nat.le_of_ble_eq_true rfl, Nat.le_of_ble_eq_true rfl⟩) ⟨y_blind, va_recv hK hP (ci := 0) (q0 := 12) rfl (y_W_ob (by decide) (by decide)), fun U9 hU9 hW9 => y_pre hU9 hW9 hP hD hU hZ hS hAN hN0⟩ rfl rfl hl.1 rfl (lv_room (Nat.le_of_ble_eq_true rfl)) d_ArrayList_add3_7 ⟨(by show 0 + (1) ≤ y_gc sn cs; omega), (by show 0 + (max 10 (cs + cs / 2)) ≤ y_gs sn cs; omega)⟩) hS (fun q _ h => hFc q h) hFc (fun r_6 u t H1 locs ht hvm hw hB hz1 hk1 hS => ?_)
      obtain ⟨I7, T7, A7, O7, pl7, q7, s7, cq7, cs7⟩ := u
      dsimp only at hw hB
      rw [ht] at hB
      obtain ⟨hP, hD1, hac7⟩ := hB
      have hD : va_D Bq (y_W ad ar I7 T7 A7 O7 pl7) := hD1.weaken (fun _ q _ h => hFc q.1 h)
      generalize H1 = H at hP hS hac7 ⊢
      obtain ⟨q1, g1, rfl, hno, e1, e2, e3, e4, hL, hg1, hz1⟩ := hw
      rw [e1, e2, e3, e4] at hP hD
      refine W.eq (g2 := F0 m 10 ls [.ref q1]) rfl ?_
      refine lv_astore_n (lv' := [(2, .ref q1), (0, .ref (ad 12)), (1, .ref tt), (3, .int (Int32.ofNat sn))]) hx hb d_ArrayList_add3_10 rfl hl (by decide) rfl (fun ls hl => ?_)
      refine lv_aload_n hx hb d_ArrayList_add3_11 rfl (lv_at hl 0 rfl) ?_
      refine lv_iload_n hx hb d_ArrayList_add3_12 rfl (lv_at hl 3 rfl) ?_
      refine lv_aload_n hx hb d_ArrayList_add3_13 rfl (lv_at hl 2 rfl) ?_
      obtain ⟨_, _, _, _, _, _, _, hft0, _⟩ := hmi.1.2.1 tt htt
      have hnt : tt ≠ q1 := fun h9 => by rw [h9, hno] at hft0; cases hft0
      have hft9 := (show y_L pl7 tt = y_L pl tt from by rw [hL, y_Lu_n hnt]).trans hft0
      have hfq : y_L pl7 q1 = some (.inl (ar 5, (max 10 (cs + cs / 2)), .inr (.inr (.inr (.inr g1))))) := by rw [hL]; exact y_Lu_s
      refine d_aast hx hb hK hP hD hS (hU.1.2.1 _ kn_1303) hfq hft9 (j := Int32.ofNat sn) (x_inN (by omega) (by omega)) d_ArrayList_add3_14 (fun pl9 H locs hL9 hP hD hS => ?_)
      rw [x_nat (a := sn) (by omega)] at hL9
      refine lv_aload_n hx hb d_ArrayList_add3_15 rfl (lv_at hl 1 rfl) ?_
      refine lv_iload_n hx hb d_ArrayList_add3_16 rfl (lv_at hl 3 rfl) ?_
      refine lv_iconst (v := 1) hx hb d_ArrayList_add3_17 (by decide) ?_
      refine lv_iadd hx hb d_ArrayList_add3_18 ?_
      refine W.eq (g2 := F0 m 19 ls [.int (Int32.ofNat (sn + 1)), .ref (ad 12)]) (by rw [← x_addN (a := sn) (b := 1)] <;> rfl) ?_
      refine k_pi (C := "java/util/ArrayList") (F := F_List) (N := 3) hx hb hts i_List hown t_List t_List_ok n_List hK hP hD hS 12 1 (by decide) (by decide) rfl (by decide) (j := 14) (x := (Int32.ofNat (sn + 1))) rfl (hts _ k_115) (fun _ h9 => h9) rfl (by decide +kernel) d_ArrayList_add3_19 (fun H locs hP hD hS => ?_)
      refine y_know (fun hy91 hy92 hy93 hy94 => ?_)
      have hac9 : y_ac (cq + cs) s.heap.size (y_hs s.heap) (cq + (max 10 (cs + cs / 2))) H := ⟨by omega, by omega⟩
      refine W.widen (k := y_gc sn cs) (n := y_gs sn cs) (by omega) (by omega) ?_
      exact W.vret hx hb hr (fun t ht hW => ⟨⟨((upd I 14 (Int32.ofNat (sn + 1))), T, A, (y_up O 2 (some q1)), pl9, (qn, sn + 1, cq, (max 10 (cs + cs / 2)))), rfl, ⟨(by show y_MI z ar G C Gs (upd I 14 (Int32.ofNat (sn + 1))) (y_up O 2 (some q1)) (y_L pl9) (qn, sn + 1, cq, (max 10 (cs + cs / 2))); rw [hL9, hL, y_Lu_uu]; exact hmi.row12 (Or.inl hno) rfl rfl (fun k hk => if_neg (by omega)) rfl rfl rfl rfl (by omega) (by omega) hz1 (by omega) (fun j hj => (if e : j = sn then ⟨tt, by rw [e]; exact va_up_self _ _ _, htt⟩ else (by rw [y_upn e]; exact hg1 j (by omega))))), ⟨Nat.le_refl _, Nat.le_refl _, Or.inl rfl, Or.inr ⟨by dsimp only; omega, by dsimp only; omega⟩⟩, (m_fr.rf.up (by decide) _), rfl, rfl⟩, (by dsimp only; rw [ht]; exact ⟨hP, hD, hac9⟩)⟩, hS.F ht⟩) hS.2.2 d_ArrayList_add3_22
