-- ===== 78.yadd: add, remove, clear of a list, by program =====
theorem k_117 : (Jvm.Cond.fieldLink "java/util/ArrayList" (63 : Nat) "java/util/ArrayList" "modCount" "I") ∈ x_T := x_at 117 (by decide +kernel) (by decide +kernel)
theorem k_118 : (Jvm.Cond.sameField "java/util/ArrayList" "java/util/AbstractList" "modCount" "I") ∈ x_T := x_at 118 (by decide +kernel) (by decide +kernel)
theorem k_657 : (Jvm.Cond.methodLink "java/util/ArrayList" (131 : Nat) ({ cls := "java/util/ArrayList", name := "add", desc := "(Ljava/lang/Object;[Ljava/lang/Object;I)V" } : Jvm.MethodName)) ∈ x_T := x_at 657 (by decide +kernel) (by decide +kernel)
theorem k_659 : (Jvm.Cond.instanceMethod ({ cls := "java/util/ArrayList", name := "add", desc := "(Ljava/lang/Object;[Ljava/lang/Object;I)V" } : Jvm.MethodName)) ∈ x_T := x_at 659 (by decide +kernel) (by decide +kernel)
theorem k_660 : (Jvm.Cond.code ({ cls := "java/util/ArrayList", name := "add", desc := "(Ljava/lang/Object;[Ljava/lang/Object;I)V" } : Jvm.MethodName) prog_28_method_24_code (4 : Nat) (Option.none : Option Jvm.ClassFile.FieldType)) ∈ x_T := x_at 660 (by decide +kernel) (by decide +kernel)
theorem k_764 : (Jvm.Cond.methodLink "java/util/ArrayList" (144 : Nat) ({ cls := "java/util/ArrayList", name := "fastRemove", desc := "([Ljava/lang/Object;I)V" } : Jvm.MethodName)) ∈ x_T := x_at 764 (by decide +kernel) (by decide +kernel)
theorem k_766 : (Jvm.Cond.instanceMethod ({ cls := "java/util/ArrayList", name := "fastRemove", desc := "([Ljava/lang/Object;I)V" } : Jvm.MethodName)) ∈ x_T := x_at 766 (by decide +kernel) (by decide +kernel)
theorem k_767 : (Jvm.Cond.code ({ cls := "java/util/ArrayList", name := "fastRemove", desc := "([Ljava/lang/Object;I)V" } : Jvm.MethodName) prog_28_method_39_code (4 : Nat) (Option.none : Option Jvm.ClassFile.FieldType)) ∈ x_T := x_at 767 (by decide +kernel) (by decide +kernel)
theorem k_768 : (Jvm.Cond.methodLink "java/util/ArrayList" (112 : Nat) ({ cls := "java/lang/System", name := "arraycopy", desc := "(Ljava/lang/Object;ILjava/lang/Object;II)V" } : Jvm.MethodName)) ∈ x_T := x_at 768 (by decide +kernel) (by decide +kernel)
theorem kp_22 : (Jvm.Cond.selects "java/util/ArrayList" ({ cls := "java/util/ArrayList", name := "add", desc := "(Ljava/lang/Object;[Ljava/lang/Object;I)V" } : Jvm.MethodName) ({ cls := "java/util/ArrayList", name := "add", desc := "(Ljava/lang/Object;[Ljava/lang/Object;I)V" } : Jvm.MethodName)) ∈ x_T := x_sel (q := (({ cls := "java/util/ArrayList", name := "add", desc := "(Ljava/lang/Object;[Ljava/lang/Object;I)V" } : Jvm.MethodName), 3)) 22 (by decide +kernel) (by decide +kernel)
theorem kp_26 : (Jvm.Cond.selects "java/util/ArrayList" ({ cls := "java/util/ArrayList", name := "fastRemove", desc := "([Ljava/lang/Object;I)V" } : Jvm.MethodName) ({ cls := "java/util/ArrayList", name := "fastRemove", desc := "([Ljava/lang/Object;I)V" } : Jvm.MethodName)) ∈ x_T := x_sel (q := (({ cls := "java/util/ArrayList", name := "fastRemove", desc := "([Ljava/lang/Object;I)V" } : Jvm.MethodName), 3)) 26 (by decide +kernel) (by decide +kernel)
theorem d_ArrayList_add_0 : decode prog_28_method_25_code 0 = .ok (.aload_n 0, 1) := by decide +kernel
theorem d_ArrayList_add_1 : decode prog_28_method_25_code 1 = .ok (.dup, 1) := by decide +kernel
theorem d_ArrayList_add_2 : decode prog_28_method_25_code 2 = .ok (.getfield 63, 3) := by decide +kernel
theorem d_ArrayList_add_5 : decode prog_28_method_25_code 5 = .ok (.iconst 1, 1) := by decide +kernel
theorem d_ArrayList_add_6 : decode prog_28_method_25_code 6 = .ok (.iadd, 1) := by decide +kernel
theorem d_ArrayList_add_7 : decode prog_28_method_25_code 7 = .ok (.putfield 63, 3) := by decide +kernel
theorem d_ArrayList_add_10 : decode prog_28_method_25_code 10 = .ok (.aload_n 0, 1) := by decide +kernel
theorem d_ArrayList_add_11 : decode prog_28_method_25_code 11 = .ok (.aload_n 1, 1) := by decide +kernel
theorem d_ArrayList_add_12 : decode prog_28_method_25_code 12 = .ok (.aload_n 0, 1) := by decide +kernel
theorem d_ArrayList_add_13 : decode prog_28_method_25_code 13 = .ok (.getfield 9, 3) := by decide +kernel
theorem d_ArrayList_add_16 : decode prog_28_method_25_code 16 = .ok (.aload_n 0, 1) := by decide +kernel
theorem d_ArrayList_add_17 : decode prog_28_method_25_code 17 = .ok (.getfield 48, 3) := by decide +kernel
theorem d_ArrayList_add_20 : decode prog_28_method_25_code 20 = .ok (.invokevirtual 131, 3) := by decide +kernel
theorem d_ArrayList_add_23 : decode prog_28_method_25_code 23 = .ok (.iconst 1, 1) := by decide +kernel
theorem d_ArrayList_add_24 : decode prog_28_method_25_code 24 = .ok (.ireturn, 1) := by decide +kernel
theorem d_ArrayList_fastRemove_0 : decode prog_28_method_39_code 0 = .ok (.aload_n 0, 1) := by decide +kernel
theorem d_ArrayList_fastRemove_1 : decode prog_28_method_39_code 1 = .ok (.dup, 1) := by decide +kernel
theorem d_ArrayList_fastRemove_2 : decode prog_28_method_39_code 2 = .ok (.getfield 63, 3) := by decide +kernel
theorem d_ArrayList_fastRemove_5 : decode prog_28_method_39_code 5 = .ok (.iconst 1, 1) := by decide +kernel
theorem d_ArrayList_fastRemove_6 : decode prog_28_method_39_code 6 = .ok (.iadd, 1) := by decide +kernel
theorem d_ArrayList_fastRemove_7 : decode prog_28_method_39_code 7 = .ok (.putfield 63, 3) := by decide +kernel
theorem d_ArrayList_fastRemove_10 : decode prog_28_method_39_code 10 = .ok (.aload_n 0, 1) := by decide +kernel
theorem d_ArrayList_fastRemove_11 : decode prog_28_method_39_code 11 = .ok (.getfield 48, 3) := by decide +kernel
theorem d_ArrayList_fastRemove_14 : decode prog_28_method_39_code 14 = .ok (.iconst 1, 1) := by decide +kernel
theorem d_ArrayList_fastRemove_15 : decode prog_28_method_39_code 15 = .ok (.isub, 1) := by decide +kernel
theorem d_ArrayList_fastRemove_16 : decode prog_28_method_39_code 16 = .ok (.dup, 1) := by decide +kernel
theorem d_ArrayList_fastRemove_17 : decode prog_28_method_39_code 17 = .ok (.istore_n 3, 1) := by decide +kernel
theorem d_ArrayList_fastRemove_18 : decode prog_28_method_39_code 18 = .ok (.iload_n 2, 1) := by decide +kernel
theorem d_ArrayList_fastRemove_19 : decode prog_28_method_39_code 19 = .ok (.if_icmp .le 15, 3) := by decide +kernel
theorem d_ArrayList_fastRemove_22 : decode prog_28_method_39_code 22 = .ok (.aload_n 1, 1) := by decide +kernel
theorem d_ArrayList_fastRemove_23 : decode prog_28_method_39_code 23 = .ok (.iload_n 2, 1) := by decide +kernel
theorem d_ArrayList_fastRemove_24 : decode prog_28_method_39_code 24 = .ok (.iconst 1, 1) := by decide +kernel
theorem d_ArrayList_fastRemove_25 : decode prog_28_method_39_code 25 = .ok (.iadd, 1) := by decide +kernel
theorem d_ArrayList_fastRemove_26 : decode prog_28_method_39_code 26 = .ok (.aload_n 1, 1) := by decide +kernel
theorem d_ArrayList_fastRemove_27 : decode prog_28_method_39_code 27 = .ok (.iload_n 2, 1) := by decide +kernel
theorem d_ArrayList_fastRemove_28 : decode prog_28_method_39_code 28 = .ok (.iload_n 3, 1) := by decide +kernel
theorem d_ArrayList_fastRemove_29 : decode prog_28_method_39_code 29 = .ok (.iload_n 2, 1) := by decide +kernel
theorem d_ArrayList_fastRemove_30 : decode prog_28_method_39_code 30 = .ok (.isub, 1) := by decide +kernel
theorem d_ArrayList_fastRemove_31 : decode prog_28_method_39_code 31 = .ok (.invokestatic 112, 3) := by decide +kernel
theorem d_ArrayList_fastRemove_34 : decode prog_28_method_39_code 34 = .ok (.aload_n 1, 1) := by decide +kernel
theorem d_ArrayList_fastRemove_35 : decode prog_28_method_39_code 35 = .ok (.aload_n 0, 1) := by decide +kernel
theorem d_ArrayList_fastRemove_36 : decode prog_28_method_39_code 36 = .ok (.iload_n 3, 1) := by decide +kernel
theorem d_ArrayList_fastRemove_37 : decode prog_28_method_39_code 37 = .ok (.dup_x1, 1) := by decide +kernel
theorem d_ArrayList_fastRemove_38 : decode prog_28_method_39_code 38 = .ok (.putfield 48, 3) := by decide +kernel
theorem d_ArrayList_fastRemove_41 : decode prog_28_method_39_code 41 = .ok (.aconst_null, 1) := by decide +kernel
theorem d_ArrayList_fastRemove_42 : decode prog_28_method_39_code 42 = .ok (.aastore, 1) := by decide +kernel
theorem d_ArrayList_fastRemove_43 : decode prog_28_method_39_code 43 = .ok (.return_, 1) := by decide +kernel
theorem d_ArrayList_remove_0 : decode prog_28_method_29_code 0 = .ok (.iload_n 1, 1) := by decide +kernel
theorem d_ArrayList_remove_1 : decode prog_28_method_29_code 1 = .ok (.aload_n 0, 1) := by decide +kernel
theorem d_ArrayList_remove_2 : decode prog_28_method_29_code 2 = .ok (.getfield 48, 3) := by decide +kernel
theorem d_ArrayList_remove_5 : decode prog_28_method_29_code 5 = .ok (.invokestatic 118, 3) := by decide +kernel
theorem d_ArrayList_remove_8 : decode prog_28_method_29_code 8 = .ok (.pop, 1) := by decide +kernel
theorem d_ArrayList_remove_9 : decode prog_28_method_29_code 9 = .ok (.aload_n 0, 1) := by decide +kernel
theorem d_ArrayList_remove_10 : decode prog_28_method_29_code 10 = .ok (.getfield 9, 3) := by decide +kernel
theorem d_ArrayList_remove_13 : decode prog_28_method_29_code 13 = .ok (.astore_n 2, 1) := by decide +kernel
theorem d_ArrayList_remove_14 : decode prog_28_method_29_code 14 = .ok (.aload_n 2, 1) := by decide +kernel
theorem d_ArrayList_remove_15 : decode prog_28_method_29_code 15 = .ok (.iload_n 1, 1) := by decide +kernel
theorem d_ArrayList_remove_16 : decode prog_28_method_29_code 16 = .ok (.aaload, 1) := by decide +kernel
theorem d_ArrayList_remove_17 : decode prog_28_method_29_code 17 = .ok (.astore_n 3, 1) := by decide +kernel
theorem d_ArrayList_remove_18 : decode prog_28_method_29_code 18 = .ok (.aload_n 0, 1) := by decide +kernel
theorem d_ArrayList_remove_19 : decode prog_28_method_29_code 19 = .ok (.aload_n 2, 1) := by decide +kernel
theorem d_ArrayList_remove_20 : decode prog_28_method_29_code 20 = .ok (.iload_n 1, 1) := by decide +kernel
theorem d_ArrayList_remove_21 : decode prog_28_method_29_code 21 = .ok (.invokevirtual 144, 3) := by decide +kernel
theorem d_ArrayList_remove_24 : decode prog_28_method_29_code 24 = .ok (.aload_n 3, 1) := by decide +kernel
theorem d_ArrayList_remove_25 : decode prog_28_method_29_code 25 = .ok (.areturn, 1) := by decide +kernel
theorem d_ArrayList_clear_0 : decode prog_28_method_40_code 0 = .ok (.aload_n 0, 1) := by decide +kernel
theorem d_ArrayList_clear_1 : decode prog_28_method_40_code 1 = .ok (.dup, 1) := by decide +kernel
theorem d_ArrayList_clear_2 : decode prog_28_method_40_code 2 = .ok (.getfield 63, 3) := by decide +kernel
theorem d_ArrayList_clear_5 : decode prog_28_method_40_code 5 = .ok (.iconst 1, 1) := by decide +kernel
theorem d_ArrayList_clear_6 : decode prog_28_method_40_code 6 = .ok (.iadd, 1) := by decide +kernel
theorem d_ArrayList_clear_7 : decode prog_28_method_40_code 7 = .ok (.putfield 63, 3) := by decide +kernel
theorem d_ArrayList_clear_10 : decode prog_28_method_40_code 10 = .ok (.aload_n 0, 1) := by decide +kernel
theorem d_ArrayList_clear_11 : decode prog_28_method_40_code 11 = .ok (.getfield 9, 3) := by decide +kernel
theorem d_ArrayList_clear_14 : decode prog_28_method_40_code 14 = .ok (.astore_n 1, 1) := by decide +kernel
theorem d_ArrayList_clear_15 : decode prog_28_method_40_code 15 = .ok (.aload_n 0, 1) := by decide +kernel
theorem d_ArrayList_clear_16 : decode prog_28_method_40_code 16 = .ok (.getfield 48, 3) := by decide +kernel
theorem d_ArrayList_clear_19 : decode prog_28_method_40_code 19 = .ok (.istore_n 2, 1) := by decide +kernel
theorem d_ArrayList_clear_20 : decode prog_28_method_40_code 20 = .ok (.aload_n 0, 1) := by decide +kernel
theorem d_ArrayList_clear_21 : decode prog_28_method_40_code 21 = .ok (.iconst 0, 1) := by decide +kernel
theorem d_ArrayList_clear_22 : decode prog_28_method_40_code 22 = .ok (.dup_x1, 1) := by decide +kernel
theorem d_ArrayList_clear_23 : decode prog_28_method_40_code 23 = .ok (.putfield 48, 3) := by decide +kernel
theorem d_ArrayList_clear_26 : decode prog_28_method_40_code 26 = .ok (.istore_n 3, 1) := by decide +kernel
theorem d_ArrayList_clear_27 : decode prog_28_method_40_code 27 = .ok (.iload_n 3, 1) := by decide +kernel
theorem d_ArrayList_clear_28 : decode prog_28_method_40_code 28 = .ok (.iload_n 2, 1) := by decide +kernel
theorem d_ArrayList_clear_29 : decode prog_28_method_40_code 29 = .ok (.if_icmp .ge 13, 3) := by decide +kernel
theorem d_ArrayList_clear_32 : decode prog_28_method_40_code 32 = .ok (.aload_n 1, 1) := by decide +kernel
theorem d_ArrayList_clear_33 : decode prog_28_method_40_code 33 = .ok (.iload_n 3, 1) := by decide +kernel
theorem d_ArrayList_clear_34 : decode prog_28_method_40_code 34 = .ok (.aconst_null, 1) := by decide +kernel
theorem d_ArrayList_clear_35 : decode prog_28_method_40_code 35 = .ok (.aastore, 1) := by decide +kernel
theorem d_ArrayList_clear_36 : decode prog_28_method_40_code 36 = .ok (.iinc 3 1, 3) := by decide +kernel
theorem d_ArrayList_clear_39 : decode prog_28_method_40_code 39 = .ok (.goto (-12), 3) := by decide +kernel
theorem d_ArrayList_clear_42 : decode prog_28_method_40_code 42 = .ok (.return_, 1) := by decide +kernel
theorem y_LS.some {z : Nat → Nat} {ar : Nat → ClassId} {G : Nat → Nat} {f : Nat → Option va_E} {o : Option Nat} {k cap : Nat} (h : y_LS z ar G f o k cap) : ∃ a, o = some a := by
  rcases h with ⟨h, _⟩ | ⟨a, _, h, _⟩
  · exact ⟨_, h⟩
  · exact ⟨a, h⟩
theorem y_Lu_eq {f f' : Nat → Option va_E} {a : Nat} {e : va_E} (h : f' a = some e) (ho : ∀ b, b ≠ a → f' b = f b) : f' = y_Lu f a e := by
  funext b
  by_cases hb : b = a
  · rw [hb, y_Lu_s]; exact h
  · rw [y_Lu_n hb]; exact ho b hb
set_option maxHeartbeats 4000000 in
set_option maxRecDepth 100000 in
theorem c_L_add_11 (l : Launch) (dC : Nat → ClassId) (dI : Nat → Nat → Nat) (ar : Nat → ClassId) (N0 : Nat) (z : Nat → Nat) (ad : Nat → Nat) (I : Nat → Int32) (T : Int64) (A : Nat → Nat → Int32) (O : Nat → Option Nat) (pl : va_W) (G : Nat → Nat) (C Gs : Nat → List Nat) (qn sn cq cs : Nat) (tt : Nat) (sz w0 : Nat) (hmi : y_MI z ar G C Gs I O (y_L pl) (qn, sn, cq, cs)) (htt : G tt = 8) (hlim : qn ≤ 20000000) : Met l ({ cls := "java/util/ArrayList", name := "add", desc := "(Ljava/lang/Object;)Z" } : Jvm.MethodName) ((Jvm.Cond.code ({ cls := "java/util/ArrayList", name := "add", desc := "(Ljava/lang/Object;)Z" } : Jvm.MethodName) prog_28_method_25_code (2 : Nat) (Option.some Jvm.ClassFile.FieldType.boolean)) :: x_T) ({ frames := 6, cells := y_gc qn cq, slots := y_gs qn cq, locals := 170 }) (y_Pc (dC, dI) ar N0 z (y_W ad ar I T A O pl) sz w0 [.ref (ad 11), .ref tt]) (va_Qi (fun (r : Int32) (u : (Nat → Int32) × Int64 × (Nat → Nat → Int32) × (Nat → Option Nat) × va_W × (Nat × Nat × Nat × Nat)) => y_MI z ar G C Gs u.1 u.2.2.2.1 (y_L u.2.2.2.2.1) u.2.2.2.2.2 ∧ y_bd (qn, sn, cq, cs) u.2.2.2.2.2 1 0 ∧ m_fr [12, 13, 14, 15] I u.1 ∧ u.2.1 = T ∧ u.2.2.1 = A) (fun u t => va_P (dC, dI) y_cl (y_W ad ar u.1 u.2.1 u.2.2.1 u.2.2.2.1 u.2.2.2.2.1) t.heap ∧ va_D (va_A (y_W ad ar I T A O pl) sz) (y_W ad ar u.1 u.2.1 u.2.2.1 u.2.2.2.1 u.2.2.2.2.1) ∧ y_ac (cq + cs) sz w0 (u.2.2.2.2.2.2.2.1 + u.2.2.2.2.2.2.2.2) t.heap) (va_A (y_W ad ar I T A O pl) sz)) (y_gc qn cq) (y_gs qn cq) (va_A (y_W ad ar I T A O pl) sz) := by
  refine Met.ofW (cc := prog_28_method_25_code) (maxL := 2) (ret := (some .boolean)) (by decide) rfl ?_
  intro p e s m args below meth c s₁ B hml hv
  obtain ⟨rfl, hsz, hN0, hP, hU, hZ, hD0, hw0⟩ := hv
  have hK := hU.2.1
  have hx := B.exec
  have hb := B.bytes
  have hr := B.returns
  have hts : ∀ w ∈ x_T, w.before ([.ref (ad 11), .ref tt] : List Value).toArray s = true := fun w h => atoms_spec (ws := (Jvm.Cond.code ({ cls := "java/util/ArrayList", name := "add", desc := "(Ljava/lang/Object;)Z" } : Jvm.MethodName) prog_28_method_25_code (2 : Nat) (Option.some Jvm.ClassFile.FieldType.boolean)) :: x_T) B.pre w (List.mem_cons_of_mem _ h)
  have hown : s.vm.findClass "java/util/ArrayList" = some m.cls := findClass_of_methodNamed B.named
  have hlocks := B.notSynchronized
  subst hsz
  subst hw0
  have hD := hD0.self (sz := s.heap.size)
  have hAN := x_AN hD0 hN0
  generalize hAe : va_A (y_W ad ar I T A O pl) s.heap.size = Bq at hD hAN ⊢
  have hA : ∀ q : Nat, s.heap.size ≤ q → Bq q := fun q h => by rw [← hAe]; exact Or.inr h
  have hS : va_S Bq s.heap s.heap [] := va_S.rf
  have hl := lv_entry ([.ref (ad 11), .ref tt]) (n := 2) (Nat.le_of_ble_eq_true rfl)
  rw [lg_entry_eq]
  generalize (lg_sl ([.ref (ad 11), .ref tt]) ++ List.replicate (2 - (lg_sl ([.ref (ad 11), .ref tt])).length) Slot.unset).toArray = ls at hl ⊢
  have hl : lv_has ls 2 [(0, .ref (ad 11)), (1, .ref tt)] := hl
  obtain ⟨ed, ho⟩ := y_LS.some hmi.2.1.2
  have hcap := hmi.2.2.2.2.1
  dsimp only at hcap
  have hle := y_LS.le hmi.2.1.2
  dsimp only at hle
  have hgg := y_gg qn cq
  refine lv_aload_n hx hb d_ArrayList_add_0 rfl (lv_at hl 0 rfl) ?_
  refine lv_dup hx hb d_ArrayList_add_1 rfl ?_
  refine k_g (C := "java/util/ArrayList") (F := F_List) (N := 3) hx hb hts i_List hown hK hP 11 2 (by decide) (by decide) rfl (by decide) (d := (1, 13)) rfl (hts _ k_117) (fun x9 h9 => u_same (hts _ k_118) x9 h9) (v := .int (I 13)) rfl d_ArrayList_add_2 ?_
  refine lv_iconst (v := 1) hx hb d_ArrayList_add_5 (by decide) ?_
  refine lv_iadd hx hb d_ArrayList_add_6 ?_
  refine k_pi (C := "java/util/ArrayList") (F := F_List) (N := 3) hx hb hts i_List hown t_List t_List_ok n_List hK hP hD hS 11 2 (by decide) (by decide) rfl (by decide) (j := 13) (x := ((I 13) + 1)) rfl (hts _ k_117) (fun x9 h9 => u_same (hts _ k_118) x9 h9) rfl (by decide +kernel) d_ArrayList_add_7 (fun H locs hP hD hS => ?_)
  have hmi : y_MI z ar G C Gs (upd I 13 ((I 13) + 1)) O (y_L pl) (qn, sn, cq, cs) := hmi
  refine lv_aload_n hx hb d_ArrayList_add_10 rfl (lv_at hl 0 rfl) ?_
  refine lv_aload_n hx hb d_ArrayList_add_11 rfl (lv_at hl 1 rfl) ?_
  refine lv_aload_n hx hb d_ArrayList_add_12 rfl (lv_at hl 0 rfl) ?_
  refine k_g (C := "java/util/ArrayList") (F := F_List) (N := 3) hx hb hts i_List hown hK hP 11 0 (by decide) (by decide) rfl (by decide) (d := (3, 1)) rfl (hts _ k_114) (fun _ h9 => h9) (v := .ref ed) (by show va_rf (O 1) = _; rw [ho]; rfl) d_ArrayList_add_13 ?_
  refine lv_aload_n hx hb d_ArrayList_add_16 rfl (lv_at hl 0 rfl) ?_
  refine k_g (C := "java/util/ArrayList") (F := F_List) (N := 3) hx hb hts i_List hown hK hP 11 1 (by decide) (by decide) rfl (by decide) (d := (1, 12)) rfl (hts _ k_115) (fun _ h9 => h9) (v := .int (Int32.ofNat qn)) (congrArg Value.int hmi.2.1.1) d_ArrayList_add_17 ?_
  refine y_know (fun hya1 hya2 hya3 hya4 => ?_)
  have hFc := y_free hD hS hA
  refine va_callv (va_runV (As := [.ref tt, .ref ed, .int (Int32.ofNat qn)]) (rest := []) ⟨hx, hb, hml, hown, hts⟩ (c_L_add3_11 l dC dI ar N0 z ad (upd I 13 ((I 13) + 1)) T A O pl G C Gs qn sn cq cs tt ed H.size (y_hs H) hmi htt ho hlim) (cwV 3 hts (x_goodV k_657 k_659 kp_22 k_7 k_660) rfl rfl rfl (by decide +kernel) ⟨Nat.le_of_ble_eq_true rfl, Nat.le_of_ble_eq_true rfl⟩) ⟨y_blind, va_recv hK hP (ci := 0) (q0 := 11) rfl (y_W_ob (by decide) (by decide)), fun U9 hU9 hW9 => y_pre hU9 hW9 hP hD hU hZ hS hAN hN0⟩ rfl rfl hl.1 rfl (lv_room (Nat.le_of_ble_eq_true rfl)) d_ArrayList_add_20 ⟨(by show 0 + (y_gc qn cq) ≤ y_gc qn cq; omega), (by show 0 + (y_gs qn cq) ≤ y_gs qn cq; omega)⟩) hS (fun q _ h => hFc q h) hFc (fun u t H1 locs ht hvm hw hB hz1 hk1 hS => ?_)
  obtain ⟨I1, T1, A1, O1, pl1, q1, s1, cq1, cs1⟩ := u
  dsimp only at hw hB
  rw [ht] at hB
  obtain ⟨hP, hD1, hac1⟩ := hB
  have hD : va_D Bq (y_W ad ar I1 T1 A1 O1 pl1) := hD1.weaken (fun _ q _ h => hFc q.1 h)
  generalize H1 = H at hP hS hac1 ⊢
  obtain ⟨hmi, hbd1, fr1, e2, e3⟩ := hw
  rw [e2, e3] at hP hD
  have hP : va_P (dC, dI) y_cl (y_W ad ar I1 T A O1 pl1) H := hP
  have hD : va_D Bq (y_W ad ar I1 T A O1 pl1) := hD
  unfold y_ac at hac1
  have hb1 := hbd1
  unfold y_bd at hb1
  dsimp only at hb1 hac1
  refine lv_iconst (v := 1) hx hb d_ArrayList_add_23 (by decide) ?_
  refine y_know (fun hy91 hy92 hy93 hy94 => ?_)
  have hac9 : y_ac (cq + cs) s.heap.size (y_hs s.heap) (cq1 + cs1) H := ⟨by omega, by omega⟩
  refine W.widen (k := y_gc qn cq) (n := y_gs qn cq) (by omega) (by omega) ?_
  exact W.zret (v := 1) hx hb hr (rfl) (fun t ht hW => ⟨⟨1, (I1, T, A, O1, pl1, (q1, s1, cq1, cs1)), rfl, ⟨hmi, (y_bd.tr hbd1 (y_bd.rf (a := 0) (b := 0)) (e := 1) (g := 0) (by decide) (by decide)), ((m_fr.rf.up (by decide) _).tr fr1 (by decide)), rfl, rfl⟩, (by dsimp only; rw [ht]; exact ⟨hP, hD, hac9⟩)⟩, hS.F ht⟩) hS.2.2 d_ArrayList_add_24
set_option maxHeartbeats 4000000 in
set_option maxRecDepth 100000 in
theorem c_L_add_12 (l : Launch) (dC : Nat → ClassId) (dI : Nat → Nat → Nat) (ar : Nat → ClassId) (N0 : Nat) (z : Nat → Nat) (ad : Nat → Nat) (I : Nat → Int32) (T : Int64) (A : Nat → Nat → Int32) (O : Nat → Option Nat) (pl : va_W) (G : Nat → Nat) (C Gs : Nat → List Nat) (qn sn cq cs : Nat) (tt : Nat) (sz w0 : Nat) (hmi : y_MI z ar G C Gs I O (y_L pl) (qn, sn, cq, cs)) (htt : G tt = 8) (hlim : sn ≤ 20000000) : Met l ({ cls := "java/util/ArrayList", name := "add", desc := "(Ljava/lang/Object;)Z" } : Jvm.MethodName) ((Jvm.Cond.code ({ cls := "java/util/ArrayList", name := "add", desc := "(Ljava/lang/Object;)Z" } : Jvm.MethodName) prog_28_method_25_code (2 : Nat) (Option.some Jvm.ClassFile.FieldType.boolean)) :: x_T) ({ frames := 6, cells := y_gc sn cs, slots := y_gs sn cs, locals := 170 }) (y_Pc (dC, dI) ar N0 z (y_W ad ar I T A O pl) sz w0 [.ref (ad 12), .ref tt]) (va_Qi (fun (r : Int32) (u : (Nat → Int32) × Int64 × (Nat → Nat → Int32) × (Nat → Option Nat) × va_W × (Nat × Nat × Nat × Nat)) => y_MI z ar G C Gs u.1 u.2.2.2.1 (y_L u.2.2.2.2.1) u.2.2.2.2.2 ∧ y_bd (qn, sn, cq, cs) u.2.2.2.2.2 0 1 ∧ m_fr [12, 13, 14, 15] I u.1 ∧ u.2.1 = T ∧ u.2.2.1 = A) (fun u t => va_P (dC, dI) y_cl (y_W ad ar u.1 u.2.1 u.2.2.1 u.2.2.2.1 u.2.2.2.2.1) t.heap ∧ va_D (va_A (y_W ad ar I T A O pl) sz) (y_W ad ar u.1 u.2.1 u.2.2.1 u.2.2.2.1 u.2.2.2.2.1) ∧ y_ac (cq + cs) sz w0 (u.2.2.2.2.2.2.2.1 + u.2.2.2.2.2.2.2.2) t.heap) (va_A (y_W ad ar I T A O pl) sz)) (y_gc sn cs) (y_gs sn cs) (va_A (y_W ad ar I T A O pl) sz) := by
  refine Met.ofW (cc := prog_28_method_25_code) (maxL := 2) (ret := (some .boolean)) (by decide) rfl ?_
  intro p e s m args below meth c s₁ B hml hv
  obtain ⟨rfl, hsz, hN0, hP, hU, hZ, hD0, hw0⟩ := hv
  have hK := hU.2.1
  have hx := B.exec
  have hb := B.bytes
  have hr := B.returns
  have hts : ∀ w ∈ x_T, w.before ([.ref (ad 12), .ref tt] : List Value).toArray s = true := fun w h => atoms_spec (ws := (Jvm.Cond.code ({ cls := "java/util/ArrayList", name := "add", desc := "(Ljava/lang/Object;)Z" } : Jvm.MethodName) prog_28_method_25_code (2 : Nat) (Option.some Jvm.ClassFile.FieldType.boolean)) :: x_T) B.pre w (List.mem_cons_of_mem _ h)
  have hown : s.vm.findClass "java/util/ArrayList" = some m.cls := findClass_of_methodNamed B.named
  have hlocks := B.notSynchronized
  subst hsz
  subst hw0
  have hD := hD0.self (sz := s.heap.size)
  have hAN := x_AN hD0 hN0
  generalize hAe : va_A (y_W ad ar I T A O pl) s.heap.size = Bq at hD hAN ⊢
  have hA : ∀ q : Nat, s.heap.size ≤ q → Bq q := fun q h => by rw [← hAe]; exact Or.inr h
  have hS : va_S Bq s.heap s.heap [] := va_S.rf
  have hl := lv_entry ([.ref (ad 12), .ref tt]) (n := 2) (Nat.le_of_ble_eq_true rfl)
  rw [lg_entry_eq]
  generalize (lg_sl ([.ref (ad 12), .ref tt]) ++ List.replicate (2 - (lg_sl ([.ref (ad 12), .ref tt])).length) Slot.unset).toArray = ls at hl ⊢
  have hl : lv_has ls 2 [(0, .ref (ad 12)), (1, .ref tt)] := hl
  obtain ⟨ed, ho⟩ := y_LS.some hmi.2.2.1.2
  have hcap := hmi.2.2.2.2.1
  dsimp only at hcap
  have hle := y_LS.le hmi.2.2.1.2
  dsimp only at hle
  have hgg := y_gg sn cs
  refine lv_aload_n hx hb d_ArrayList_add_0 rfl (lv_at hl 0 rfl) ?_
  refine lv_dup hx hb d_ArrayList_add_1 rfl ?_
  refine k_g (C := "java/util/ArrayList") (F := F_List) (N := 3) hx hb hts i_List hown hK hP 12 2 (by decide) (by decide) rfl (by decide) (d := (1, 15)) rfl (hts _ k_117) (fun x9 h9 => u_same (hts _ k_118) x9 h9) (v := .int (I 15)) rfl d_ArrayList_add_2 ?_
  refine lv_iconst (v := 1) hx hb d_ArrayList_add_5 (by decide) ?_
  refine lv_iadd hx hb d_ArrayList_add_6 ?_
  refine k_pi (C := "java/util/ArrayList") (F := F_List) (N := 3) hx hb hts i_List hown t_List t_List_ok n_List hK hP hD hS 12 2 (by decide) (by decide) rfl (by decide) (j := 15) (x := ((I 15) + 1)) rfl (hts _ k_117) (fun x9 h9 => u_same (hts _ k_118) x9 h9) rfl (by decide +kernel) d_ArrayList_add_7 (fun H locs hP hD hS => ?_)
  have hmi : y_MI z ar G C Gs (upd I 15 ((I 15) + 1)) O (y_L pl) (qn, sn, cq, cs) := hmi
  refine lv_aload_n hx hb d_ArrayList_add_10 rfl (lv_at hl 0 rfl) ?_
  refine lv_aload_n hx hb d_ArrayList_add_11 rfl (lv_at hl 1 rfl) ?_
  refine lv_aload_n hx hb d_ArrayList_add_12 rfl (lv_at hl 0 rfl) ?_
  refine k_g (C := "java/util/ArrayList") (F := F_List) (N := 3) hx hb hts i_List hown hK hP 12 0 (by decide) (by decide) rfl (by decide) (d := (3, 2)) rfl (hts _ k_114) (fun _ h9 => h9) (v := .ref ed) (by show va_rf (O 2) = _; rw [ho]; rfl) d_ArrayList_add_13 ?_
  refine lv_aload_n hx hb d_ArrayList_add_16 rfl (lv_at hl 0 rfl) ?_
  refine k_g (C := "java/util/ArrayList") (F := F_List) (N := 3) hx hb hts i_List hown hK hP 12 1 (by decide) (by decide) rfl (by decide) (d := (1, 14)) rfl (hts _ k_115) (fun _ h9 => h9) (v := .int (Int32.ofNat sn)) (congrArg Value.int hmi.2.2.1.1) d_ArrayList_add_17 ?_
  refine y_know (fun hya1 hya2 hya3 hya4 => ?_)
  have hFc := y_free hD hS hA
  refine va_callv (va_runV (As := [.ref tt, .ref ed, .int (Int32.ofNat sn)]) (rest := []) ⟨hx, hb, hml, hown, hts⟩ (c_L_add3_12 l dC dI ar N0 z ad (upd I 15 ((I 15) + 1)) T A O pl G C Gs qn sn cq cs tt ed H.size (y_hs H) hmi htt ho hlim) (cwV 3 hts (x_goodV k_657 k_659 kp_22 k_7 k_660) rfl rfl rfl (by decide +kernel) ⟨Nat.le_of_ble_eq_true rfl, Nat.le_of_ble_eq_true rfl⟩) ⟨y_blind, va_recv hK hP (ci := 0) (q0 := 12) rfl (y_W_ob (by decide) (by decide)), fun U9 hU9 hW9 => y_pre hU9 hW9 hP hD hU hZ hS hAN hN0⟩ rfl rfl hl.1 rfl (lv_room (Nat.le_of_ble_eq_true rfl)) d_ArrayList_add_20 ⟨(by show 0 + (y_gc sn cs) ≤ y_gc sn cs; omega), (by show 0 + (y_gs sn cs) ≤ y_gs sn cs; omega)⟩) hS (fun q _ h => hFc q h) hFc (fun u t H1 locs ht hvm hw hB hz1 hk1 hS => ?_)
  obtain ⟨I1, T1, A1, O1, pl1, q1, s1, cq1, cs1⟩ := u
  dsimp only at hw hB
  rw [ht] at hB
  obtain ⟨hP, hD1, hac1⟩ := hB
  have hD : va_D Bq (y_W ad ar I1 T1 A1 O1 pl1) := hD1.weaken (fun _ q _ h => hFc q.1 h)
  generalize H1 = H at hP hS hac1 ⊢
  obtain ⟨hmi, hbd1, fr1, e2, e3⟩ := hw
  rw [e2, e3] at hP hD
  have hP : va_P (dC, dI) y_cl (y_W ad ar I1 T A O1 pl1) H := hP
  have hD : va_D Bq (y_W ad ar I1 T A O1 pl1) := hD
  unfold y_ac at hac1
  have hb1 := hbd1
  unfold y_bd at hb1
  dsimp only at hb1 hac1
  refine lv_iconst (v := 1) hx hb d_ArrayList_add_23 (by decide) ?_
  refine y_know (fun hy91 hy92 hy93 hy94 => ?_)
  have hac9 : y_ac (cq + cs) s.heap.size (y_hs s.heap) (cq1 + cs1) H := ⟨by omega, by omega⟩
  refine W.widen (k := y_gc sn cs) (n := y_gs sn cs) (by omega) (by omega) ?_
  exact W.zret (v := 1) hx hb hr (rfl) (fun t ht hW => ⟨⟨1, (I1, T, A, O1, pl1, (q1, s1, cq1, cs1)), rfl, ⟨hmi, (y_bd.tr hbd1 (y_bd.rf (a := 0) (b := 0)) (e := 0) (g := 1) (by decide) (by decide)), ((m_fr.rf.up (by decide) _).tr fr1 (by decide)), rfl, rfl⟩, (by dsimp only; rw [ht]; exact ⟨hP, hD, hac9⟩)⟩, hS.F ht⟩) hS.2.2 d_ArrayList_add_24
set_option maxHeartbeats 4000000 in
set_option maxRecDepth 100000 in
theorem c_L_fast_11 (l : Launch) (dC : Nat → ClassId) (dI : Nat → Nat → Nat) (ar : Nat → ClassId) (N0 : Nat) (z : Nat → Nat) (ad : Nat → Nat) (I : Nat → Int32) (T : Int64) (A : Nat → Nat → Int32) (O : Nat → Option Nat) (pl : va_W) (G : Nat → Nat) (C Gs : Nat → List Nat) (qn sn cq cs : Nat) (ed k : Nat) (sz w0 : Nat) (hmi : y_MI z ar G C Gs I O (y_L pl) (qn, sn, cq, cs)) (hk : k < qn) (ho : O 1 = some ed) : Met l ({ cls := "java/util/ArrayList", name := "fastRemove", desc := "([Ljava/lang/Object;I)V" } : Jvm.MethodName) ((Jvm.Cond.code ({ cls := "java/util/ArrayList", name := "fastRemove", desc := "([Ljava/lang/Object;I)V" } : Jvm.MethodName) prog_28_method_39_code (4 : Nat) (Option.none : Option Jvm.ClassFile.FieldType)) :: x_T) ({ frames := 1, cells := 0, slots := 0, locals := 60 }) (y_Pc (dC, dI) ar N0 z (y_W ad ar I T A O pl) sz w0 [.ref (ad 11), .ref ed, .int (Int32.ofNat k)]) (va_Qv (fun (u : (Nat → Int32) × Int64 × (Nat → Nat → Int32) × (Nat → Option Nat) × va_W × (Nat × Nat × Nat × Nat)) => y_MI z ar G C Gs u.1 u.2.2.2.1 (y_L u.2.2.2.2.1) u.2.2.2.2.2 ∧ u.2.2.2.2.2 = (qn - 1, sn, cq, cs) ∧ m_fr [12, 13, 14, 15] I u.1 ∧ u.2.1 = T ∧ u.2.2.1 = A ∧ u.2.2.2.1 = O) (fun u t => va_P (dC, dI) y_cl (y_W ad ar u.1 u.2.1 u.2.2.1 u.2.2.2.1 u.2.2.2.2.1) t.heap ∧ va_D (va_A (y_W ad ar I T A O pl) sz) (y_W ad ar u.1 u.2.1 u.2.2.1 u.2.2.2.1 u.2.2.2.2.1) ∧ y_ac (cq + cs) sz w0 (u.2.2.2.2.2.2.2.1 + u.2.2.2.2.2.2.2.2) t.heap) (va_A (y_W ad ar I T A O pl) sz)) (0) (0) (va_A (y_W ad ar I T A O pl) sz) := by
  refine Met.ofW (cc := prog_28_method_39_code) (maxL := 4) (ret := none) (by decide) rfl ?_
  intro p e s m args below meth c s₁ B hml hv
  obtain ⟨rfl, hsz, hN0, hP, hU, hZ, hD0, hw0⟩ := hv
  have hK := hU.2.1
  have hx := B.exec
  have hb := B.bytes
  have hr := B.returns
  have hts : ∀ w ∈ x_T, w.before ([.ref (ad 11), .ref ed, .int (Int32.ofNat k)] : List Value).toArray s = true := fun w h => atoms_spec (ws := (Jvm.Cond.code ({ cls := "java/util/ArrayList", name := "fastRemove", desc := "([Ljava/lang/Object;I)V" } : Jvm.MethodName) prog_28_method_39_code (4 : Nat) (Option.none : Option Jvm.ClassFile.FieldType)) :: x_T) B.pre w (List.mem_cons_of_mem _ h)
  have hown : s.vm.findClass "java/util/ArrayList" = some m.cls := findClass_of_methodNamed B.named
  have hlocks := B.notSynchronized
  subst hsz
  subst hw0
  have hD := hD0.self (sz := s.heap.size)
  have hAN := x_AN hD0 hN0
  generalize hAe : va_A (y_W ad ar I T A O pl) s.heap.size = Bq at hD hAN ⊢
  have hA : ∀ q : Nat, s.heap.size ≤ q → Bq q := fun q h => by rw [← hAe]; exact Or.inr h
  have hS : va_S Bq s.heap s.heap [] := va_S.rf
  have hl := lv_entry ([.ref (ad 11), .ref ed, .int (Int32.ofNat k)]) (n := 4) (Nat.le_of_ble_eq_true rfl)
  rw [lg_entry_eq]
  generalize (lg_sl ([.ref (ad 11), .ref ed, .int (Int32.ofNat k)]) ++ List.replicate (4 - (lg_sl ([.ref (ad 11), .ref ed, .int (Int32.ofNat k)])).length) Slot.unset).toArray = ls at hl ⊢
  have hl : lv_has ls 4 [(0, .ref (ad 11)), (1, .ref ed), (2, .int (Int32.ofNat k))] := hl
  obtain ⟨a9, g9, ho9, hfa, hle9, h109, hz9, hel⟩ : ∃ (a9 : Nat) (g9 : Nat → Option Nat), O 1 = some a9 ∧ y_L pl a9 = some (.inl (ar 5, cq, .inr (.inr (.inr (.inr g9))))) ∧ qn ≤ cq ∧ 10 ≤ cq ∧ a9 ≠ z 0 ∧ ∀ j, j < qn → ∃ t, g9 j = some t ∧ G t = 8 := by
    rcases hmi.2.1.2 with ⟨h1, h2, h3⟩ | h
    · dsimp only at h2 h3; omega
    · exact h
  have hcap := hmi.2.2.2.2.1
  dsimp only at hcap
  have hed : ed = a9 := Option.some.inj (ho.symm.trans ho9)
  subst hed
  have hel9 : ∀ i, i < qn → ∀ y, g9 i = some y → ∃ fs, y_L pl y = some (.inr (8, fs)) := fun i hi y hy => by obtain ⟨t, h1, h2⟩ := hel i hi; rw [hy] at h1; cases h1; obtain ⟨_, _, _, _, _, _, _, h3, _⟩ := hmi.1.2.1 y h2; exact ⟨_, h3⟩
  refine lv_aload_n hx hb d_ArrayList_fastRemove_0 rfl (lv_at hl 0 rfl) ?_
  refine lv_dup hx hb d_ArrayList_fastRemove_1 rfl ?_
  refine k_g (C := "java/util/ArrayList") (F := F_List) (N := 3) hx hb hts i_List hown hK hP 11 2 (by decide) (by decide) rfl (by decide) (d := (1, 13)) rfl (hts _ k_117) (fun x9 h9 => u_same (hts _ k_118) x9 h9) (v := .int (I 13)) rfl d_ArrayList_fastRemove_2 ?_
  refine lv_iconst (v := 1) hx hb d_ArrayList_fastRemove_5 (by decide) ?_
  refine lv_iadd hx hb d_ArrayList_fastRemove_6 ?_
  refine k_pi (C := "java/util/ArrayList") (F := F_List) (N := 3) hx hb hts i_List hown t_List t_List_ok n_List hK hP hD hS 11 2 (by decide) (by decide) rfl (by decide) (j := 13) (x := ((I 13) + 1)) rfl (hts _ k_117) (fun x9 h9 => u_same (hts _ k_118) x9 h9) rfl (by decide +kernel) d_ArrayList_fastRemove_7 (fun H locs hP hD hS => ?_)
  refine lv_aload_n hx hb d_ArrayList_fastRemove_10 rfl (lv_at hl 0 rfl) ?_
  refine k_g (C := "java/util/ArrayList") (F := F_List) (N := 3) hx hb hts i_List hown hK hP 11 1 (by decide) (by decide) rfl (by decide) (d := (1, 12)) rfl (hts _ k_115) (fun _ h9 => h9) (v := .int (Int32.ofNat qn)) (congrArg Value.int hmi.2.1.1) d_ArrayList_fastRemove_11 ?_
  refine lv_iconst (v := 1) hx hb d_ArrayList_fastRemove_14 (by decide) ?_
  refine lv_isub hx hb d_ArrayList_fastRemove_15 ?_
  refine W.eq (g2 := F0 m 16 ls [.int (Int32.ofNat (qn - 1))]) (by rw [← x_subN (a := qn) (b := 1) (by omega)] <;> rfl) ?_
  refine lv_dup hx hb d_ArrayList_fastRemove_16 rfl ?_
  refine lv_istore_n (lv' := [(3, .int (Int32.ofNat (qn - 1))), (0, .ref (ad 11)), (1, .ref ed), (2, .int (Int32.ofNat k))]) hx hb d_ArrayList_fastRemove_17 rfl hl (by decide) rfl (fun ls hl => ?_)
  refine lv_iload_n hx hb d_ArrayList_fastRemove_18 rfl (lv_at hl 3 rfl) ?_
  refine lv_icmp_le (tgt := 34) hx hb d_ArrayList_fastRemove_19 (by decide) (fun c_1 => ?_) (fun c_1 => ?_)
  · have c_1 : (qn - 1) ≤ k := (x_leN (a := (qn - 1)) (b := k) (by omega) (by omega)).mp c_1
    refine lv_aload_n hx hb d_ArrayList_fastRemove_34 rfl (lv_at hl 2 rfl) ?_
    refine lv_aload_n hx hb d_ArrayList_fastRemove_35 rfl (lv_at hl 1 rfl) ?_
    refine lv_iload_n hx hb d_ArrayList_fastRemove_36 rfl (lv_at hl 0 rfl) ?_
    refine lv_dup_x1 hx hb d_ArrayList_fastRemove_37 rfl rfl ?_
    refine k_pi (C := "java/util/ArrayList") (F := F_List) (N := 3) hx hb hts i_List hown t_List t_List_ok n_List hK hP hD hS 11 1 (by decide) (by decide) rfl (by decide) (j := 12) (x := (Int32.ofNat (qn - 1))) rfl (hts _ k_115) (fun _ h9 => h9) rfl (by decide +kernel) d_ArrayList_fastRemove_38 (fun H locs hP hD hS => ?_)
    refine lv_null hx hb d_ArrayList_fastRemove_41 ?_
    refine d_aastN hx hb hK hP hD hS hfa (j := Int32.ofNat (qn - 1)) (x_inN (by omega) (by omega)) d_ArrayList_fastRemove_42 (fun pl2 H locs hL2 hP hD hS => ?_)
    rw [x_nat (a := qn - 1) (by omega)] at hL2
    have hL : y_L pl2 = y_Lu (y_L pl) ed (.inl (ar 5, cq, .inr (.inr (.inr (.inr (va_up g9 (qn - 1) none)))))) := by rw [hL2]
    have hg9 : ∀ j, j < qn - 1 → ∃ t, va_up g9 (qn - 1) none j = some t ∧ G t = 8 := fun j hj => by rw [y_upn (by omega)]; exact hel j (by omega)
    refine y_know (fun hy91 hy92 hy93 hy94 => ?_)
    have hac9 : y_ac (cq + cs) s.heap.size (y_hs s.heap) (cq + cs) H := ⟨by omega, by omega⟩
    refine W.widen (k := 0) (n := 0) (by omega) (by omega) ?_
    exact W.vret hx hb hr (fun t ht hW => ⟨⟨((upd (upd I 13 ((I 13) + 1)) 12 (Int32.ofNat (qn - 1))), T, A, O, pl2, (qn - 1, sn, cq, cs)), rfl, ⟨(by show y_MI z ar G C Gs (upd (upd I 13 ((I 13) + 1)) 12 (Int32.ofNat (qn - 1))) O (y_L pl2) (qn - 1, sn, cq, cs); rw [hL]; exact hmi.row11 (Or.inr ⟨ho, _, _, _, hfa⟩) ho rfl (fun k hk => rfl) rfl rfl rfl rfl (by omega) (by omega) hz9 (by omega) hg9), rfl, ((m_fr.rf.up (by decide) _).up (by decide) _), rfl, rfl, rfl⟩, (by dsimp only; rw [ht]; exact ⟨hP, hD, hac9⟩)⟩, hS.F ht⟩) hS.2.2 d_ArrayList_fastRemove_43
  · have c_1 : ¬ (qn - 1) ≤ k := fun h9 => c_1 ((x_leN (a := (qn - 1)) (b := k) (by omega) (by omega)).mpr h9)
    refine lv_aload_n hx hb d_ArrayList_fastRemove_22 rfl (lv_at hl 2 rfl) ?_
    refine lv_iload_n hx hb d_ArrayList_fastRemove_23 rfl (lv_at hl 3 rfl) ?_
    refine lv_iconst (v := 1) hx hb d_ArrayList_fastRemove_24 (by decide) ?_
    refine lv_iadd hx hb d_ArrayList_fastRemove_25 ?_
    refine W.eq (g2 := F0 m 26 ls [.int (Int32.ofNat (k + 1)), .ref ed]) (by rw [← x_addN (a := k) (b := 1)] <;> rfl) ?_
    refine lv_aload_n hx hb d_ArrayList_fastRemove_26 rfl (lv_at hl 2 rfl) ?_
    refine lv_iload_n hx hb d_ArrayList_fastRemove_27 rfl (lv_at hl 3 rfl) ?_
    refine lv_iload_n hx hb d_ArrayList_fastRemove_28 rfl (lv_at hl 0 rfl) ?_
    refine lv_iload_n hx hb d_ArrayList_fastRemove_29 rfl (lv_at hl 3 rfl) ?_
    refine lv_isub hx hb d_ArrayList_fastRemove_30 ?_
    refine W.eq (g2 := F0 m 31 ls [.int (Int32.ofNat ((qn - 1) - k)), .int (Int32.ofNat k), .ref ed, .int (Int32.ofNat (k + 1)), .ref ed]) (by rw [← x_subN (a := (qn - 1)) (b := k) (by omega)] <;> rfl) ?_
    refine d_copyq hx hb (by rw [hml]; exact hl.1.symm) hK hP hD hS hown (hts _ k_768) (hts _ k_545) (hts _ k_544) (hts _ k_22) (hU.1.2.1 _ kn_1303) (sp := k + 1) (dp := k) (n := qn - 1 - k) hfa hfa ⟨by omega, by omega⟩ (by omega) (by omega) (fun i hi y hy => hel9 _ (by omega) y hy) (Nat.le_of_ble_eq_true rfl) (Nat.le_of_ble_eq_true rfl) d_ArrayList_fastRemove_31 (fun pl1 H locs hL1 hP hD hS => ?_)
    have hfb : y_L pl1 ed = some (.inl (ar 5, cq, .inr (.inr (.inr (.inr (va_cpy g9 g9 (k + 1) k (qn - 1 - k))))))) := by rw [hL1]; exact y_Lu_s
    refine lv_aload_n hx hb d_ArrayList_fastRemove_34 rfl (lv_at hl 2 rfl) ?_
    refine lv_aload_n hx hb d_ArrayList_fastRemove_35 rfl (lv_at hl 1 rfl) ?_
    refine lv_iload_n hx hb d_ArrayList_fastRemove_36 rfl (lv_at hl 0 rfl) ?_
    refine lv_dup_x1 hx hb d_ArrayList_fastRemove_37 rfl rfl ?_
    refine k_pi (C := "java/util/ArrayList") (F := F_List) (N := 3) hx hb hts i_List hown t_List t_List_ok n_List hK hP hD hS 11 1 (by decide) (by decide) rfl (by decide) (j := 12) (x := (Int32.ofNat (qn - 1))) rfl (hts _ k_115) (fun _ h9 => h9) rfl (by decide +kernel) d_ArrayList_fastRemove_38 (fun H locs hP hD hS => ?_)
    refine lv_null hx hb d_ArrayList_fastRemove_41 ?_
    refine d_aastN hx hb hK hP hD hS hfb (j := Int32.ofNat (qn - 1)) (x_inN (by omega) (by omega)) d_ArrayList_fastRemove_42 (fun pl2 H locs hL2 hP hD hS => ?_)
    rw [x_nat (a := qn - 1) (by omega)] at hL2
    have hL : y_L pl2 = y_Lu (y_L pl) ed (.inl (ar 5, cq, .inr (.inr (.inr (.inr (va_up (va_cpy g9 g9 (k + 1) k (qn - 1 - k)) (qn - 1) none)))))) := by rw [hL2, hL1, y_Lu_uu]
    have hg9 : ∀ j, j < qn - 1 → ∃ t, va_up (va_cpy g9 g9 (k + 1) k (qn - 1 - k)) (qn - 1) none j = some t ∧ G t = 8 := fun j hj => by
      rw [y_upn (by omega)]
      unfold va_cpy
      by_cases h9 : k ≤ j ∧ j < k + (qn - 1 - k)
      · rw [if_pos h9]; exact hel _ (by omega)
      · rw [if_neg h9]; exact hel j (by omega)
    refine y_know (fun hy91 hy92 hy93 hy94 => ?_)
    have hac9 : y_ac (cq + cs) s.heap.size (y_hs s.heap) (cq + cs) H := ⟨by omega, by omega⟩
    refine W.widen (k := 0) (n := 0) (by omega) (by omega) ?_
    exact W.vret hx hb hr (fun t ht hW => ⟨⟨((upd (upd I 13 ((I 13) + 1)) 12 (Int32.ofNat (qn - 1))), T, A, O, pl2, (qn - 1, sn, cq, cs)), rfl, ⟨(by show y_MI z ar G C Gs (upd (upd I 13 ((I 13) + 1)) 12 (Int32.ofNat (qn - 1))) O (y_L pl2) (qn - 1, sn, cq, cs); rw [hL]; exact hmi.row11 (Or.inr ⟨ho, _, _, _, hfa⟩) ho rfl (fun k hk => rfl) rfl rfl rfl rfl (by omega) (by omega) hz9 (by omega) hg9), rfl, ((m_fr.rf.up (by decide) _).up (by decide) _), rfl, rfl, rfl⟩, (by dsimp only; rw [ht]; exact ⟨hP, hD, hac9⟩)⟩, hS.F ht⟩) hS.2.2 d_ArrayList_fastRemove_43
set_option maxHeartbeats 4000000 in
set_option maxRecDepth 100000 in
theorem c_L_fast_12 (l : Launch) (dC : Nat → ClassId) (dI : Nat → Nat → Nat) (ar : Nat → ClassId) (N0 : Nat) (z : Nat → Nat) (ad : Nat → Nat) (I : Nat → Int32) (T : Int64) (A : Nat → Nat → Int32) (O : Nat → Option Nat) (pl : va_W) (G : Nat → Nat) (C Gs : Nat → List Nat) (qn sn cq cs : Nat) (ed k : Nat) (sz w0 : Nat) (hmi : y_MI z ar G C Gs I O (y_L pl) (qn, sn, cq, cs)) (hk : k < sn) (ho : O 2 = some ed) : Met l ({ cls := "java/util/ArrayList", name := "fastRemove", desc := "([Ljava/lang/Object;I)V" } : Jvm.MethodName) ((Jvm.Cond.code ({ cls := "java/util/ArrayList", name := "fastRemove", desc := "([Ljava/lang/Object;I)V" } : Jvm.MethodName) prog_28_method_39_code (4 : Nat) (Option.none : Option Jvm.ClassFile.FieldType)) :: x_T) ({ frames := 1, cells := 0, slots := 0, locals := 60 }) (y_Pc (dC, dI) ar N0 z (y_W ad ar I T A O pl) sz w0 [.ref (ad 12), .ref ed, .int (Int32.ofNat k)]) (va_Qv (fun (u : (Nat → Int32) × Int64 × (Nat → Nat → Int32) × (Nat → Option Nat) × va_W × (Nat × Nat × Nat × Nat)) => y_MI z ar G C Gs u.1 u.2.2.2.1 (y_L u.2.2.2.2.1) u.2.2.2.2.2 ∧ u.2.2.2.2.2 = (qn, sn - 1, cq, cs) ∧ m_fr [12, 13, 14, 15] I u.1 ∧ u.2.1 = T ∧ u.2.2.1 = A ∧ u.2.2.2.1 = O) (fun u t => va_P (dC, dI) y_cl (y_W ad ar u.1 u.2.1 u.2.2.1 u.2.2.2.1 u.2.2.2.2.1) t.heap ∧ va_D (va_A (y_W ad ar I T A O pl) sz) (y_W ad ar u.1 u.2.1 u.2.2.1 u.2.2.2.1 u.2.2.2.2.1) ∧ y_ac (cq + cs) sz w0 (u.2.2.2.2.2.2.2.1 + u.2.2.2.2.2.2.2.2) t.heap) (va_A (y_W ad ar I T A O pl) sz)) (0) (0) (va_A (y_W ad ar I T A O pl) sz) := by
  refine Met.ofW (cc := prog_28_method_39_code) (maxL := 4) (ret := none) (by decide) rfl ?_
  intro p e s m args below meth c s₁ B hml hv
  obtain ⟨rfl, hsz, hN0, hP, hU, hZ, hD0, hw0⟩ := hv
  have hK := hU.2.1
  have hx := B.exec
  have hb := B.bytes
  have hr := B.returns
  have hts : ∀ w ∈ x_T, w.before ([.ref (ad 12), .ref ed, .int (Int32.ofNat k)] : List Value).toArray s = true := fun w h => atoms_spec (ws := (Jvm.Cond.code ({ cls := "java/util/ArrayList", name := "fastRemove", desc := "([Ljava/lang/Object;I)V" } : Jvm.MethodName) prog_28_method_39_code (4 : Nat) (Option.none : Option Jvm.ClassFile.FieldType)) :: x_T) B.pre w (List.mem_cons_of_mem _ h)
  have hown : s.vm.findClass "java/util/ArrayList" = some m.cls := findClass_of_methodNamed B.named
  have hlocks := B.notSynchronized
  subst hsz
  subst hw0
  have hD := hD0.self (sz := s.heap.size)
  have hAN := x_AN hD0 hN0
  generalize hAe : va_A (y_W ad ar I T A O pl) s.heap.size = Bq at hD hAN ⊢
  have hA : ∀ q : Nat, s.heap.size ≤ q → Bq q := fun q h => by rw [← hAe]; exact Or.inr h
  have hS : va_S Bq s.heap s.heap [] := va_S.rf
  have hl := lv_entry ([.ref (ad 12), .ref ed, .int (Int32.ofNat k)]) (n := 4) (Nat.le_of_ble_eq_true rfl)
  rw [lg_entry_eq]
  generalize (lg_sl ([.ref (ad 12), .ref ed, .int (Int32.ofNat k)]) ++ List.replicate (4 - (lg_sl ([.ref (ad 12), .ref ed, .int (Int32.ofNat k)])).length) Slot.unset).toArray = ls at hl ⊢
  have hl : lv_has ls 4 [(0, .ref (ad 12)), (1, .ref ed), (2, .int (Int32.ofNat k))] := hl
  obtain ⟨a9, g9, ho9, hfa, hle9, h109, hz9, hel⟩ : ∃ (a9 : Nat) (g9 : Nat → Option Nat), O 2 = some a9 ∧ y_L pl a9 = some (.inl (ar 5, cs, .inr (.inr (.inr (.inr g9))))) ∧ sn ≤ cs ∧ 10 ≤ cs ∧ a9 ≠ z 0 ∧ ∀ j, j < sn → ∃ t, g9 j = some t ∧ G t = 8 := by
    rcases hmi.2.2.1.2 with ⟨h1, h2, h3⟩ | h
    · dsimp only at h2 h3; omega
    · exact h
  have hcap := hmi.2.2.2.2.1
  dsimp only at hcap
  have hed : ed = a9 := Option.some.inj (ho.symm.trans ho9)
  subst hed
  have hel9 : ∀ i, i < sn → ∀ y, g9 i = some y → ∃ fs, y_L pl y = some (.inr (8, fs)) := fun i hi y hy => by obtain ⟨t, h1, h2⟩ := hel i hi; rw [hy] at h1; cases h1; obtain ⟨_, _, _, _, _, _, _, h3, _⟩ := hmi.1.2.1 y h2; exact ⟨_, h3⟩
  refine lv_aload_n hx hb d_ArrayList_fastRemove_0 rfl (lv_at hl 0 rfl) ?_
  refine lv_dup hx hb d_ArrayList_fastRemove_1 rfl ?_
  refine k_g (C := "java/util/ArrayList") (F := F_List) (N := 3) hx hb hts i_List hown hK hP 12 2 (by decide) (by decide) rfl (by decide) (d := (1, 15)) rfl (hts _ k_117) (fun x9 h9 => u_same (hts _ k_118) x9 h9) (v := .int (I 15)) rfl d_ArrayList_fastRemove_2 ?_
  refine lv_iconst (v := 1) hx hb d_ArrayList_fastRemove_5 (by decide) ?_
  refine lv_iadd hx hb d_ArrayList_fastRemove_6 ?_
  refine k_pi (C := "java/util/ArrayList") (F := F_List) (N := 3) hx hb hts i_List hown t_List t_List_ok n_List hK hP hD hS 12 2 (by decide) (by decide) rfl (by decide) (j := 15) (x := ((I 15) + 1)) rfl (hts _ k_117) (fun x9 h9 => u_same (hts _ k_118) x9 h9) rfl (by decide +kernel) d_ArrayList_fastRemove_7 (fun H locs hP hD hS => ?_)
  refine lv_aload_n hx hb d_ArrayList_fastRemove_10 rfl (lv_at hl 0 rfl) ?_
  refine k_g (C := "java/util/ArrayList") (F := F_List) (N := 3) hx hb hts i_List hown hK hP 12 1 (by decide) (by decide) rfl (by decide) (d := (1, 14)) rfl (hts _ k_115) (fun _ h9 => h9) (v := .int (Int32.ofNat sn)) (congrArg Value.int hmi.2.2.1.1) d_ArrayList_fastRemove_11 ?_
  refine lv_iconst (v := 1) hx hb d_ArrayList_fastRemove_14 (by decide) ?_
  refine lv_isub hx hb d_ArrayList_fastRemove_15 ?_
  refine W.eq (g2 := F0 m 16 ls [.int (Int32.ofNat (sn - 1))]) (by rw [← x_subN (a := sn) (b := 1) (by omega)] <;> rfl) ?_
  refine lv_dup hx hb d_ArrayList_fastRemove_16 rfl ?_
  refine lv_istore_n (lv' := [(3, .int (Int32.ofNat (sn - 1))), (0, .ref (ad 12)), (1, .ref ed), (2, .int (Int32.ofNat k))]) hx hb d_ArrayList_fastRemove_17 rfl hl (by decide) rfl (fun ls hl => ?_)
  refine lv_iload_n hx hb d_ArrayList_fastRemove_18 rfl (lv_at hl 3 rfl) ?_
  refine lv_icmp_le (tgt := 34) hx hb d_ArrayList_fastRemove_19 (by decide) (fun c_1 => ?_) (fun c_1 => ?_)
  · have c_1 : (sn - 1) ≤ k := (x_leN (a := (sn - 1)) (b := k) (by omega) (by omega)).mp c_1
    refine lv_aload_n hx hb d_ArrayList_fastRemove_34 rfl (lv_at hl 2 rfl) ?_
    refine lv_aload_n hx hb d_ArrayList_fastRemove_35 rfl (lv_at hl 1 rfl) ?_
    refine lv_iload_n hx hb d_ArrayList_fastRemove_36 rfl (lv_at hl 0 rfl) ?_
    refine lv_dup_x1 hx hb d_ArrayList_fastRemove_37 rfl rfl ?_
    refine k_pi (C := "java/util/ArrayList") (F := F_List) (N := 3) hx hb hts i_List hown t_List t_List_ok n_List hK hP hD hS 12 1 (by decide) (by decide) rfl (by decide) (j := 14) (x := (Int32.ofNat (sn - 1))) rfl (hts _ k_115) (fun _ h9 => h9) rfl (by decide +kernel) d_ArrayList_fastRemove_38 (fun H locs hP hD hS => ?_)
    refine lv_null hx hb d_ArrayList_fastRemove_41 ?_
    refine d_aastN hx hb hK hP hD hS hfa (j := Int32.ofNat (sn - 1)) (x_inN (by omega) (by omega)) d_ArrayList_fastRemove_42 (fun pl2 H locs hL2 hP hD hS => ?_)
    rw [x_nat (a := sn - 1) (by omega)] at hL2
    have hL : y_L pl2 = y_Lu (y_L pl) ed (.inl (ar 5, cs, .inr (.inr (.inr (.inr (va_up g9 (sn - 1) none)))))) := by rw [hL2]
    have hg9 : ∀ j, j < sn - 1 → ∃ t, va_up g9 (sn - 1) none j = some t ∧ G t = 8 := fun j hj => by rw [y_upn (by omega)]; exact hel j (by omega)
    refine y_know (fun hy91 hy92 hy93 hy94 => ?_)
    have hac9 : y_ac (cq + cs) s.heap.size (y_hs s.heap) (cq + cs) H := ⟨by omega, by omega⟩
    refine W.widen (k := 0) (n := 0) (by omega) (by omega) ?_
    exact W.vret hx hb hr (fun t ht hW => ⟨⟨((upd (upd I 15 ((I 15) + 1)) 14 (Int32.ofNat (sn - 1))), T, A, O, pl2, (qn, sn - 1, cq, cs)), rfl, ⟨(by show y_MI z ar G C Gs (upd (upd I 15 ((I 15) + 1)) 14 (Int32.ofNat (sn - 1))) O (y_L pl2) (qn, sn - 1, cq, cs); rw [hL]; exact hmi.row12 (Or.inr ⟨ho, _, _, _, hfa⟩) ho rfl (fun k hk => rfl) rfl rfl rfl rfl (by omega) (by omega) hz9 (by omega) hg9), rfl, ((m_fr.rf.up (by decide) _).up (by decide) _), rfl, rfl, rfl⟩, (by dsimp only; rw [ht]; exact ⟨hP, hD, hac9⟩)⟩, hS.F ht⟩) hS.2.2 d_ArrayList_fastRemove_43
  · have c_1 : ¬ (sn - 1) ≤ k := fun h9 => c_1 ((x_leN (a := (sn - 1)) (b := k) (by omega) (by omega)).mpr h9)
    refine lv_aload_n hx hb d_ArrayList_fastRemove_22 rfl (lv_at hl 2 rfl) ?_
    refine lv_iload_n hx hb d_ArrayList_fastRemove_23 rfl (lv_at hl 3 rfl) ?_
    refine lv_iconst (v := 1) hx hb d_ArrayList_fastRemove_24 (by decide) ?_
    refine lv_iadd hx hb d_ArrayList_fastRemove_25 ?_
    refine W.eq (g2 := F0 m 26 ls [.int (Int32.ofNat (k + 1)), .ref ed]) (by rw [← x_addN (a := k) (b := 1)] <;> rfl) ?_
    refine lv_aload_n hx hb d_ArrayList_fastRemove_26 rfl (lv_at hl 2 rfl) ?_
    refine lv_iload_n hx hb d_ArrayList_fastRemove_27 rfl (lv_at hl 3 rfl) ?_
    refine lv_iload_n hx hb d_ArrayList_fastRemove_28 rfl (lv_at hl 0 rfl) ?_
    refine lv_iload_n hx hb d_ArrayList_fastRemove_29 rfl (lv_at hl 3 rfl) ?_
    refine lv_isub hx hb d_ArrayList_fastRemove_30 ?_
    refine W.eq (g2 := F0 m 31 ls [.int (Int32.ofNat ((sn - 1) - k)), .int (Int32.ofNat k), .ref ed, .int (Int32.ofNat (k + 1)), .ref ed]) (by rw [← x_subN (a := (sn - 1)) (b := k) (by omega)] <;> rfl) ?_
    refine d_copyq hx hb (by rw [hml]; exact hl.1.symm) hK hP hD hS hown (hts _ k_768) (hts _ k_545) (hts _ k_544) (hts _ k_22) (hU.1.2.1 _ kn_1303) (sp := k + 1) (dp := k) (n := sn - 1 - k) hfa hfa ⟨by omega, by omega⟩ (by omega) (by omega) (fun i hi y hy => hel9 _ (by omega) y hy) (Nat.le_of_ble_eq_true rfl) (Nat.le_of_ble_eq_true rfl) d_ArrayList_fastRemove_31 (fun pl1 H locs hL1 hP hD hS => ?_)
    have hfb : y_L pl1 ed = some (.inl (ar 5, cs, .inr (.inr (.inr (.inr (va_cpy g9 g9 (k + 1) k (sn - 1 - k))))))) := by rw [hL1]; exact y_Lu_s
    refine lv_aload_n hx hb d_ArrayList_fastRemove_34 rfl (lv_at hl 2 rfl) ?_
    refine lv_aload_n hx hb d_ArrayList_fastRemove_35 rfl (lv_at hl 1 rfl) ?_
    refine lv_iload_n hx hb d_ArrayList_fastRemove_36 rfl (lv_at hl 0 rfl) ?_
    refine lv_dup_x1 hx hb d_ArrayList_fastRemove_37 rfl rfl ?_
    refine k_pi (C := "java/util/ArrayList") (F := F_List) (N := 3) hx hb hts i_List hown t_List t_List_ok n_List hK hP hD hS 12 1 (by decide) (by decide) rfl (by decide) (j := 14) (x := (Int32.ofNat (sn - 1))) rfl (hts _ k_115) (fun _ h9 => h9) rfl (by decide +kernel) d_ArrayList_fastRemove_38 (fun H locs hP hD hS => ?_)
    refine lv_null hx hb d_ArrayList_fastRemove_41 ?_
    refine d_aastN hx hb hK hP hD hS hfb (j := Int32.ofNat (sn - 1)) (x_inN (by omega) (by omega)) d_ArrayList_fastRemove_42 (fun pl2 H locs hL2 hP hD hS => ?_)
    rw [x_nat (a := sn - 1) (by omega)] at hL2
    have hL : y_L pl2 = y_Lu (y_L pl) ed (.inl (ar 5, cs, .inr (.inr (.inr (.inr (va_up (va_cpy g9 g9 (k + 1) k (sn - 1 - k)) (sn - 1) none)))))) := by rw [hL2, hL1, y_Lu_uu]
    have hg9 : ∀ j, j < sn - 1 → ∃ t, va_up (va_cpy g9 g9 (k + 1) k (sn - 1 - k)) (sn - 1) none j = some t ∧ G t = 8 := fun j hj => by
      rw [y_upn (by omega)]
      unfold va_cpy
      by_cases h9 : k ≤ j ∧ j < k + (sn - 1 - k)
      · rw [if_pos h9]; exact hel _ (by omega)
      · rw [if_neg h9]; exact hel j (by omega)
    refine y_know (fun hy91 hy92 hy93 hy94 => ?_)
    have hac9 : y_ac (cq + cs) s.heap.size (y_hs s.heap) (cq + cs) H := ⟨by omega, by omega⟩
    refine W.widen (k := 0) (n := 0) (by omega) (by omega) ?_
    exact W.vret hx hb hr (fun t ht hW => ⟨⟨((upd (upd I 15 ((I 15) + 1)) 14 (Int32.ofNat (sn - 1))), T, A, O, pl2, (qn, sn - 1, cq, cs)), rfl, ⟨(by show y_MI z ar G C Gs (upd (upd I 15 ((I 15) + 1)) 14 (Int32.ofNat (sn - 1))) O (y_L pl2) (qn, sn - 1, cq, cs); rw [hL]; exact hmi.row12 (Or.inr ⟨ho, _, _, _, hfa⟩) ho rfl (fun k hk => rfl) rfl rfl rfl rfl (by omega) (by omega) hz9 (by omega) hg9), rfl, ((m_fr.rf.up (by decide) _).up (by decide) _), rfl, rfl, rfl⟩, (by dsimp only; rw [ht]; exact ⟨hP, hD, hac9⟩)⟩, hS.F ht⟩) hS.2.2 d_ArrayList_fastRemove_43
set_option maxHeartbeats 4000000 in
set_option maxRecDepth 100000 in
theorem c_L_rem_11 (l : Launch) (dC : Nat → ClassId) (dI : Nat → Nat → Nat) (ar : Nat → ClassId) (N0 : Nat) (z : Nat → Nat) (ad : Nat → Nat) (I : Nat → Int32) (T : Int64) (A : Nat → Nat → Int32) (O : Nat → Option Nat) (pl : va_W) (G : Nat → Nat) (C Gs : Nat → List Nat) (qn sn cq cs : Nat) (k : Nat) (sz w0 : Nat) (hmi : y_MI z ar G C Gs I O (y_L pl) (qn, sn, cq, cs)) (hk : k < qn) : Met l ({ cls := "java/util/ArrayList", name := "remove", desc := "(I)Ljava/lang/Object;" } : Jvm.MethodName) ((Jvm.Cond.code ({ cls := "java/util/ArrayList", name := "remove", desc := "(I)Ljava/lang/Object;" } : Jvm.MethodName) prog_28_method_29_code (4 : Nat) (Option.some (Jvm.ClassFile.FieldType.object "java/lang/Object"))) :: x_T) ({ frames := 2, cells := 0, slots := 0, locals := 83 }) (y_Pc (dC, dI) ar N0 z (y_W ad ar I T A O pl) sz w0 [.ref (ad 11), .int (Int32.ofNat k)]) (va_Qq (fun (r : Option Nat) (u : (Nat → Int32) × Int64 × (Nat → Nat → Int32) × (Nat → Option Nat) × va_W × (Nat × Nat × Nat × Nat)) => (∃ t, r = some t ∧ G t = 8) ∧ y_MI z ar G C Gs u.1 u.2.2.2.1 (y_L u.2.2.2.2.1) u.2.2.2.2.2 ∧ u.2.2.2.2.2 = (qn - 1, sn, cq, cs) ∧ m_fr [12, 13, 14, 15] I u.1 ∧ u.2.1 = T ∧ u.2.2.1 = A ∧ u.2.2.2.1 = O) (fun u t => va_P (dC, dI) y_cl (y_W ad ar u.1 u.2.1 u.2.2.1 u.2.2.2.1 u.2.2.2.2.1) t.heap ∧ va_D (va_A (y_W ad ar I T A O pl) sz) (y_W ad ar u.1 u.2.1 u.2.2.1 u.2.2.2.1 u.2.2.2.2.1) ∧ y_ac (cq + cs) sz w0 (u.2.2.2.2.2.2.2.1 + u.2.2.2.2.2.2.2.2) t.heap) (va_A (y_W ad ar I T A O pl) sz)) (0) (0) (va_A (y_W ad ar I T A O pl) sz) := by
  refine Met.ofW (cc := prog_28_method_29_code) (maxL := 4) (ret := (some (.object "java/lang/Object"))) (by decide) rfl ?_
  intro p e s m args below meth c s₁ B hml hv
  obtain ⟨rfl, hsz, hN0, hP, hU, hZ, hD0, hw0⟩ := hv
  have hK := hU.2.1
  have hx := B.exec
  have hb := B.bytes
  have hr := B.returns
  have hts : ∀ w ∈ x_T, w.before ([.ref (ad 11), .int (Int32.ofNat k)] : List Value).toArray s = true := fun w h => atoms_spec (ws := (Jvm.Cond.code ({ cls := "java/util/ArrayList", name := "remove", desc := "(I)Ljava/lang/Object;" } : Jvm.MethodName) prog_28_method_29_code (4 : Nat) (Option.some (Jvm.ClassFile.FieldType.object "java/lang/Object"))) :: x_T) B.pre w (List.mem_cons_of_mem _ h)
  have hown : s.vm.findClass "java/util/ArrayList" = some m.cls := findClass_of_methodNamed B.named
  have hlocks := B.notSynchronized
  subst hsz
  subst hw0
  have hD := hD0.self (sz := s.heap.size)
  have hAN := x_AN hD0 hN0
  generalize hAe : va_A (y_W ad ar I T A O pl) s.heap.size = Bq at hD hAN ⊢
  have hA : ∀ q : Nat, s.heap.size ≤ q → Bq q := fun q h => by rw [← hAe]; exact Or.inr h
  have hS : va_S Bq s.heap s.heap [] := va_S.rf
  have hl := lv_entry ([.ref (ad 11), .int (Int32.ofNat k)]) (n := 4) (Nat.le_of_ble_eq_true rfl)
  rw [lg_entry_eq]
  generalize (lg_sl ([.ref (ad 11), .int (Int32.ofNat k)]) ++ List.replicate (4 - (lg_sl ([.ref (ad 11), .int (Int32.ofNat k)])).length) Slot.unset).toArray = ls at hl ⊢
  have hl : lv_has ls 4 [(0, .ref (ad 11)), (1, .int (Int32.ofNat k))] := hl
  obtain ⟨a9, g9, ho9, hfa, hle9, h109, hz9, hel⟩ : ∃ (a9 : Nat) (g9 : Nat → Option Nat), O 1 = some a9 ∧ y_L pl a9 = some (.inl (ar 5, cq, .inr (.inr (.inr (.inr g9))))) ∧ qn ≤ cq ∧ 10 ≤ cq ∧ a9 ≠ z 0 ∧ ∀ j, j < qn → ∃ t, g9 j = some t ∧ G t = 8 := by
    rcases hmi.2.1.2 with ⟨h1, h2, h3⟩ | h
    · dsimp only at h2 h3; omega
    · exact h
  have hcap := hmi.2.2.2.2.1
  dsimp only at hcap
  refine lv_iload_n hx hb d_ArrayList_remove_0 rfl (lv_at hl 1 rfl) ?_
  refine lv_aload_n hx hb d_ArrayList_remove_1 rfl (lv_at hl 0 rfl) ?_
  refine k_g (C := "java/util/ArrayList") (F := F_List) (N := 3) hx hb hts i_List hown hK hP 11 1 (by decide) (by decide) rfl (by decide) (d := (1, 12)) rfl (hts _ k_115) (fun _ h9 => h9) (v := .int (Int32.ofNat qn)) (congrArg Value.int hmi.2.1.1) d_ArrayList_remove_2 ?_
  have hFc := y_free hD hS hA
  refine va_calli (va_runS (As := [.int (Int32.ofNat k), .int (Int32.ofNat qn)]) (rest := []) ⟨hx, hb, hml, hown, hts⟩ (c_chk l dC dI ar N0 z ad I T A O pl k qn s.heap.size (y_hs s.heap) (by omega) (by omega)) (va_cwS 2 hts (x_goodSW k_744 k_745 k_25 k_746) rfl rfl rfl (by decide +kernel) ⟨Nat.le_of_ble_eq_true rfl, Nat.le_of_ble_eq_true rfl⟩) ⟨y_blind, fun U9 hU9 hW9 => y_pre hU9 hW9 hP hD hU hZ hS hAN hN0⟩ rfl rfl hl.1 rfl (lv_room (Nat.le_of_ble_eq_true rfl)) d_ArrayList_remove_5 ⟨(by show 0 + (0) ≤ 0; omega), (by show 0 + (0) ≤ 0; omega)⟩) hS (fun q _ h => hFc q h) hFc (fun r_1 u t H1 locs ht hvm hw hB hz1 hk1 hS => ?_)
  obtain ⟨I2, T2, A2, O2, pl2, q2, s2, cq2, cs2⟩ := u
  dsimp only at hw hB
  rw [ht] at hB
  obtain ⟨hP, hD1, hac2⟩ := hB
  have hD : va_D Bq (y_W ad ar I2 T2 A2 O2 pl2) := hD1.weaken (fun _ q _ h => hFc q.1 h)
  generalize H1 = H at hP hS hac2 ⊢
  refine W.widen (k := 0) (n := 0) (by omega) (by omega) ?_
  obtain ⟨h9, hw⟩ := hw
  cases h9
  obtain rfl := hw
  refine lv_pop hx hb d_ArrayList_remove_8 rfl ?_
  refine lv_aload_n hx hb d_ArrayList_remove_9 rfl (lv_at hl 0 rfl) ?_
  refine k_g (C := "java/util/ArrayList") (F := F_List) (N := 3) hx hb hts i_List hown hK hP 11 0 (by decide) (by decide) rfl (by decide) (d := (3, 1)) rfl (hts _ k_114) (fun _ h9 => h9) (v := .ref a9) (by show va_rf (O 1) = _; rw [ho9]; rfl) d_ArrayList_remove_10 ?_
  refine lv_astore_n (lv' := [(2, .ref a9), (0, .ref (ad 11)), (1, .int (Int32.ofNat k))]) hx hb d_ArrayList_remove_13 rfl hl (by decide) rfl (fun ls hl => ?_)
  refine lv_aload_n hx hb d_ArrayList_remove_14 rfl (lv_at hl 0 rfl) ?_
  refine lv_iload_n hx hb d_ArrayList_remove_15 rfl (lv_at hl 2 rfl) ?_
  refine d_aald hx hb hK hP hfa (j := (Int32.ofNat k)) (x_inN (by omega) (by omega)) d_ArrayList_remove_16 ?_
  obtain ⟨t9, hg9, ht9⟩ := hel k hk
  refine W.eq (g2 := F0 m 17 ls [.ref t9]) (by rw [x_nat (a := k) (by omega), hg9]; rfl) ?_
  refine lv_astore_n (lv' := [(3, .ref t9), (2, .ref a9), (0, .ref (ad 11)), (1, .int (Int32.ofNat k))]) hx hb d_ArrayList_remove_17 rfl hl (by decide) rfl (fun ls hl => ?_)
  refine lv_aload_n hx hb d_ArrayList_remove_18 rfl (lv_at hl 2 rfl) ?_
  refine lv_aload_n hx hb d_ArrayList_remove_19 rfl (lv_at hl 1 rfl) ?_
  refine lv_iload_n hx hb d_ArrayList_remove_20 rfl (lv_at hl 3 rfl) ?_
  have hFc := y_free hD hS hA
  refine va_callv (va_runV (As := [.ref a9, .int (Int32.ofNat k)]) (rest := []) ⟨hx, hb, hml, hown, hts⟩ (c_L_fast_11 l dC dI ar N0 z ad I T A O pl G C Gs qn sn cq cs a9 k H.size (y_hs H) hmi (by omega) ho9) (cwV 2 hts (x_goodV k_764 k_766 kp_26 k_7 k_767) rfl rfl rfl (by decide +kernel) ⟨Nat.le_of_ble_eq_true rfl, Nat.le_of_ble_eq_true rfl⟩) ⟨y_blind, va_recv hK hP (ci := 0) (q0 := 11) rfl (y_W_ob (by decide) (by decide)), fun U9 hU9 hW9 => y_pre hU9 hW9 hP hD hU hZ hS hAN hN0⟩ rfl rfl hl.1 rfl (lv_room (Nat.le_of_ble_eq_true rfl)) d_ArrayList_remove_21 ⟨(by show 0 + (0) ≤ 0; omega), (by show 0 + (0) ≤ 0; omega)⟩) hS (fun q _ h => hFc q h) hFc (fun u t H1 locs ht hvm hw hB hz1 hk1 hS => ?_)
  obtain ⟨I3, T3, A3, O3, pl3, q3, s3, cq3, cs3⟩ := u
  dsimp only at hw hB
  rw [ht] at hB
  obtain ⟨hP, hD1, hac3⟩ := hB
  have hD : va_D Bq (y_W ad ar I3 T3 A3 O3 pl3) := hD1.weaken (fun _ q _ h => hFc q.1 h)
  generalize H1 = H at hP hS hac3 ⊢
  refine W.widen (k := 0) (n := 0) (by omega) (by omega) ?_
  obtain ⟨hmi, e5, fr3, e2, e3, e4⟩ := hw
  cases e5
  rw [e2, e3, e4] at hP hD
  rw [e4] at hmi
  have hP : va_P (dC, dI) y_cl (y_W ad ar I3 T A O pl3) H := hP
  have hD : va_D Bq (y_W ad ar I3 T A O pl3) := hD
  have hmi : y_MI z ar G C Gs I3 O (y_L pl3) (qn - 1, sn, cq, cs) := hmi
  refine lv_aload_n hx hb d_ArrayList_remove_24 rfl (lv_at hl 0 rfl) ?_
  refine y_know (fun hy91 hy92 hy93 hy94 => ?_)
  have hac9 : y_ac (cq + cs) s.heap.size (y_hs s.heap) (cq + cs) H := ⟨by omega, by omega⟩
  refine W.widen (k := 0) (n := 0) (by omega) (by omega) ?_
  exact W.aret (v := .ref t9) hx hb hr (Or.inl ⟨_, rfl⟩) (Or.inr ⟨_, rfl⟩) (fun t ht hW => ⟨⟨(some t9), (I3, T, A, O, pl3, (qn - 1, sn, cq, cs)), rfl, ⟨⟨t9, rfl, ht9⟩, hmi, rfl, (m_fr.rf.tr fr3 (by decide)), rfl, rfl, rfl⟩, (by dsimp only; rw [ht]; exact ⟨hP, hD, hac9⟩)⟩, hS.F ht⟩) hS.2.2 d_ArrayList_remove_25
set_option maxHeartbeats 4000000 in
set_option maxRecDepth 100000 in
theorem c_L_rem_12 (l : Launch) (dC : Nat → ClassId) (dI : Nat → Nat → Nat) (ar : Nat → ClassId) (N0 : Nat) (z : Nat → Nat) (ad : Nat → Nat) (I : Nat → Int32) (T : Int64) (A : Nat → Nat → Int32) (O : Nat → Option Nat) (pl : va_W) (G : Nat → Nat) (C Gs : Nat → List Nat) (qn sn cq cs : Nat) (k : Nat) (sz w0 : Nat) (hmi : y_MI z ar G C Gs I O (y_L pl) (qn, sn, cq, cs)) (hk : k < sn) : Met l ({ cls := "java/util/ArrayList", name := "remove", desc := "(I)Ljava/lang/Object;" } : Jvm.MethodName) ((Jvm.Cond.code ({ cls := "java/util/ArrayList", name := "remove", desc := "(I)Ljava/lang/Object;" } : Jvm.MethodName) prog_28_method_29_code (4 : Nat) (Option.some (Jvm.ClassFile.FieldType.object "java/lang/Object"))) :: x_T) ({ frames := 2, cells := 0, slots := 0, locals := 83 }) (y_Pc (dC, dI) ar N0 z (y_W ad ar I T A O pl) sz w0 [.ref (ad 12), .int (Int32.ofNat k)]) (va_Qq (fun (r : Option Nat) (u : (Nat → Int32) × Int64 × (Nat → Nat → Int32) × (Nat → Option Nat) × va_W × (Nat × Nat × Nat × Nat)) => (∃ t, r = some t ∧ G t = 8) ∧ y_MI z ar G C Gs u.1 u.2.2.2.1 (y_L u.2.2.2.2.1) u.2.2.2.2.2 ∧ u.2.2.2.2.2 = (qn, sn - 1, cq, cs) ∧ m_fr [12, 13, 14, 15] I u.1 ∧ u.2.1 = T ∧ u.2.2.1 = A ∧ u.2.2.2.1 = O) (fun u t => va_P (dC, dI) y_cl (y_W ad ar u.1 u.2.1 u.2.2.1 u.2.2.2.1 u.2.2.2.2.1) t.heap ∧ va_D (va_A (y_W ad ar I T A O pl) sz) (y_W ad ar u.1 u.2.1 u.2.2.1 u.2.2.2.1 u.2.2.2.2.1) ∧ y_ac (cq + cs) sz w0 (u.2.2.2.2.2.2.2.1 + u.2.2.2.2.2.2.2.2) t.heap) (va_A (y_W ad ar I T A O pl) sz)) (0) (0) (va_A (y_W ad ar I T A O pl) sz) := by
  refine Met.ofW (cc := prog_28_method_29_code) (maxL := 4) (ret := (some (.object "java/lang/Object"))) (by decide) rfl ?_
  intro p e s m args below meth c s₁ B hml hv
  obtain ⟨rfl, hsz, hN0, hP, hU, hZ, hD0, hw0⟩ := hv
  have hK := hU.2.1
  have hx := B.exec
  have hb := B.bytes
  have hr := B.returns
  have hts : ∀ w ∈ x_T, w.before ([.ref (ad 12), .int (Int32.ofNat k)] : List Value).toArray s = true := fun w h => atoms_spec (ws := (Jvm.Cond.code ({ cls := "java/util/ArrayList", name := "remove", desc := "(I)Ljava/lang/Object;" } : Jvm.MethodName) prog_28_method_29_code (4 : Nat) (Option.some (Jvm.ClassFile.FieldType.object "java/lang/Object"))) :: x_T) B.pre w (List.mem_cons_of_mem _ h)
  have hown : s.vm.findClass "java/util/ArrayList" = some m.cls := findClass_of_methodNamed B.named
  have hlocks := B.notSynchronized
  subst hsz
  subst hw0
  have hD := hD0.self (sz := s.heap.size)
  have hAN := x_AN hD0 hN0
  generalize hAe : va_A (y_W ad ar I T A O pl) s.heap.size = Bq at hD hAN ⊢
  have hA : ∀ q : Nat, s.heap.size ≤ q → Bq q := fun q h => by rw [← hAe]; exact Or.inr h
  have hS : va_S Bq s.heap s.heap [] := va_S.rf
  have hl := lv_entry ([.ref (ad 12), .int (Int32.ofNat k)]) (n := 4) (Nat.le_of_ble_eq_true rfl)
  rw [lg_entry_eq]
  generalize (lg_sl ([.ref (ad 12), .int (Int32.ofNat k)]) ++ List.replicate (4 - (lg_sl ([.ref (ad 12), .int (Int32.ofNat k)])).length) Slot.unset).toArray = ls at hl ⊢
  have hl : lv_has ls 4 [(0, .ref (ad 12)), (1, .int (Int32.ofNat k))] := hl
  obtain ⟨a9, g9, ho9, hfa, hle9, h109, hz9, hel⟩ : ∃ (a9 : Nat) (g9 : Nat → Option Nat), O 2 = some a9 ∧ y_L pl a9 = some (.inl (ar 5, cs, .inr (.inr (.inr (.inr g9))))) ∧ sn ≤ cs ∧ 10 ≤ cs ∧ a9 ≠ z 0 ∧ ∀ j, j < sn → ∃ t, g9 j = some t ∧ G t = 8 := by
    rcases hmi.2.2.1.2 with ⟨h1, h2, h3⟩ | h
    · dsimp only at h2 h3; omega
    · exact h
  have hcap := hmi.2.2.2.2.1
  dsimp only at hcap
  refine lv_iload_n hx hb d_ArrayList_remove_0 rfl (lv_at hl 1 rfl) ?_
  refine lv_aload_n hx hb d_ArrayList_remove_1 rfl (lv_at hl 0 rfl) ?_
  refine k_g (C := "java/util/ArrayList") (F := F_List) (N := 3) hx hb hts i_List hown hK hP 12 1 (by decide) (by decide) rfl (by decide) (d := (1, 14)) rfl (hts _ k_115) (fun _ h9 => h9) (v := .int (Int32.ofNat sn)) (congrArg Value.int hmi.2.2.1.1) d_ArrayList_remove_2 ?_
  have hFc := y_free hD hS hA
  refine va_calli (va_runS (As := [.int (Int32.ofNat k), .int (Int32.ofNat sn)]) (rest := []) ⟨hx, hb, hml, hown, hts⟩ (c_chk l dC dI ar N0 z ad I T A O pl k sn s.heap.size (y_hs s.heap) (by omega) (by omega)) (va_cwS 2 hts (x_goodSW k_744 k_745 k_25 k_746) rfl rfl rfl (by decide +kernel) ⟨Nat.le_of_ble_eq_true rfl, Nat.le_of_ble_eq_true rfl⟩) ⟨y_blind, fun U9 hU9 hW9 => y_pre hU9 hW9 hP hD hU hZ hS hAN hN0⟩ rfl rfl hl.1 rfl (lv_room (Nat.le_of_ble_eq_true rfl)) d_ArrayList_remove_5 ⟨(by show 0 + (0) ≤ 0; omega), (by show 0 + (0) ≤ 0; omega)⟩) hS (fun q _ h => hFc q h) hFc (fun r_1 u t H1 locs ht hvm hw hB hz1 hk1 hS => ?_)
  obtain ⟨I2, T2, A2, O2, pl2, q2, s2, cq2, cs2⟩ := u
  dsimp only at hw hB
  rw [ht] at hB
  obtain ⟨hP, hD1, hac2⟩ := hB
  have hD : va_D Bq (y_W ad ar I2 T2 A2 O2 pl2) := hD1.weaken (fun _ q _ h => hFc q.1 h)
  generalize H1 = H at hP hS hac2 ⊢
  refine W.widen (k := 0) (n := 0) (by omega) (by omega) ?_
  obtain ⟨h9, hw⟩ := hw
  cases h9
  obtain rfl := hw
  refine lv_pop hx hb d_ArrayList_remove_8 rfl ?_
  refine lv_aload_n hx hb d_ArrayList_remove_9 rfl (lv_at hl 0 rfl) ?_
  refine k_g (C := "java/util/ArrayList") (F := F_List) (N := 3) hx hb hts i_List hown hK hP 12 0 (by decide) (by decide) rfl (by decide) (d := (3, 2)) rfl (hts _ k_114) (fun _ h9 => h9) (v := .ref a9) (by show va_rf (O 2) = _; rw [ho9]; rfl) d_ArrayList_remove_10 ?_
  refine lv_astore_n (lv' := [(2, .ref a9), (0, .ref (ad 12)), (1, .int (Int32.ofNat k))]) hx hb d_ArrayList_remove_13 rfl hl (by decide) rfl (fun ls hl => ?_)
  refine lv_aload_n hx hb d_ArrayList_remove_14 rfl (lv_at hl 0 rfl) ?_
  refine lv_iload_n hx hb d_ArrayList_remove_15 rfl (lv_at hl 2 rfl) ?_
  refine d_aald hx hb hK hP hfa (j := (Int32.ofNat k)) (x_inN (by omega) (by omega)) d_ArrayList_remove_16 ?_
  obtain ⟨t9, hg9, ht9⟩ := hel k hk
  refine W.eq (g2 := F0 m 17 ls [.ref t9]) (by rw [x_nat (a := k) (by omega), hg9]; rfl) ?_
  refine lv_astore_n (lv' := [(3, .ref t9), (2, .ref a9), (0, .ref (ad 12)), (1, .int (Int32.ofNat k))]) hx hb d_ArrayList_remove_17 rfl hl (by decide) rfl (fun ls hl => ?_)
  refine lv_aload_n hx hb d_ArrayList_remove_18 rfl (lv_at hl 2 rfl) ?_
  refine lv_aload_n hx hb d_ArrayList_remove_19 rfl (lv_at hl 1 rfl) ?_
  refine lv_iload_n hx hb d_ArrayList_remove_20 rfl (lv_at hl 3 rfl) ?_
  have hFc := y_free hD hS hA
  refine va_callv (va_runV (As := [.ref a9, .int (Int32.ofNat k)]) (rest := []) ⟨hx, hb, hml, hown, hts⟩ (c_L_fast_12 l dC dI ar N0 z ad I T A O pl G C Gs qn sn cq cs a9 k H.size (y_hs H) hmi (by omega) ho9) (cwV 2 hts (x_goodV k_764 k_766 kp_26 k_7 k_767) rfl rfl rfl (by decide +kernel) ⟨Nat.le_of_ble_eq_true rfl, Nat.le_of_ble_eq_true rfl⟩) ⟨y_blind, va_recv hK hP (ci := 0) (q0 := 12) rfl (y_W_ob (by decide) (by decide)), fun U9 hU9 hW9 => y_pre hU9 hW9 hP hD hU hZ hS hAN hN0⟩ rfl rfl hl.1 rfl (lv_room (Nat.le_of_ble_eq_true rfl)) d_ArrayList_remove_21 ⟨(by show 0 + (0) ≤ 0; omega), (by show 0 + (0) ≤ 0; omega)⟩) hS (fun q _ h => hFc q h) hFc (fun u t H1 locs ht hvm hw hB hz1 hk1 hS => ?_)
  obtain ⟨I3, T3, A3, O3, pl3, q3, s3, cq3, cs3⟩ := u
  dsimp only at hw hB
  rw [ht] at hB
  obtain ⟨hP, hD1, hac3⟩ := hB
  have hD : va_D Bq (y_W ad ar I3 T3 A3 O3 pl3) := hD1.weaken (fun _ q _ h => hFc q.1 h)
  generalize H1 = H at hP hS hac3 ⊢
  refine W.widen (k := 0) (n := 0) (by omega) (by omega) ?_
  obtain ⟨hmi, e5, fr3, e2, e3, e4⟩ := hw
  cases e5
  rw [e2, e3, e4] at hP hD
  rw [e4] at hmi
  have hP : va_P (dC, dI) y_cl (y_W ad ar I3 T A O pl3) H := hP
  have hD : va_D Bq (y_W ad ar I3 T A O pl3) := hD
  have hmi : y_MI z ar G C Gs I3 O (y_L pl3) (qn, sn - 1, cq, cs) := hmi
  refine lv_aload_n hx hb d_ArrayList_remove_24 rfl (lv_at hl 0 rfl) ?_
  refine y_know (fun hy91 hy92 hy93 hy94 => ?_)
  have hac9 : y_ac (cq + cs) s.heap.size (y_hs s.heap) (cq + cs) H := ⟨by omega, by omega⟩
  refine W.widen (k := 0) (n := 0) (by omega) (by omega) ?_
  exact W.aret (v := .ref t9) hx hb hr (Or.inl ⟨_, rfl⟩) (Or.inr ⟨_, rfl⟩) (fun t ht hW => ⟨⟨(some t9), (I3, T, A, O, pl3, (qn, sn - 1, cq, cs)), rfl, ⟨⟨t9, rfl, ht9⟩, hmi, rfl, (m_fr.rf.tr fr3 (by decide)), rfl, rfl, rfl⟩, (by dsimp only; rw [ht]; exact ⟨hP, hD, hac9⟩)⟩, hS.F ht⟩) hS.2.2 d_ArrayList_remove_25
set_option maxHeartbeats 4000000 in
set_option maxRecDepth 100000 in
theorem c_L_clear_11 (l : Launch) (dC : Nat → ClassId) (dI : Nat → Nat → Nat) (ar : Nat → ClassId) (N0 : Nat) (z : Nat → Nat) (ad : Nat → Nat) (I : Nat → Int32) (T : Int64) (A : Nat → Nat → Int32) (O : Nat → Option Nat) (pl : va_W) (G : Nat → Nat) (C Gs : Nat → List Nat) (qn sn cq cs : Nat) (sz w0 : Nat) (hmi : y_MI z ar G C Gs I O (y_L pl) (qn, sn, cq, cs))  : Met l ({ cls := "java/util/ArrayList", name := "clear", desc := "()V" } : Jvm.MethodName) ((Jvm.Cond.code ({ cls := "java/util/ArrayList", name := "clear", desc := "()V" } : Jvm.MethodName) prog_28_method_40_code (4 : Nat) (Option.none : Option Jvm.ClassFile.FieldType)) :: x_T) ({ frames := 0, cells := 0, slots := 0, locals := 0 }) (y_Pc (dC, dI) ar N0 z (y_W ad ar I T A O pl) sz w0 [.ref (ad 11)]) (va_Qv (fun (u : (Nat → Int32) × Int64 × (Nat → Nat → Int32) × (Nat → Option Nat) × va_W × (Nat × Nat × Nat × Nat)) => y_MI z ar G C Gs u.1 u.2.2.2.1 (y_L u.2.2.2.2.1) u.2.2.2.2.2 ∧ u.2.2.2.2.2 = (0, sn, cq, cs) ∧ m_fr [12, 13, 14, 15] I u.1 ∧ u.2.1 = T ∧ u.2.2.1 = A ∧ u.2.2.2.1 = O) (fun u t => va_P (dC, dI) y_cl (y_W ad ar u.1 u.2.1 u.2.2.1 u.2.2.2.1 u.2.2.2.2.1) t.heap ∧ va_D (va_A (y_W ad ar I T A O pl) sz) (y_W ad ar u.1 u.2.1 u.2.2.1 u.2.2.2.1 u.2.2.2.2.1) ∧ y_ac (cq + cs) sz w0 (u.2.2.2.2.2.2.2.1 + u.2.2.2.2.2.2.2.2) t.heap) (va_A (y_W ad ar I T A O pl) sz)) (0) (0) (va_A (y_W ad ar I T A O pl) sz) := by
  refine Met.ofW (cc := prog_28_method_40_code) (maxL := 4) (ret := none) (by decide) rfl ?_
  intro p e s m args below meth c s₁ B hml hv
  obtain ⟨rfl, hsz, hN0, hP, hU, hZ, hD0, hw0⟩ := hv
  have hK := hU.2.1
  have hx := B.exec
  have hb := B.bytes
  have hr := B.returns
  have hts : ∀ w ∈ x_T, w.before ([.ref (ad 11)] : List Value).toArray s = true := fun w h => atoms_spec (ws := (Jvm.Cond.code ({ cls := "java/util/ArrayList", name := "clear", desc := "()V" } : Jvm.MethodName) prog_28_method_40_code (4 : Nat) (Option.none : Option Jvm.ClassFile.FieldType)) :: x_T) B.pre w (List.mem_cons_of_mem _ h)
  have hown : s.vm.findClass "java/util/ArrayList" = some m.cls := findClass_of_methodNamed B.named
  have hlocks := B.notSynchronized
  subst hsz
  subst hw0
  have hD := hD0.self (sz := s.heap.size)
  have hAN := x_AN hD0 hN0
  generalize hAe : va_A (y_W ad ar I T A O pl) s.heap.size = Bq at hD hAN ⊢
  have hA : ∀ q : Nat, s.heap.size ≤ q → Bq q := fun q h => by rw [← hAe]; exact Or.inr h
  have hS : va_S Bq s.heap s.heap [] := va_S.rf
  have hl := lv_entry ([.ref (ad 11)]) (n := 4) (Nat.le_of_ble_eq_true rfl)
  rw [lg_entry_eq]
  generalize (lg_sl ([.ref (ad 11)]) ++ List.replicate (4 - (lg_sl ([.ref (ad 11)])).length) Slot.unset).toArray = ls at hl ⊢
  have hl : lv_has ls 4 [(0, .ref (ad 11))] := hl
  have hcap := hmi.2.2.2.2.1
  dsimp only at hcap
  rcases hmi.2.1.2 with ⟨h1, h2, h3⟩ | ⟨a9, g9, ho9, hfa, hle9, h109, hz9, hel⟩
  · dsimp only at h2 h3
    refine lv_aload_n hx hb d_ArrayList_clear_0 rfl (lv_at hl 0 rfl) ?_
    refine lv_dup hx hb d_ArrayList_clear_1 rfl ?_
    refine k_g (C := "java/util/ArrayList") (F := F_List) (N := 3) hx hb hts i_List hown hK hP 11 2 (by decide) (by decide) rfl (by decide) (d := (1, 13)) rfl (hts _ k_117) (fun x9 h9 => u_same (hts _ k_118) x9 h9) (v := .int (I 13)) rfl d_ArrayList_clear_2 ?_
    refine lv_iconst (v := 1) hx hb d_ArrayList_clear_5 (by decide) ?_
    refine lv_iadd hx hb d_ArrayList_clear_6 ?_
    refine k_pi (C := "java/util/ArrayList") (F := F_List) (N := 3) hx hb hts i_List hown t_List t_List_ok n_List hK hP hD hS 11 2 (by decide) (by decide) rfl (by decide) (j := 13) (x := ((I 13) + 1)) rfl (hts _ k_117) (fun x9 h9 => u_same (hts _ k_118) x9 h9) rfl (by decide +kernel) d_ArrayList_clear_7 (fun H locs hP hD hS => ?_)
    refine lv_aload_n hx hb d_ArrayList_clear_10 rfl (lv_at hl 0 rfl) ?_
    refine k_g (C := "java/util/ArrayList") (F := F_List) (N := 3) hx hb hts i_List hown hK hP 11 0 (by decide) (by decide) rfl (by decide) (d := (3, 1)) rfl (hts _ k_114) (fun _ h9 => h9) (v := .ref (z 0)) (by show va_rf (O 1) = _; rw [h1]; rfl) d_ArrayList_clear_11 ?_
    refine lv_astore_n (lv' := [(1, .ref (z 0)), (0, .ref (ad 11))]) hx hb d_ArrayList_clear_14 rfl hl (by decide) rfl (fun ls hl => ?_)
    refine lv_aload_n hx hb d_ArrayList_clear_15 rfl (lv_at hl 1 rfl) ?_
    refine k_g (C := "java/util/ArrayList") (F := F_List) (N := 3) hx hb hts i_List hown hK hP 11 1 (by decide) (by decide) rfl (by decide) (d := (1, 12)) rfl (hts _ k_115) (fun _ h9 => h9) (v := .int (Int32.ofNat qn)) (congrArg Value.int hmi.2.1.1) d_ArrayList_clear_16 ?_
    refine lv_istore_n (lv' := [(2, .int (Int32.ofNat qn)), (1, .ref (z 0)), (0, .ref (ad 11))]) hx hb d_ArrayList_clear_19 rfl hl (by decide) rfl (fun ls hl => ?_)
    refine lv_aload_n hx hb d_ArrayList_clear_20 rfl (lv_at hl 2 rfl) ?_
    refine lv_iconst (v := 0) hx hb d_ArrayList_clear_21 (by decide) ?_
    refine lv_dup_x1 hx hb d_ArrayList_clear_22 rfl rfl ?_
    refine k_pi (C := "java/util/ArrayList") (F := F_List) (N := 3) hx hb hts i_List hown t_List t_List_ok n_List hK hP hD hS 11 1 (by decide) (by decide) rfl (by decide) (j := 12) (x := 0) rfl (hts _ k_115) (fun _ h9 => h9) rfl (by decide +kernel) d_ArrayList_clear_23 (fun H locs hP hD hS => ?_)
    refine W.eq (g2 := F0 m 26 ls [.int (Int32.ofNat 0)]) rfl ?_
    refine lv_istore_n (lv' := [(3, .int (Int32.ofNat 0)), (2, .int (Int32.ofNat qn)), (1, .ref (z 0)), (0, .ref (ad 11))]) hx hb d_ArrayList_clear_26 rfl hl (by decide) rfl (fun ls hl => ?_)
    refine lv_iload_n hx hb d_ArrayList_clear_27 rfl (lv_at hl 0 rfl) ?_
    refine lv_iload_n hx hb d_ArrayList_clear_28 rfl (lv_at hl 1 rfl) ?_
    refine lv_icmp_ge (tgt := 42) hx hb d_ArrayList_clear_29 (by decide) (fun c_1 => ?_) (fun c_1 => ?_)
    · have c_1 : qn ≤ 0 := (x_leN (a := qn) (b := 0) (by omega) (by omega)).mp c_1
      refine y_know (fun hy91 hy92 hy93 hy94 => ?_)
      have hac9 : y_ac (cq + cs) s.heap.size (y_hs s.heap) (cq + cs) H := ⟨by omega, by omega⟩
      refine W.widen (k := 0) (n := 0) (by omega) (by omega) ?_
      exact W.vret hx hb hr (fun t ht hW => ⟨⟨((upd (upd I 13 ((I 13) + 1)) 12 0), T, A, O, pl, (0, sn, cq, cs)), rfl, ⟨(by obtain ⟨b1, b2, b3, b4, b5, b6, b7, b8⟩ := hmi; exact ⟨b1, ⟨rfl, Or.inl ⟨h1, rfl, h3⟩⟩, b3, b4, b5, b6, b7, b8⟩), rfl, ((m_fr.rf.up (by decide) _).up (by decide) _), rfl, rfl, rfl⟩, (by dsimp only; rw [ht]; exact ⟨hP, hD, hac9⟩)⟩, hS.F ht⟩) hS.2.2 d_ArrayList_clear_42
    · have c_1 : ¬ qn ≤ 0 := fun h9 => c_1 ((x_leN (a := qn) (b := 0) (by omega) (by omega)).mpr h9)
      exact absurd c_1 (by omega)
  · dsimp only at hfa hle9 h109 hel
    refine lv_aload_n hx hb d_ArrayList_clear_0 rfl (lv_at hl 0 rfl) ?_
    refine lv_dup hx hb d_ArrayList_clear_1 rfl ?_
    refine k_g (C := "java/util/ArrayList") (F := F_List) (N := 3) hx hb hts i_List hown hK hP 11 2 (by decide) (by decide) rfl (by decide) (d := (1, 13)) rfl (hts _ k_117) (fun x9 h9 => u_same (hts _ k_118) x9 h9) (v := .int (I 13)) rfl d_ArrayList_clear_2 ?_
    refine lv_iconst (v := 1) hx hb d_ArrayList_clear_5 (by decide) ?_
    refine lv_iadd hx hb d_ArrayList_clear_6 ?_
    refine k_pi (C := "java/util/ArrayList") (F := F_List) (N := 3) hx hb hts i_List hown t_List t_List_ok n_List hK hP hD hS 11 2 (by decide) (by decide) rfl (by decide) (j := 13) (x := ((I 13) + 1)) rfl (hts _ k_117) (fun x9 h9 => u_same (hts _ k_118) x9 h9) rfl (by decide +kernel) d_ArrayList_clear_7 (fun H locs hP hD hS => ?_)
    refine lv_aload_n hx hb d_ArrayList_clear_10 rfl (lv_at hl 0 rfl) ?_
    refine k_g (C := "java/util/ArrayList") (F := F_List) (N := 3) hx hb hts i_List hown hK hP 11 0 (by decide) (by decide) rfl (by decide) (d := (3, 1)) rfl (hts _ k_114) (fun _ h9 => h9) (v := .ref a9) (by show va_rf (O 1) = _; rw [ho9]; rfl) d_ArrayList_clear_11 ?_
    refine lv_astore_n (lv' := [(1, .ref a9), (0, .ref (ad 11))]) hx hb d_ArrayList_clear_14 rfl hl (by decide) rfl (fun ls hl => ?_)
    refine lv_aload_n hx hb d_ArrayList_clear_15 rfl (lv_at hl 1 rfl) ?_
    refine k_g (C := "java/util/ArrayList") (F := F_List) (N := 3) hx hb hts i_List hown hK hP 11 1 (by decide) (by decide) rfl (by decide) (d := (1, 12)) rfl (hts _ k_115) (fun _ h9 => h9) (v := .int (Int32.ofNat qn)) (congrArg Value.int hmi.2.1.1) d_ArrayList_clear_16 ?_
    refine lv_istore_n (lv' := [(2, .int (Int32.ofNat qn)), (1, .ref a9), (0, .ref (ad 11))]) hx hb d_ArrayList_clear_19 rfl hl (by decide) rfl (fun ls hl => ?_)
    refine lv_aload_n hx hb d_ArrayList_clear_20 rfl (lv_at hl 2 rfl) ?_
    refine lv_iconst (v := 0) hx hb d_ArrayList_clear_21 (by decide) ?_
    refine lv_dup_x1 hx hb d_ArrayList_clear_22 rfl rfl ?_
    refine k_pi (C := "java/util/ArrayList") (F := F_List) (N := 3) hx hb hts i_List hown t_List t_List_ok n_List hK hP hD hS 11 1 (by decide) (by decide) rfl (by decide) (j := 12) (x := 0) rfl (hts _ k_115) (fun _ h9 => h9) rfl (by decide +kernel) d_ArrayList_clear_23 (fun H locs hP hD hS => ?_)
    refine W.eq (g2 := F0 m 26 ls [.int (Int32.ofNat 0)]) rfl ?_
    refine lv_istore_n (lv' := [(3, .int (Int32.ofNat 0)), (2, .int (Int32.ofNat qn)), (1, .ref a9), (0, .ref (ad 11))]) hx hb d_ArrayList_clear_26 rfl hl (by decide) rfl (fun ls hl => ?_)
    refine x_while (fun n H locs ls => ∃ (pl1 : va_W) (g1 : Nat → Option Nat) (i1 : Nat), n = qn - i1 ∧ i1 ≤ qn ∧ y_L pl1 a9 = some (.inl (ar 5, cq, .inr (.inr (.inr (.inr g1))))) ∧ (∀ b, b ≠ a9 → y_L pl1 b = y_L pl b) ∧ va_P (dC, dI) y_cl (y_W ad ar (upd (upd I 13 ((I 13) + 1)) 12 0) T A O pl1) H ∧ va_D Bq (y_W ad ar (upd (upd I 13 ((I 13) + 1)) 12 0) T A O pl1) ∧ va_S Bq s.heap H locs ∧ lv_has ls 4 [(0, .ref (ad 11)), (1, .ref a9), (2, .int (Int32.ofNat qn)), (3, .int (Int32.ofNat i1))]) (fun n ih H locs ls h9 => ?_) ⟨pl, g9, 0, rfl, Nat.zero_le _, hfa, fun _ _ => rfl, hP, hD, hS, lv_sub hl [3, 2, 1, 0] rfl⟩
    obtain ⟨pl1, g1, i1, hn9, q1, hfa1, hoth, hP, hD, hS, hl⟩ := h9
    refine lv_iload_n hx hb d_ArrayList_clear_27 rfl (lv_at hl 3 rfl) ?_
    refine lv_iload_n hx hb d_ArrayList_clear_28 rfl (lv_at hl 2 rfl) ?_
    refine lv_icmp_ge (tgt := 42) hx hb d_ArrayList_clear_29 (by decide) (fun c_2 => ?_) (fun c_2 => ?_)
    · have c_2 : qn ≤ i1 := (x_leN (a := qn) (b := i1) (by omega) (by omega)).mp c_2
      refine y_know (fun hy91 hy92 hy93 hy94 => ?_)
      have hac9 : y_ac (cq + cs) s.heap.size (y_hs s.heap) (cq + cs) H := ⟨by omega, by omega⟩
      refine W.widen (k := 0) (n := 0) (by omega) (by omega) ?_
      exact W.vret hx hb hr (fun t ht hW => ⟨⟨((upd (upd I 13 ((I 13) + 1)) 12 0), T, A, O, pl1, (0, sn, cq, cs)), rfl, ⟨(by show y_MI z ar G C Gs (upd (upd I 13 ((I 13) + 1)) 12 0) O (y_L pl1) (0, sn, cq, cs); rw [y_Lu_eq hfa1 hoth]; exact hmi.row11 (Or.inr ⟨ho9, _, _, _, hfa⟩) ho9 rfl (fun k hk => rfl) rfl rfl rfl rfl (Nat.zero_le _) (by omega) hz9 (by omega) (fun j hj => absurd hj (Nat.not_lt_zero j))), rfl, ((m_fr.rf.up (by decide) _).up (by decide) _), rfl, rfl, rfl⟩, (by dsimp only; rw [ht]; exact ⟨hP, hD, hac9⟩)⟩, hS.F ht⟩) hS.2.2 d_ArrayList_clear_42
    · have c_2 : ¬ qn ≤ i1 := fun h9 => c_2 ((x_leN (a := qn) (b := i1) (by omega) (by omega)).mpr h9)
      refine lv_aload_n hx hb d_ArrayList_clear_32 rfl (lv_at hl 1 rfl) ?_
      refine lv_iload_n hx hb d_ArrayList_clear_33 rfl (lv_at hl 3 rfl) ?_
      refine lv_null hx hb d_ArrayList_clear_34 ?_
      refine d_aastN hx hb hK hP hD hS hfa1 (j := Int32.ofNat i1) (x_inN (by omega) (by omega)) d_ArrayList_clear_35 (fun pl2 H locs hL2 hP hD hS => ?_)
      refine lv_iinc (v := (Int32.ofNat (i1 + 1))) (lv' := [(3, .int (Int32.ofNat (i1 + 1))), (0, .ref (ad 11)), (1, .ref a9), (2, .int (Int32.ofNat qn))]) hx hb d_ArrayList_clear_36 hl (k := 3) rfl (x_incN i1) (by decide) rfl (fun ls hl => ?_)
      refine lv_goto (tgt := 27) hx hb d_ArrayList_clear_39 (by decide) ?_
      exact ih (qn - (i1 + 1)) (by omega) H locs ls ⟨pl2, _, i1 + 1, rfl, by omega, by rw [hL2]; exact y_Lu_s, fun b hb => by (rw [hL2, y_Lu_n hb]; exact hoth b hb), hP, hD, hS, lv_sub hl [1, 2, 3, 0] rfl⟩
set_option maxHeartbeats 4000000 in
set_option maxRecDepth 100000 in
theorem c_L_clear_12 (l : Launch) (dC : Nat → ClassId) (dI : Nat → Nat → Nat) (ar : Nat → ClassId) (N0 : Nat) (z : Nat → Nat) (ad : Nat → Nat) (I : Nat → Int32) (T : Int64) (A : Nat → Nat → Int32) (O : Nat → Option Nat) (pl : va_W) (G : Nat → Nat) (C Gs : Nat → List Nat) (qn sn cq cs : Nat) (sz w0 : Nat) (hmi : y_MI z ar G C Gs I O (y_L pl) (qn, sn, cq, cs))  : Met l ({ cls := "java/util/ArrayList", name := "clear", desc := "()V" } : Jvm.MethodName) ((Jvm.Cond.code ({ cls := "java/util/ArrayList", name := "clear", desc := "()V" } : Jvm.MethodName) prog_28_method_40_code (4 : Nat) (Option.none : Option Jvm.ClassFile.FieldType)) :: x_T) ({ frames := 0, cells := 0, slots := 0, locals := 0 }) (y_Pc (dC, dI) ar N0 z (y_W ad ar I T A O pl) sz w0 [.ref (ad 12)]) (va_Qv (fun (u : (Nat → Int32) × Int64 × (Nat → Nat → Int32) × (Nat → Option Nat) × va_W × (Nat × Nat × Nat × Nat)) => y_MI z ar G C Gs u.1 u.2.2.2.1 (y_L u.2.2.2.2.1) u.2.2.2.2.2 ∧ u.2.2.2.2.2 = (qn, 0, cq, cs) ∧ m_fr [12, 13, 14, 15] I u.1 ∧ u.2.1 = T ∧ u.2.2.1 = A ∧ u.2.2.2.1 = O) (fun u t => va_P (dC, dI) y_cl (y_W ad ar u.1 u.2.1 u.2.2.1 u.2.2.2.1 u.2.2.2.2.1) t.heap ∧ va_D (va_A (y_W ad ar I T A O pl) sz) (y_W ad ar u.1 u.2.1 u.2.2.1 u.2.2.2.1 u.2.2.2.2.1) ∧ y_ac (cq + cs) sz w0 (u.2.2.2.2.2.2.2.1 + u.2.2.2.2.2.2.2.2) t.heap) (va_A (y_W ad ar I T A O pl) sz)) (0) (0) (va_A (y_W ad ar I T A O pl) sz) := by
  refine Met.ofW (cc := prog_28_method_40_code) (maxL := 4) (ret := none) (by decide) rfl ?_
  intro p e s m args below meth c s₁ B hml hv
  obtain ⟨rfl, hsz, hN0, hP, hU, hZ, hD0, hw0⟩ := hv
  have hK := hU.2.1
  have hx := B.exec
  have hb := B.bytes
  have hr := B.returns
  have hts : ∀ w ∈ x_T, w.before ([.ref (ad 12)] : List Value).toArray s = true := fun w h => atoms_spec (ws := (Jvm.Cond.code ({ cls := "java/util/ArrayList", name := "clear", desc := "()V" } : Jvm.MethodName) prog_28_method_40_code (4 : Nat) (Option.none : Option Jvm.ClassFile.FieldType)) :: x_T) B.pre w (List.mem_cons_of_mem _ h)
  have hown : s.vm.findClass "java/util/ArrayList" = some m.cls := findClass_of_methodNamed B.named
  have hlocks := B.notSynchronized
  subst hsz
  subst hw0
  have hD := hD0.self (sz := s.heap.size)
  have hAN := x_AN hD0 hN0
  generalize hAe : va_A (y_W ad ar I T A O pl) s.heap.size = Bq at hD hAN ⊢
  have hA : ∀ q : Nat, s.heap.size ≤ q → Bq q := fun q h => by rw [← hAe]; exact Or.inr h
  have hS : va_S Bq s.heap s.heap [] := va_S.rf
  have hl := lv_entry ([.ref (ad 12)]) (n := 4) (Nat.le_of_ble_eq_true rfl)
  rw [lg_entry_eq]
  generalize (lg_sl ([.ref (ad 12)]) ++ List.replicate (4 - (lg_sl ([.ref (ad 12)])).length) Slot.unset).toArray = ls at hl ⊢
  have hl : lv_has ls 4 [(0, .ref (ad 12))] := hl
  have hcap := hmi.2.2.2.2.1
  dsimp only at hcap
  rcases hmi.2.2.1.2 with ⟨h1, h2, h3⟩ | ⟨a9, g9, ho9, hfa, hle9, h109, hz9, hel⟩
  · dsimp only at h2 h3
    refine lv_aload_n hx hb d_ArrayList_clear_0 rfl (lv_at hl 0 rfl) ?_
    refine lv_dup hx hb d_ArrayList_clear_1 rfl ?_
    refine k_g (C := "java/util/ArrayList") (F := F_List) (N := 3) hx hb hts i_List hown hK hP 12 2 (by decide) (by decide) rfl (by decide) (d := (1, 15)) rfl (hts _ k_117) (fun x9 h9 => u_same (hts _ k_118) x9 h9) (v := .int (I 15)) rfl d_ArrayList_clear_2 ?_
    refine lv_iconst (v := 1) hx hb d_ArrayList_clear_5 (by decide) ?_
    refine lv_iadd hx hb d_ArrayList_clear_6 ?_
    refine k_pi (C := "java/util/ArrayList") (F := F_List) (N := 3) hx hb hts i_List hown t_List t_List_ok n_List hK hP hD hS 12 2 (by decide) (by decide) rfl (by decide) (j := 15) (x := ((I 15) + 1)) rfl (hts _ k_117) (fun x9 h9 => u_same (hts _ k_118) x9 h9) rfl (by decide +kernel) d_ArrayList_clear_7 (fun H locs hP hD hS => ?_)
    refine lv_aload_n hx hb d_ArrayList_clear_10 rfl (lv_at hl 0 rfl) ?_
    refine k_g (C := "java/util/ArrayList") (F := F_List) (N := 3) hx hb hts i_List hown hK hP 12 0 (by decide) (by decide) rfl (by decide) (d := (3, 2)) rfl (hts _ k_114) (fun _ h9 => h9) (v := .ref (z 0)) (by show va_rf (O 2) = _; rw [h1]; rfl) d_ArrayList_clear_11 ?_
    refine lv_astore_n (lv' := [(1, .ref (z 0)), (0, .ref (ad 12))]) hx hb d_ArrayList_clear_14 rfl hl (by decide) rfl (fun ls hl => ?_)
    refine lv_aload_n hx hb d_ArrayList_clear_15 rfl (lv_at hl 1 rfl) ?_
    refine k_g (C := "java/util/ArrayList") (F := F_List) (N := 3) hx hb hts i_List hown hK hP 12 1 (by decide) (by decide) rfl (by decide) (d := (1, 14)) rfl (hts _ k_115) (fun _ h9 => h9) (v := .int (Int32.ofNat sn)) (congrArg Value.int hmi.2.2.1.1) d_ArrayList_clear_16 ?_
    refine lv_istore_n (lv' := [(2, .int (Int32.ofNat sn)), (1, .ref (z 0)), (0, .ref (ad 12))]) hx hb d_ArrayList_clear_19 rfl hl (by decide) rfl (fun ls hl => ?_)
    refine lv_aload_n hx hb d_ArrayList_clear_20 rfl (lv_at hl 2 rfl) ?_
    refine lv_iconst (v := 0) hx hb d_ArrayList_clear_21 (by decide) ?_
    refine lv_dup_x1 hx hb d_ArrayList_clear_22 rfl rfl ?_
    refine k_pi (C := "java/util/ArrayList") (F := F_List) (N := 3) hx hb hts i_List hown t_List t_List_ok n_List hK hP hD hS 12 1 (by decide) (by decide) rfl (by decide) (j := 14) (x := 0) rfl (hts _ k_115) (fun _ h9 => h9) rfl (by decide +kernel) d_ArrayList_clear_23 (fun H locs hP hD hS => ?_)
    refine W.eq (g2 := F0 m 26 ls [.int (Int32.ofNat 0)]) rfl ?_
    refine lv_istore_n (lv' := [(3, .int (Int32.ofNat 0)), (2, .int (Int32.ofNat sn)), (1, .ref (z 0)), (0, .ref (ad 12))]) hx hb d_ArrayList_clear_26 rfl hl (by decide) rfl (fun ls hl => ?_)
    refine lv_iload_n hx hb d_ArrayList_clear_27 rfl (lv_at hl 0 rfl) ?_
    refine lv_iload_n hx hb d_ArrayList_clear_28 rfl (lv_at hl 1 rfl) ?_
    refine lv_icmp_ge (tgt := 42) hx hb d_ArrayList_clear_29 (by decide) (fun c_1 => ?_) (fun c_1 => ?_)
    · have c_1 : sn ≤ 0 := (x_leN (a := sn) (b := 0) (by omega) (by omega)).mp c_1
      refine y_know (fun hy91 hy92 hy93 hy94 => ?_)
      have hac9 : y_ac (cq + cs) s.heap.size (y_hs s.heap) (cq + cs) H := ⟨by omega, by omega⟩
      refine W.widen (k := 0) (n := 0) (by omega) (by omega) ?_
      exact W.vret hx hb hr (fun t ht hW => ⟨⟨((upd (upd I 15 ((I 15) + 1)) 14 0), T, A, O, pl, (qn, 0, cq, cs)), rfl, ⟨(by obtain ⟨b1, b2, b3, b4, b5, b6, b7, b8⟩ := hmi; exact ⟨b1, b2, ⟨rfl, Or.inl ⟨h1, rfl, h3⟩⟩, b4, b5, b6, b7, b8⟩), rfl, ((m_fr.rf.up (by decide) _).up (by decide) _), rfl, rfl, rfl⟩, (by dsimp only; rw [ht]; exact ⟨hP, hD, hac9⟩)⟩, hS.F ht⟩) hS.2.2 d_ArrayList_clear_42
    · have c_1 : ¬ sn ≤ 0 := fun h9 => c_1 ((x_leN (a := sn) (b := 0) (by omega) (by omega)).mpr h9)
      exact absurd c_1 (by omega)
  · dsimp only at hfa hle9 h109 hel
    refine lv_aload_n hx hb d_ArrayList_clear_0 rfl (lv_at hl 0 rfl) ?_
    refine lv_dup hx hb d_ArrayList_clear_1 rfl ?_
    refine k_g (C := "java/util/ArrayList") (F := F_List) (N := 3) hx hb hts i_List hown hK hP 12 2 (by decide) (by decide) rfl (by decide) (d := (1, 15)) rfl (hts _ k_117) (fun x9 h9 => u_same (hts _ k_118) x9 h9) (v := .int (I 15)) rfl d_ArrayList_clear_2 ?_
    refine lv_iconst (v := 1) hx hb d_ArrayList_clear_5 (by decide) ?_
    refine lv_iadd hx hb d_ArrayList_clear_6 ?_
    refine k_pi (C := "java/util/ArrayList") (F := F_List) (N := 3) hx hb hts i_List hown t_List t_List_ok n_List hK hP hD hS 12 2 (by decide) (by decide) rfl (by decide) (j := 15) (x := ((I 15) + 1)) rfl (hts _ k_117) (fun x9 h9 => u_same (hts _ k_118) x9 h9) rfl (by decide +kernel) d_ArrayList_clear_7 (fun H locs hP hD hS => ?_)
    refine lv_aload_n hx hb d_ArrayList_clear_10 rfl (lv_at hl 0 rfl) ?_
    refine k_g (C := "java/util/ArrayList") (F := F_List) (N := 3) hx hb hts i_List hown hK hP 12 0 (by decide) (by decide) rfl (by decide) (d := (3, 2)) rfl (hts _ k_114) (fun _ h9 => h9) (v := .ref a9) (by show va_rf (O 2) = _; rw [ho9]; rfl) d_ArrayList_clear_11 ?_
    refine lv_astore_n (lv' := [(1, .ref a9), (0, .ref (ad 12))]) hx hb d_ArrayList_clear_14 rfl hl (by decide) rfl (fun ls hl => ?_)
    refine lv_aload_n hx hb d_ArrayList_clear_15 rfl (lv_at hl 1 rfl) ?_
    refine k_g (C := "java/util/ArrayList") (F := F_List) (N := 3) hx hb hts i_List hown hK hP 12 1 (by decide) (by decide) rfl (by decide) (d := (1, 14)) rfl (hts _ k_115) (fun _ h9 => h9) (v := .int (Int32.ofNat sn)) (congrArg Value.int hmi.2.2.1.1) d_ArrayList_clear_16 ?_
    refine lv_istore_n (lv' := [(2, .int (Int32.ofNat sn)), (1, .ref a9), (0, .ref (ad 12))]) hx hb d_ArrayList_clear_19 rfl hl (by decide) rfl (fun ls hl => ?_)
    refine lv_aload_n hx hb d_ArrayList_clear_20 rfl (lv_at hl 2 rfl) ?_
    refine lv_iconst (v := 0) hx hb d_ArrayList_clear_21 (by decide) ?_
    refine lv_dup_x1 hx hb d_ArrayList_clear_22 rfl rfl ?_
    refine k_pi (C := "java/util/ArrayList") (F := F_List) (N := 3) hx hb hts i_List hown t_List t_List_ok n_List hK hP hD hS 12 1 (by decide) (by decide) rfl (by decide) (j := 14) (x := 0) rfl (hts _ k_115) (fun _ h9 => h9) rfl (by decide +kernel) d_ArrayList_clear_23 (fun H locs hP hD hS => ?_)
    refine W.eq (g2 := F0 m 26 ls [.int (Int32.ofNat 0)]) rfl ?_
    refine lv_istore_n (lv' := [(3, .int (Int32.ofNat 0)), (2, .int (Int32.ofNat sn)), (1, .ref a9), (0, .ref (ad 12))]) hx hb d_ArrayList_clear_26 rfl hl (by decide) rfl (fun ls hl => ?_)
    refine x_while (fun n H locs ls => ∃ (pl1 : va_W) (g1 : Nat → Option Nat) (i1 : Nat), n = sn - i1 ∧ i1 ≤ sn ∧ y_L pl1 a9 = some (.inl (ar 5, cs, .inr (.inr (.inr (.inr g1))))) ∧ (∀ b, b ≠ a9 → y_L pl1 b = y_L pl b) ∧ va_P (dC, dI) y_cl (y_W ad ar (upd (upd I 15 ((I 15) + 1)) 14 0) T A O pl1) H ∧ va_D Bq (y_W ad ar (upd (upd I 15 ((I 15) + 1)) 14 0) T A O pl1) ∧ va_S Bq s.heap H locs ∧ lv_has ls 4 [(0, .ref (ad 12)), (1, .ref a9), (2, .int (Int32.ofNat sn)), (3, .int (Int32.ofNat i1))]) (fun n ih H locs ls h9 => ?_) ⟨pl, g9, 0, rfl, Nat.zero_le _, hfa, fun _ _ => rfl, hP, hD, hS, lv_sub hl [3, 2, 1, 0] rfl⟩
    obtain ⟨pl1, g1, i1, hn9, q1, hfa1, hoth, hP, hD, hS, hl⟩ := h9
    refine lv_iload_n hx hb d_ArrayList_clear_27 rfl (lv_at hl 3 rfl) ?_
    refine lv_iload_n hx hb d_ArrayList_clear_28 rfl (lv_at hl 2 rfl) ?_
    refine lv_icmp_ge (tgt := 42) hx hb d_ArrayList_clear_29 (by decide) (fun c_2 => ?_) (fun c_2 => ?_)
    · have c_2 : sn ≤ i1 := (x_leN (a := sn) (b := i1) (by omega) (by omega)).mp c_2
      refine y_know (fun hy91 hy92 hy93 hy94 => ?_)
      have hac9 : y_ac (cq + cs) s.heap.size (y_hs s.heap) (cq + cs) H := ⟨by omega, by omega⟩
      refine W.widen (k := 0) (n := 0) (by omega) (by omega) ?_
      exact W.vret hx hb hr (fun t ht hW => ⟨⟨((upd (upd I 15 ((I 15) + 1)) 14 0), T, A, O, pl1, (qn, 0, cq, cs)), rfl, ⟨(by show y_MI z ar G C Gs (upd (upd I 15 ((I 15) + 1)) 14 0) O (y_L pl1) (qn, 0, cq, cs); rw [y_Lu_eq hfa1 hoth]; exact hmi.row12 (Or.inr ⟨ho9, _, _, _, hfa⟩) ho9 rfl (fun k hk => rfl) rfl rfl rfl rfl (Nat.zero_le _) (by omega) hz9 (by omega) (fun j hj => absurd hj (Nat.not_lt_zero j))), rfl, ((m_fr.rf.up (by decide) _).up (by decide) _), rfl, rfl, rfl⟩, (by dsimp only; rw [ht]; exact ⟨hP, hD, hac9⟩)⟩, hS.F ht⟩) hS.2.2 d_ArrayList_clear_42
    · have c_2 : ¬ sn ≤ i1 := fun h9 => c_2 ((x_leN (a := sn) (b := i1) (by omega) (by omega)).mpr h9)
      refine lv_aload_n hx hb d_ArrayList_clear_32 rfl (lv_at hl 1 rfl) ?_
      refine lv_iload_n hx hb d_ArrayList_clear_33 rfl (lv_at hl 3 rfl) ?_
      refine lv_null hx hb d_ArrayList_clear_34 ?_
      refine d_aastN hx hb hK hP hD hS hfa1 (j := Int32.ofNat i1) (x_inN (by omega) (by omega)) d_ArrayList_clear_35 (fun pl2 H locs hL2 hP hD hS => ?_)
      refine lv_iinc (v := (Int32.ofNat (i1 + 1))) (lv' := [(3, .int (Int32.ofNat (i1 + 1))), (0, .ref (ad 12)), (1, .ref a9), (2, .int (Int32.ofNat sn))]) hx hb d_ArrayList_clear_36 hl (k := 3) rfl (x_incN i1) (by decide) rfl (fun ls hl => ?_)
      refine lv_goto (tgt := 27) hx hb d_ArrayList_clear_39 (by decide) ?_
      exact ih (sn - (i1 + 1)) (by omega) H locs ls ⟨pl2, _, i1 + 1, rfl, by omega, by rw [hL2]; exact y_Lu_s, fun b hb => by (rw [hL2, y_Lu_n hb]; exact hoth b hb), hP, hD, hS, lv_sub hl [1, 2, 3, 0] rfl⟩
