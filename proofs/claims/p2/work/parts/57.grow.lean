-- ===== 57.grow: grow, output of the reference, by program =====
theorem k_1008 : (Jvm.Cond.fieldLink "ChannelMachineModel" (100 : Nat) "ChannelMachineModel" "box" "[I") ∈ x_T := x_at 1008 (by decide +kernel) (by decide +kernel)
theorem k_1010 : (Jvm.Cond.fieldLink "ChannelMachineModel" (195 : Nat) "ChannelMachineModel" "boxed" "I") ∈ x_T := x_at 1010 (by decide +kernel) (by decide +kernel)
theorem k_1221 : (Jvm.Cond.constantLong "ChannelMachineModel" (224 : Nat) (-1 : Int64)) ∈ x_T := x_at 1221 (by decide +kernel) (by decide +kernel)
theorem k_1222 : (Jvm.Cond.methodLink "ChannelMachineModel" (226 : Nat) ({ cls := "ChannelMachineModel", name := "due", desc := "()I" } : Jvm.MethodName)) ∈ x_T := x_at 1222 (by decide +kernel) (by decide +kernel)
theorem k_1224 : (Jvm.Cond.instanceMethod ({ cls := "ChannelMachineModel", name := "due", desc := "()I" } : Jvm.MethodName)) ∈ x_T := x_at 1224 (by decide +kernel) (by decide +kernel)
theorem k_1225 : (Jvm.Cond.code ({ cls := "ChannelMachineModel", name := "due", desc := "()I" } : Jvm.MethodName) prog_12_method_30_code (3 : Nat) (Option.some Jvm.ClassFile.FieldType.int)) ∈ x_T := x_at 1225 (by decide +kernel) (by decide +kernel)
theorem k_1246 : (Jvm.Cond.methodLink "ChannelMachineModel" (236 : Nat) ({ cls := "ChannelMachineModel", name := "hand", desc := "(II)V" } : Jvm.MethodName)) ∈ x_T := x_at 1246 (by decide +kernel) (by decide +kernel)
theorem k_1248 : (Jvm.Cond.instanceMethod ({ cls := "ChannelMachineModel", name := "hand", desc := "(II)V" } : Jvm.MethodName)) ∈ x_T := x_at 1248 (by decide +kernel) (by decide +kernel)
theorem k_1249 : (Jvm.Cond.code ({ cls := "ChannelMachineModel", name := "hand", desc := "(II)V" } : Jvm.MethodName) prog_12_method_36_code (5 : Nat) (Option.none : Option Jvm.ClassFile.FieldType)) ∈ x_T := x_at 1249 (by decide +kernel) (by decide +kernel)
theorem kp_70 : (Jvm.Cond.selects "ChannelMachineModel" ({ cls := "ChannelMachineModel", name := "due", desc := "()I" } : Jvm.MethodName) ({ cls := "ChannelMachineModel", name := "due", desc := "()I" } : Jvm.MethodName)) ∈ x_T := x_sel (q := (({ cls := "ChannelMachineModel", name := "due", desc := "()I" } : Jvm.MethodName), 45)) 70 (by decide +kernel) (by decide +kernel)
theorem kp_76 : (Jvm.Cond.selects "ChannelMachineModel" ({ cls := "ChannelMachineModel", name := "hand", desc := "(II)V" } : Jvm.MethodName) ({ cls := "ChannelMachineModel", name := "hand", desc := "(II)V" } : Jvm.MethodName)) ∈ x_T := x_sel (q := (({ cls := "ChannelMachineModel", name := "hand", desc := "(II)V" } : Jvm.MethodName), 45)) 76 (by decide +kernel) (by decide +kernel)
theorem d_Mo_grow_0 : decode prog_12_method_29_code 0 = .ok (.ldc2_w 224, 3) := by decide +kernel
theorem d_Mo_grow_3 : decode prog_12_method_29_code 3 = .ok (.lstore_n 1, 1) := by decide +kernel
theorem d_Mo_grow_4 : decode prog_12_method_29_code 4 = .ok (.iconst 0, 1) := by decide +kernel
theorem d_Mo_grow_5 : decode prog_12_method_29_code 5 = .ok (.istore_n 3, 1) := by decide +kernel
theorem d_Mo_grow_6 : decode prog_12_method_29_code 6 = .ok (.iload_n 3, 1) := by decide +kernel
theorem d_Mo_grow_7 : decode prog_12_method_29_code 7 = .ok (.bipush 90, 2) := by decide +kernel
theorem d_Mo_grow_9 : decode prog_12_method_29_code 9 = .ok (.if_icmp .ge 51, 3) := by decide +kernel
theorem d_Mo_grow_12 : decode prog_12_method_29_code 12 = .ok (.aload_n 0, 1) := by decide +kernel
theorem d_Mo_grow_13 : decode prog_12_method_29_code 13 = .ok (.getfield 73, 3) := by decide +kernel
theorem d_Mo_grow_16 : decode prog_12_method_29_code 16 = .ok (.iload_n 3, 1) := by decide +kernel
theorem d_Mo_grow_17 : decode prog_12_method_29_code 17 = .ok (.baload, 1) := by decide +kernel
theorem d_Mo_grow_18 : decode prog_12_method_29_code 18 = .ok (.ifCond .eq 36, 3) := by decide +kernel
theorem d_Mo_grow_21 : decode prog_12_method_29_code 21 = .ok (.aload_n 0, 1) := by decide +kernel
theorem d_Mo_grow_22 : decode prog_12_method_29_code 22 = .ok (.getfield 76, 3) := by decide +kernel
theorem d_Mo_grow_25 : decode prog_12_method_29_code 25 = .ok (.iload_n 3, 1) := by decide +kernel
theorem d_Mo_grow_26 : decode prog_12_method_29_code 26 = .ok (.baload, 1) := by decide +kernel
theorem d_Mo_grow_27 : decode prog_12_method_29_code 27 = .ok (.ifCond .eq 27, 3) := by decide +kernel
theorem d_Mo_grow_30 : decode prog_12_method_29_code 30 = .ok (.lload_n 1, 1) := by decide +kernel
theorem d_Mo_grow_31 : decode prog_12_method_29_code 31 = .ok (.lconst 0, 1) := by decide +kernel
theorem d_Mo_grow_32 : decode prog_12_method_29_code 32 = .ok (.lcmp, 1) := by decide +kernel
theorem d_Mo_grow_33 : decode prog_12_method_29_code 33 = .ok (.ifCond .lt 14, 3) := by decide +kernel
theorem d_Mo_grow_36 : decode prog_12_method_29_code 36 = .ok (.aload_n 0, 1) := by decide +kernel
theorem d_Mo_grow_37 : decode prog_12_method_29_code 37 = .ok (.getfield 69, 3) := by decide +kernel
theorem d_Mo_grow_40 : decode prog_12_method_29_code 40 = .ok (.iload_n 3, 1) := by decide +kernel
theorem d_Mo_grow_41 : decode prog_12_method_29_code 41 = .ok (.laload, 1) := by decide +kernel
theorem d_Mo_grow_42 : decode prog_12_method_29_code 42 = .ok (.lload_n 1, 1) := by decide +kernel
theorem d_Mo_grow_43 : decode prog_12_method_29_code 43 = .ok (.lcmp, 1) := by decide +kernel
theorem d_Mo_grow_44 : decode prog_12_method_29_code 44 = .ok (.ifCond .ge 10, 3) := by decide +kernel
theorem d_Mo_grow_47 : decode prog_12_method_29_code 47 = .ok (.aload_n 0, 1) := by decide +kernel
theorem d_Mo_grow_48 : decode prog_12_method_29_code 48 = .ok (.getfield 69, 3) := by decide +kernel
theorem d_Mo_grow_51 : decode prog_12_method_29_code 51 = .ok (.iload_n 3, 1) := by decide +kernel
theorem d_Mo_grow_52 : decode prog_12_method_29_code 52 = .ok (.laload, 1) := by decide +kernel
theorem d_Mo_grow_53 : decode prog_12_method_29_code 53 = .ok (.lstore_n 1, 1) := by decide +kernel
theorem d_Mo_grow_54 : decode prog_12_method_29_code 54 = .ok (.iinc 3 1, 3) := by decide +kernel
theorem d_Mo_grow_57 : decode prog_12_method_29_code 57 = .ok (.goto (-51), 3) := by decide +kernel
theorem d_Mo_grow_60 : decode prog_12_method_29_code 60 = .ok (.lload_n 1, 1) := by decide +kernel
theorem d_Mo_grow_61 : decode prog_12_method_29_code 61 = .ok (.lconst 0, 1) := by decide +kernel
theorem d_Mo_grow_62 : decode prog_12_method_29_code 62 = .ok (.lcmp, 1) := by decide +kernel
theorem d_Mo_grow_63 : decode prog_12_method_29_code 63 = .ok (.ifCond .ge 5, 3) := by decide +kernel
theorem d_Mo_grow_66 : decode prog_12_method_29_code 66 = .ok (.iconst 0, 1) := by decide +kernel
theorem d_Mo_grow_67 : decode prog_12_method_29_code 67 = .ok (.ireturn, 1) := by decide +kernel
theorem d_Mo_grow_68 : decode prog_12_method_29_code 68 = .ok (.aload_n 0, 1) := by decide +kernel
theorem d_Mo_grow_69 : decode prog_12_method_29_code 69 = .ok (.lload_n 1, 1) := by decide +kernel
theorem d_Mo_grow_70 : decode prog_12_method_29_code 70 = .ok (.putfield 204, 3) := by decide +kernel
theorem d_Mo_grow_73 : decode prog_12_method_29_code 73 = .ok (.aload_n 0, 1) := by decide +kernel
theorem d_Mo_grow_74 : decode prog_12_method_29_code 74 = .ok (.invokevirtual 226, 3) := by decide +kernel
theorem d_Mo_grow_77 : decode prog_12_method_29_code 77 = .ok (.istore_n 3, 1) := by decide +kernel
theorem d_Mo_grow_78 : decode prog_12_method_29_code 78 = .ok (.iconst 0, 1) := by decide +kernel
theorem d_Mo_grow_79 : decode prog_12_method_29_code 79 = .ok (.istore 4, 2) := by decide +kernel
theorem d_Mo_grow_81 : decode prog_12_method_29_code 81 = .ok (.iload 4, 2) := by decide +kernel
theorem d_Mo_grow_83 : decode prog_12_method_29_code 83 = .ok (.bipush 90, 2) := by decide +kernel
theorem d_Mo_grow_85 : decode prog_12_method_29_code 85 = .ok (.if_icmp .ge 30, 3) := by decide +kernel
theorem d_Mo_grow_88 : decode prog_12_method_29_code 88 = .ok (.iload_n 3, 1) := by decide +kernel
theorem d_Mo_grow_89 : decode prog_12_method_29_code 89 = .ok (.ifCond .lt 26, 3) := by decide +kernel
theorem d_Mo_grow_92 : decode prog_12_method_29_code 92 = .ok (.aload_n 0, 1) := by decide +kernel
theorem d_Mo_grow_93 : decode prog_12_method_29_code 93 = .ok (.getfield 76, 3) := by decide +kernel
theorem d_Mo_grow_96 : decode prog_12_method_29_code 96 = .ok (.iload_n 3, 1) := by decide +kernel
theorem d_Mo_grow_97 : decode prog_12_method_29_code 97 = .ok (.iconst 0, 1) := by decide +kernel
theorem d_Mo_grow_98 : decode prog_12_method_29_code 98 = .ok (.bastore, 1) := by decide +kernel
theorem d_Mo_grow_99 : decode prog_12_method_29_code 99 = .ok (.aload_n 0, 1) := by decide +kernel
theorem d_Mo_grow_100 : decode prog_12_method_29_code 100 = .ok (.iload_n 3, 1) := by decide +kernel
theorem d_Mo_grow_101 : decode prog_12_method_29_code 101 = .ok (.invokevirtual 214, 3) := by decide +kernel
theorem d_Mo_grow_104 : decode prog_12_method_29_code 104 = .ok (.aload_n 0, 1) := by decide +kernel
theorem d_Mo_grow_105 : decode prog_12_method_29_code 105 = .ok (.invokevirtual 226, 3) := by decide +kernel
theorem d_Mo_grow_108 : decode prog_12_method_29_code 108 = .ok (.istore_n 3, 1) := by decide +kernel
theorem d_Mo_grow_109 : decode prog_12_method_29_code 109 = .ok (.iinc 4 1, 3) := by decide +kernel
theorem d_Mo_grow_112 : decode prog_12_method_29_code 112 = .ok (.goto (-31), 3) := by decide +kernel
theorem d_Mo_grow_115 : decode prog_12_method_29_code 115 = .ok (.iconst 1, 1) := by decide +kernel
theorem d_Mo_grow_116 : decode prog_12_method_29_code 116 = .ok (.ireturn, 1) := by decide +kernel
theorem d_Mo_output_0 : decode prog_12_method_37_code 0 = .ok (.aload_n 0, 1) := by decide +kernel
theorem d_Mo_output_1 : decode prog_12_method_37_code 1 = .ok (.getfield 51, 3) := by decide +kernel
theorem d_Mo_output_4 : decode prog_12_method_37_code 4 = .ok (.iload_n 1, 1) := by decide +kernel
theorem d_Mo_output_5 : decode prog_12_method_37_code 5 = .ok (.aload_n 0, 1) := by decide +kernel
theorem d_Mo_output_6 : decode prog_12_method_37_code 6 = .ok (.getfield 233, 3) := by decide +kernel
theorem d_Mo_output_9 : decode prog_12_method_37_code 9 = .ok (.iastore, 1) := by decide +kernel
theorem d_Mo_output_10 : decode prog_12_method_37_code 10 = .ok (.iload_n 2, 1) := by decide +kernel
theorem d_Mo_output_11 : decode prog_12_method_37_code 11 = .ok (.iconst 5, 1) := by decide +kernel
theorem d_Mo_output_12 : decode prog_12_method_37_code 12 = .ok (.if_icmp .ne 35, 3) := by decide +kernel
theorem d_Mo_output_15 : decode prog_12_method_37_code 15 = .ok (.aload_n 0, 1) := by decide +kernel
theorem d_Mo_output_16 : decode prog_12_method_37_code 16 = .ok (.getfield 195, 3) := by decide +kernel
theorem d_Mo_output_19 : decode prog_12_method_37_code 19 = .ok (.bipush 8, 2) := by decide +kernel
theorem d_Mo_output_21 : decode prog_12_method_37_code 21 = .ok (.if_icmp .ge 26, 3) := by decide +kernel
theorem d_Mo_output_24 : decode prog_12_method_37_code 24 = .ok (.aload_n 0, 1) := by decide +kernel
theorem d_Mo_output_25 : decode prog_12_method_37_code 25 = .ok (.getfield 100, 3) := by decide +kernel
theorem d_Mo_output_28 : decode prog_12_method_37_code 28 = .ok (.aload_n 0, 1) := by decide +kernel
theorem d_Mo_output_29 : decode prog_12_method_37_code 29 = .ok (.getfield 195, 3) := by decide +kernel
theorem d_Mo_output_32 : decode prog_12_method_37_code 32 = .ok (.iload_n 3, 1) := by decide +kernel
theorem d_Mo_output_33 : decode prog_12_method_37_code 33 = .ok (.iastore, 1) := by decide +kernel
theorem d_Mo_output_34 : decode prog_12_method_37_code 34 = .ok (.aload_n 0, 1) := by decide +kernel
theorem d_Mo_output_35 : decode prog_12_method_37_code 35 = .ok (.dup, 1) := by decide +kernel
theorem d_Mo_output_36 : decode prog_12_method_37_code 36 = .ok (.getfield 195, 3) := by decide +kernel
theorem d_Mo_output_39 : decode prog_12_method_37_code 39 = .ok (.iconst 1, 1) := by decide +kernel
theorem d_Mo_output_40 : decode prog_12_method_37_code 40 = .ok (.iadd, 1) := by decide +kernel
theorem d_Mo_output_41 : decode prog_12_method_37_code 41 = .ok (.putfield 195, 3) := by decide +kernel
theorem d_Mo_output_44 : decode prog_12_method_37_code 44 = .ok (.goto 62, 3) := by decide +kernel
theorem d_Mo_output_47 : decode prog_12_method_37_code 47 = .ok (.iload_n 2, 1) := by decide +kernel
theorem d_Mo_output_48 : decode prog_12_method_37_code 48 = .ok (.iconst 5, 1) := by decide +kernel
theorem d_Mo_output_49 : decode prog_12_method_37_code 49 = .ok (.if_icmp .eq 21, 3) := by decide +kernel
theorem d_Mo_output_52 : decode prog_12_method_37_code 52 = .ok (.aload_n 0, 1) := by decide +kernel
theorem d_Mo_output_53 : decode prog_12_method_37_code 53 = .ok (.getfield 82, 3) := by decide +kernel
theorem d_Mo_output_56 : decode prog_12_method_37_code 56 = .ok (.iload_n 2, 1) := by decide +kernel
theorem d_Mo_output_57 : decode prog_12_method_37_code 57 = .ok (.iaload, 1) := by decide +kernel
theorem d_Mo_output_58 : decode prog_12_method_37_code 58 = .ok (.ifCond .lt 12, 3) := by decide +kernel
theorem d_Mo_output_61 : decode prog_12_method_37_code 61 = .ok (.aload_n 0, 1) := by decide +kernel
theorem d_Mo_output_62 : decode prog_12_method_37_code 62 = .ok (.iload_n 2, 1) := by decide +kernel
theorem d_Mo_output_63 : decode prog_12_method_37_code 63 = .ok (.iload_n 3, 1) := by decide +kernel
theorem d_Mo_output_64 : decode prog_12_method_37_code 64 = .ok (.invokevirtual 236, 3) := by decide +kernel
theorem d_Mo_output_67 : decode prog_12_method_37_code 67 = .ok (.goto 39, 3) := by decide +kernel
theorem d_Mo_output_70 : decode prog_12_method_37_code 70 = .ok (.aload_n 0, 1) := by decide +kernel
theorem d_Mo_output_71 : decode prog_12_method_37_code 71 = .ok (.getfield 91, 3) := by decide +kernel
theorem d_Mo_output_74 : decode prog_12_method_37_code 74 = .ok (.iload_n 2, 1) := by decide +kernel
theorem d_Mo_output_75 : decode prog_12_method_37_code 75 = .ok (.iaload, 1) := by decide +kernel
theorem d_Mo_output_76 : decode prog_12_method_37_code 76 = .ok (.ifCond .lt 11, 3) := by decide +kernel
theorem d_Mo_output_79 : decode prog_12_method_37_code 79 = .ok (.aload_n 0, 1) := by decide +kernel
theorem d_Mo_output_80 : decode prog_12_method_37_code 80 = .ok (.iconst 2, 1) := by decide +kernel
theorem d_Mo_output_81 : decode prog_12_method_37_code 81 = .ok (.putfield 103, 3) := by decide +kernel
theorem d_Mo_output_84 : decode prog_12_method_37_code 84 = .ok (.goto 22, 3) := by decide +kernel
theorem d_Mo_output_87 : decode prog_12_method_37_code 87 = .ok (.aload_n 0, 1) := by decide +kernel
theorem d_Mo_output_88 : decode prog_12_method_37_code 88 = .ok (.getfield 91, 3) := by decide +kernel
theorem d_Mo_output_91 : decode prog_12_method_37_code 91 = .ok (.iload_n 2, 1) := by decide +kernel
theorem d_Mo_output_92 : decode prog_12_method_37_code 92 = .ok (.iload_n 1, 1) := by decide +kernel
theorem d_Mo_output_93 : decode prog_12_method_37_code 93 = .ok (.iastore, 1) := by decide +kernel
theorem d_Mo_output_94 : decode prog_12_method_37_code 94 = .ok (.aload_n 0, 1) := by decide +kernel
theorem d_Mo_output_95 : decode prog_12_method_37_code 95 = .ok (.getfield 94, 3) := by decide +kernel
theorem d_Mo_output_98 : decode prog_12_method_37_code 98 = .ok (.iload_n 2, 1) := by decide +kernel
theorem d_Mo_output_99 : decode prog_12_method_37_code 99 = .ok (.iload_n 3, 1) := by decide +kernel
theorem d_Mo_output_100 : decode prog_12_method_37_code 100 = .ok (.iastore, 1) := by decide +kernel
theorem d_Mo_output_101 : decode prog_12_method_37_code 101 = .ok (.aload_n 0, 1) := by decide +kernel
theorem d_Mo_output_102 : decode prog_12_method_37_code 102 = .ok (.iconst (-1), 1) := by decide +kernel
theorem d_Mo_output_103 : decode prog_12_method_37_code 103 = .ok (.putfield 79, 3) := by decide +kernel
theorem d_Mo_output_106 : decode prog_12_method_37_code 106 = .ok (.return_, 1) := by decide +kernel
set_option maxHeartbeats 4000000 in
set_option maxRecDepth 100000 in
theorem m_grow (l : Launch) (dC : Nat → ClassId) (dI : Nat → Nat → Nat) (ar : Nat → ClassId) (N0 : Nat) (z : Nat → Nat) (h0 : Nat) (ad : Nat → Nat) (I : Nat → Int32) (T : Int64) (A : Nat → Nat → Int32) (U : Nat → Int64)  (sz : Nat) (hrun : m_RUN I A) (h30 : I 30 = -1) : Met l ({ cls := "ChannelMachineModel", name := "grow", desc := "()Z" } : Jvm.MethodName) ((Jvm.Cond.code ({ cls := "ChannelMachineModel", name := "grow", desc := "()Z" } : Jvm.MethodName) prog_12_method_29_code (5 : Nat) (Option.some Jvm.ClassFile.FieldType.boolean)) :: x_T) ({ frames := 1, cells := 0, slots := 0, locals := 22 }) (x_Pc (dC, dI) ar N0 z (m_W h0 ad ar I T A U) sz [.ref h0]) (va_Qi (fun (r : Int32) (u : (Nat → Int32) × Int64 × (Nat → Nat → Int32) × (Nat → Int64)) => (r = 0 ∧ u = (I, T, A, U)) ∨ (r = 1 ∧ m_fr [29] I u.1 ∧ m_fa [24, 28] A u.2.2.1 ∧ u.2.2.2 = U ∧ m_RUN u.1 u.2.2.1 ∧ m_tc (u.2.2.1 27) (u.2.2.1 28) 90 < m_tc (A 27) (A 28) 90)) (fun u t => va_P (dC, dI) x_cl (m_W h0 ad ar u.1 u.2.1 u.2.2.1 u.2.2.2) t.heap) (va_A (m_W h0 ad ar I T A U) sz)) 0 0 (va_A (m_W h0 ad ar I T A U) sz) := by
  refine Met.ofW (cc := prog_12_method_29_code) (maxL := 5) (ret := (some .boolean)) (by decide) rfl ?_
  intro p e s m args below meth c s₁ B hml hv
  obtain ⟨rfl, hsz, hN0, hP, hU, hZ, hD0⟩ := hv
  have hK := hU.1
  have hx := B.exec
  have hb := B.bytes
  have hr := B.returns
  have hts : ∀ w ∈ x_T, w.before ([.ref h0] : List Value).toArray s = true := fun w h => atoms_spec (ws := (Jvm.Cond.code ({ cls := "ChannelMachineModel", name := "grow", desc := "()Z" } : Jvm.MethodName) prog_12_method_29_code (5 : Nat) (Option.some Jvm.ClassFile.FieldType.boolean)) :: x_T) B.pre w (List.mem_cons_of_mem _ h)
  have hown : s.vm.findClass "ChannelMachineModel" = some m.cls := findClass_of_methodNamed B.named
  have hlocks := B.notSynchronized
  subst hsz
  have hD := hD0.self (sz := s.heap.size)
  have hAN := x_AN hD0 hN0
  generalize hAe : va_A (m_W h0 ad ar I T A U) s.heap.size = Bq at hD hAN ⊢
  have hA : ∀ q : Nat, s.heap.size ≤ q → Bq q := fun q h => by rw [← hAe]; exact Or.inr h
  have hS : va_S Bq s.heap s.heap [] := va_S.rf
  have hl := lv_entry ([.ref h0]) (n := 5) (Nat.le_of_ble_eq_true rfl)
  rw [lg_entry_eq]
  generalize (lg_sl ([.ref h0]) ++ List.replicate (5 - (lg_sl ([.ref h0])).length) Slot.unset).toArray = ls at hl ⊢
  have hl : lv_has ls 5 [(0, .ref h0)] := hl
  refine lv_ldc2 (v := (-1 : Int64)) hx hb hown (hts _ k_1221) d_Mo_grow_0 ?_
  refine lv_lstore_n (lv' := [(1, .long (-1)), (0, .ref h0)]) hx hb d_Mo_grow_3 rfl hl (by decide) rfl (fun ls hl => ?_)
  refine lv_iconst (v := 0) hx hb d_Mo_grow_4 (by decide) ?_
  refine W.eq (g2 := F0 m 5 ls [.int (Int32.ofNat 0)]) rfl ?_
  refine lv_istore_n (lv' := [(3, .int (Int32.ofNat 0)), (1, .long (-1)), (0, .ref h0)]) hx hb d_Mo_grow_5 rfl hl (by decide) rfl (fun ls hl => ?_)
  refine x_while (fun n H locs ls => ∃ (lv : Int64) (t1 : Nat), n = 90 - t1 ∧ t1 ≤ 90 ∧ (lv = -1 ∨ ∃ t0 : Nat, t0 < 90 ∧ ¬ A 27 t0 = 0 ∧ ¬ A 28 t0 = 0 ∧ U t0 = lv) ∧ va_P (dC, dI) x_cl (m_W h0 ad ar I T A U) H ∧ va_D Bq (m_W h0 ad ar I T A U) ∧ va_S Bq s.heap H locs ∧ lv_has ls 5 [(0, .ref h0), (1, .long lv), (3, .int (Int32.ofNat t1))]) (fun n ih H locs ls h9 => ?_) ⟨-1, 0, rfl, Nat.zero_le _, Or.inl rfl, hP, hD, hS, lv_sub hl [2, 1, 0] rfl⟩
  obtain ⟨lv, t1, hn9, q1, hf, hP, hD, hS, hl⟩ := h9
  refine lv_iload_n hx hb d_Mo_grow_6 rfl (lv_at hl 2 rfl) ?_
  refine lv_bipush (v := 90) hx hb d_Mo_grow_7 (by decide) ?_
  refine lv_icmp_ge (tgt := 60) hx hb d_Mo_grow_9 (by decide) (fun c_1 => ?_) (fun c_1 => ?_)
  · have c_1 : 90 ≤ t1 := (x_leN (a := 90) (b := t1) (by omega) (by omega)).mp c_1
    refine lv_lload_n hx hb d_Mo_grow_60 rfl (lv_at hl 1 rfl) ?_
    refine lv_lconst (v := 0) hx hb d_Mo_grow_61 (by decide) ?_
    refine x_lcmp hx hb d_Mo_grow_62 (fun v_2 hv_2 => ?_)
    refine lv_if_ge (tgt := 68) hx hb d_Mo_grow_63 (by decide) (fun c_3 => ?_) (fun c_3 => ?_)
    · obtain ⟨t0, ht0, hf1, hf2, hU0⟩ : ∃ t0 : Nat, t0 < 90 ∧ ¬ A 27 t0 = 0 ∧ ¬ A 28 t0 = 0 ∧ U t0 = lv := by
        rcases hf with rfl | hf
        · exact absurd (x_lc.n (y := 0) hv_2) (by have h9 := c_3; first | exact h9 | (rw [x_lt]; rw [x_le] at h9; exact Int.not_lt.mpr h9))
        · exact hf
      refine lv_aload_n hx hb d_Mo_grow_68 rfl (lv_at hl 0 rfl) ?_
      refine lv_lload_n hx hb d_Mo_grow_69 rfl (lv_at hl 1 rfl) ?_
      refine m_pt hx hb hts hown hK hP hD hS (hts _ k_1001) d_Mo_grow_70 (fun H locs hP hD hS => ?_)
      refine lv_aload_n hx hb d_Mo_grow_73 rfl (lv_at hl 0 rfl) ?_
      have hFc := m_free hD hS hA
      refine va_calli (va_runV (As := []) (rest := []) ⟨hx, hb, hml, hown, hts⟩ (m_due l dC dI ar N0 z h0 ad I lv A U  H.size ) (cwV 0 hts (x_goodV k_1222 k_1224 kp_70 k_9 k_1225) rfl rfl rfl (by decide +kernel) ⟨Nat.le_of_ble_eq_true rfl, Nat.le_of_ble_eq_true rfl⟩) ⟨x_blind, va_recv hK hP (ci := 6) (q0 := 0) rfl rfl, fun U9 hU9 hW9 => x_pre hU9 hW9 hP hD hU hZ hS hAN hN0⟩ rfl rfl hl.1 rfl (lv_room (Nat.le_of_ble_eq_true rfl)) d_Mo_grow_74 ⟨Nat.le_of_ble_eq_true rfl, Nat.le_of_ble_eq_true rfl⟩) hS (fun q _ h => hFc q h) hFc (fun r_4 u t H1 locs ht hvm hw hB hz1 hk1 hS => ?_)
      obtain ⟨I6, T6, A6, U6⟩ := u
      dsimp only at hw hB
      rw [ht] at hB
      have hP : va_P (dC, dI) x_cl (m_W h0 ad ar I6 T6 A6 U6) H1 := hB
      have hD : va_D Bq (m_W h0 ad ar I6 T6 A6 U6) := m_D hD
      generalize H1 = H at hP hS ⊢
      refine W.widen (k := 0) (n := 0) (Nat.le_of_ble_eq_true rfl) (Nat.le_of_ble_eq_true rfl) ?_
      obtain ⟨h9, hw⟩ := hw
      cases h9
      rcases hw with ⟨rfl, hno⟩ | ⟨t5, ht5, rfl, hf5, hf6⟩
      · exact absurd hU0 (hno t0 ht0 hf1 hf2)
      · refine lv_istore_n (lv' := [(3, .int (Int32.ofNat t5)), (0, .ref h0), (1, .long lv)]) hx hb d_Mo_grow_77 rfl hl (by decide) rfl (fun ls hl => ?_)
        refine lv_iconst (v := 0) hx hb d_Mo_grow_78 (by decide) ?_
        refine W.eq (g2 := F0 m 79 ls [.int (Int32.ofNat 0)]) rfl ?_
        refine lv_istore (lv' := [(4, .int (Int32.ofNat 0)), (3, .int (Int32.ofNat t5)), (0, .ref h0), (1, .long lv)]) hx hb d_Mo_grow_79 hl (by decide) rfl (fun ls hl => ?_)
        obtain ⟨V, own, pown, bl, role, k9, q, pn, br, st, i29, hri, hcu⟩ := hrun
        refine x_while (fun n H locs ls => ∃ (I1 : Nat → Int32) (A1 : Nat → Nat → Int32) (tv : Int32) (j1 q : Nat) (st : Nat → Nat), n = 90 - j1 ∧ j1 ≤ 90 ∧ m_fr [29] I I1 ∧ m_fa [24, 28] A A1 ∧ I1 29 = Int32.ofNat q ∧ m_RI A1 q V own pown bl role k9 pn br st ∧ (j1 = 0 → ¬ tv = -1) ∧ m_tc (A1 27) (A1 28) 90 ≤ m_tc (A 27) (A 28) 90 ∧ (1 ≤ j1 → m_tc (A1 27) (A1 28) 90 < m_tc (A 27) (A 28) 90) ∧ (tv = -1 ∨ ∃ t0 : Nat, t0 < 90 ∧ tv = Int32.ofNat t0 ∧ ¬ A1 27 t0 = 0 ∧ ¬ A1 28 t0 = 0) ∧ va_P (dC, dI) x_cl (m_W h0 ad ar I1 lv A1 U) H ∧ va_D Bq (m_W h0 ad ar I1 lv A1 U) ∧ va_S Bq s.heap H locs ∧ lv_has ls 5 [(0, .ref h0), (3, .int tv), (4, .int (Int32.ofNat j1))]) (fun n ih H locs ls h9 => ?_) ⟨I, A, _, 0, q, st, rfl, Nat.zero_le _, m_fr.rf, m_fa.rf, i29, hri, fun _ => x_n1 (by omega), Nat.le_refl _, fun h9 => absurd h9 (by omega), Or.inr ⟨t5, ht5, rfl, hf5, hf6⟩, hP, hD, hS, lv_sub hl [2, 1, 0] rfl⟩
        obtain ⟨I1, A1, tv, j1, q, st, hn9, q1, hfr, hfa, i29, hri, hj0, hle, hlt, htv, hP, hD, hS, hl⟩ := h9
        rcases htv with rfl | ⟨t0, ht0, rfl, hf1, hf2⟩
        · have hl : lv_has ls 5 [(0, .ref h0), (3, .int (-1)), (4, .int (Int32.ofNat j1))] := hl
          refine lv_iload hx hb d_Mo_grow_81 (lv_at hl 2 rfl) ?_
          refine lv_bipush (v := 90) hx hb d_Mo_grow_83 (by decide) ?_
          refine lv_icmp_ge (tgt := 115) hx hb d_Mo_grow_85 (by decide) (fun c_7 => ?_) (fun c_7 => ?_)
          · have c_7 : 90 ≤ j1 := (x_leN (a := 90) (b := j1) (by omega) (by omega)).mp c_7
            refine lv_iconst (v := 1) hx hb d_Mo_grow_115 (by decide) ?_
            refine W.widen (k := 0) (n := 0) (Nat.le_of_ble_eq_true rfl) (Nat.le_of_ble_eq_true rfl) ?_
            exact W.zret (v := 1) hx hb hr (rfl) (fun t ht hW => ⟨⟨1, (I1, lv, A1, U), rfl, Or.inr ⟨rfl, hfr, hfa, rfl, ⟨V, own, pown, bl, role, k9, q, pn, br, st, i29, hri, Or.inl ((hfr 30 (by decide)).trans h30)⟩, hlt (by rcases Nat.eq_zero_or_pos j1 with h9 | h9; exact absurd rfl (hj0 h9); exact h9)⟩, by dsimp only; rw [ht]; exact hP⟩, hS.F ht⟩) hS.2.2 d_Mo_grow_116
          · have c_7 : ¬ 90 ≤ j1 := fun h9 => c_7 ((x_leN (a := 90) (b := j1) (by omega) (by omega)).mpr h9)
            refine lv_iload_n hx hb d_Mo_grow_88 rfl (lv_at hl 1 rfl) ?_
            refine lv_if_lt (tgt := 115) hx hb d_Mo_grow_89 (by decide) (fun _ => ?_) (fun c_8 => absurd (by decide) c_8)
            refine lv_iconst (v := 1) hx hb d_Mo_grow_115 (by decide) ?_
            refine W.widen (k := 0) (n := 0) (Nat.le_of_ble_eq_true rfl) (Nat.le_of_ble_eq_true rfl) ?_
            exact W.zret (v := 1) hx hb hr (rfl) (fun t ht hW => ⟨⟨1, (I1, lv, A1, U), rfl, Or.inr ⟨rfl, hfr, hfa, rfl, ⟨V, own, pown, bl, role, k9, q, pn, br, st, i29, hri, Or.inl ((hfr 30 (by decide)).trans h30)⟩, hlt (by rcases Nat.eq_zero_or_pos j1 with h9 | h9; exact absurd rfl (hj0 h9); exact h9)⟩, by dsimp only; rw [ht]; exact hP⟩, hS.F ht⟩) hS.2.2 d_Mo_grow_116
        · have hl : lv_has ls 5 [(0, .ref h0), (3, .int (Int32.ofNat t0)), (4, .int (Int32.ofNat j1))] := hl
          refine lv_iload hx hb d_Mo_grow_81 (lv_at hl 2 rfl) ?_
          refine lv_bipush (v := 90) hx hb d_Mo_grow_83 (by decide) ?_
          refine lv_icmp_ge (tgt := 115) hx hb d_Mo_grow_85 (by decide) (fun c_9 => ?_) (fun c_9 => ?_)
          · have c_9 : 90 ≤ j1 := (x_leN (a := 90) (b := j1) (by omega) (by omega)).mp c_9
            refine lv_iconst (v := 1) hx hb d_Mo_grow_115 (by decide) ?_
            refine W.widen (k := 0) (n := 0) (Nat.le_of_ble_eq_true rfl) (Nat.le_of_ble_eq_true rfl) ?_
            exact W.zret (v := 1) hx hb hr (rfl) (fun t ht hW => ⟨⟨1, (I1, lv, A1, U), rfl, Or.inr ⟨rfl, hfr, hfa, rfl, ⟨V, own, pown, bl, role, k9, q, pn, br, st, i29, hri, Or.inl ((hfr 30 (by decide)).trans h30)⟩, hlt (by omega)⟩, by dsimp only; rw [ht]; exact hP⟩, hS.F ht⟩) hS.2.2 d_Mo_grow_116
          · have c_9 : ¬ 90 ≤ j1 := fun h9 => c_9 ((x_leN (a := 90) (b := j1) (by omega) (by omega)).mpr h9)
            refine lv_iload_n hx hb d_Mo_grow_88 rfl (lv_at hl 1 rfl) ?_
            refine lv_if_lt (tgt := 115) hx hb d_Mo_grow_89 (by decide) (fun c => absurd ((x_ltN (a := t0) (b := 0) (by omega) (by omega)).mp c) (Nat.not_lt_zero _)) (fun _ => ?_)
            have hst3 := hri.2.2.2.1 t0 ht0 hf1 hf2
            have hput := (hri.untime hst3).put ht0 hf1 (if_pos rfl) (hri.kc0 ht0 hf1 (by omega))
            have hq9 := hput.1
            refine lv_aload_n hx hb d_Mo_grow_92 rfl (lv_at hl 0 rfl) ?_
            refine m_g hx hb hts hown hK hP 28 (by decide) rfl (hts _ k_995) (v := .ref (ad 28)) rfl d_Mo_grow_93 ?_
            refine lv_iload_n hx hb d_Mo_grow_96 rfl (lv_at hl 1 rfl) ?_
            refine lv_iconst (v := 0) hx hb d_Mo_grow_97 (by decide) ?_
            refine m_zst hx hb hK hP hD hS 20 rfl (by decide) (j := (Int32.ofNat t0)) (x := 0) (x_inN (by omega) (by decide)) d_Mo_grow_98 (fun H locs hP hD hS => ?_)
            rw [x_nat (a := t0) (by omega)] at hP hD
            rw [show vp_nar .boolean 0 = 0 from rfl] at hP hD
            have hP : va_P (dC, dI) x_cl (m_W h0 ad ar I1 lv (m_up A1 28 (upd (A1 28) t0 0)) U) H := hP
            have hD : va_D Bq (m_W h0 ad ar I1 lv (m_up A1 28 (upd (A1 28) t0 0)) U) := hD
            refine lv_aload_n hx hb d_Mo_grow_99 rfl (lv_at hl 0 rfl) ?_
            refine lv_iload_n hx hb d_Mo_grow_100 rfl (lv_at hl 1 rfl) ?_
            have hFc := m_free hD hS hA
            refine va_callv (va_runV (As := [.int (Int32.ofNat t0)]) (rest := []) ⟨hx, hb, hml, hown, hts⟩ (m_put l dC dI ar N0 z h0 ad I1 lv (m_up A1 28 (upd (A1 28) t0 0)) U q ((Int32.ofNat t0)) H.size i29 (by omega)) (cwV 1 hts (x_goodV k_1194 k_1196 kp_65 k_9 k_1197) rfl rfl rfl (by decide +kernel) ⟨Nat.le_of_ble_eq_true rfl, Nat.le_of_ble_eq_true rfl⟩) ⟨x_blind, va_recv hK hP (ci := 6) (q0 := 0) rfl rfl, fun U9 hU9 hW9 => x_pre hU9 hW9 hP hD hU hZ hS hAN hN0⟩ rfl rfl hl.1 rfl (lv_room (Nat.le_of_ble_eq_true rfl)) d_Mo_grow_101 ⟨Nat.le_of_ble_eq_true rfl, Nat.le_of_ble_eq_true rfl⟩) hS (fun q _ h => hFc q h) hFc (fun u t H1 locs ht hvm hw hB hz1 hk1 hS => ?_)
            obtain ⟨I11, T11, A11, U11⟩ := u
            dsimp only at hw hB
            rw [ht] at hB
            have hP : va_P (dC, dI) x_cl (m_W h0 ad ar I11 T11 A11 U11) H1 := hB
            have hD : va_D Bq (m_W h0 ad ar I11 T11 A11 U11) := m_D hD
            generalize H1 = H at hP hS ⊢
            refine W.widen (k := 0) (n := 0) (Nat.le_of_ble_eq_true rfl) (Nat.le_of_ble_eq_true rfl) ?_
            cases hw
            have hP : va_P (dC, dI) x_cl (m_W h0 ad ar (upd I1 29 (Int32.ofNat (q + 1))) lv (m_up (m_up A1 28 (upd (A1 28) t0 0)) 24 (upd (A1 24) q (Int32.ofNat t0))) U) H := hP
            have hD : va_D Bq (m_W h0 ad ar (upd I1 29 (Int32.ofNat (q + 1))) lv (m_up (m_up A1 28 (upd (A1 28) t0 0)) 24 (upd (A1 24) q (Int32.ofNat t0))) U) := hD
            refine lv_aload_n hx hb d_Mo_grow_104 rfl (lv_at hl 0 rfl) ?_
            have hFc := m_free hD hS hA
            refine va_calli (va_runV (As := []) (rest := []) ⟨hx, hb, hml, hown, hts⟩ (m_due l dC dI ar N0 z h0 ad (upd I1 29 (Int32.ofNat (q + 1))) lv (m_up (m_up A1 28 (upd (A1 28) t0 0)) 24 (upd (A1 24) q (Int32.ofNat t0))) U  H.size ) (cwV 0 hts (x_goodV k_1222 k_1224 kp_70 k_9 k_1225) rfl rfl rfl (by decide +kernel) ⟨Nat.le_of_ble_eq_true rfl, Nat.le_of_ble_eq_true rfl⟩) ⟨x_blind, va_recv hK hP (ci := 6) (q0 := 0) rfl rfl, fun U9 hU9 hW9 => x_pre hU9 hW9 hP hD hU hZ hS hAN hN0⟩ rfl rfl hl.1 rfl (lv_room (Nat.le_of_ble_eq_true rfl)) d_Mo_grow_105 ⟨Nat.le_of_ble_eq_true rfl, Nat.le_of_ble_eq_true rfl⟩) hS (fun q _ h => hFc q h) hFc (fun r_12 u t H1 locs ht hvm hw hB hz1 hk1 hS => ?_)
            obtain ⟨I14, T14, A14, U14⟩ := u
            dsimp only at hw hB
            rw [ht] at hB
            have hP : va_P (dC, dI) x_cl (m_W h0 ad ar I14 T14 A14 U14) H1 := hB
            have hD : va_D Bq (m_W h0 ad ar I14 T14 A14 U14) := m_D hD
            generalize H1 = H at hP hS ⊢
            refine W.widen (k := 0) (n := 0) (Nat.le_of_ble_eq_true rfl) (Nat.le_of_ble_eq_true rfl) ?_
            obtain ⟨h9, hw⟩ := hw
            cases h9
            rcases hw with ⟨rfl, hno⟩ | ⟨t5, ht5, rfl, hf5, hf6⟩
            · refine lv_istore_n (lv' := [(3, .int (-1)), (0, .ref h0), (4, .int (Int32.ofNat j1))]) hx hb d_Mo_grow_108 rfl hl (by decide) rfl (fun ls hl => ?_)
              refine lv_iinc (v := (Int32.ofNat (j1 + 1))) (lv' := [(4, .int (Int32.ofNat (j1 + 1))), (3, .int (-1)), (0, .ref h0)]) hx hb d_Mo_grow_109 hl (k := 2) rfl (x_incN j1) (by decide) rfl (fun ls hl => ?_)
              refine lv_goto (tgt := 81) hx hb d_Mo_grow_112 (by decide) ?_
              have hlt2 : m_tc ((m_up (m_up A1 28 (upd (A1 28) t0 0)) 24 (upd (A1 24) q (Int32.ofNat t0))) 27) ((m_up (m_up A1 28 (upd (A1 28) t0 0)) 24 (upd (A1 24) q (Int32.ofNat t0))) 28) 90 < m_tc (A1 27) (A1 28) 90 := m_tc_lt 90 ht0 hf1 hf2 (Or.inr (show upd (A1 28) t0 0 t0 = 0 from upd_s)) (fun x hx h1 h2 => ⟨h1, fun h9 => h2 (if e : x = t0 then (by show upd (A1 28) t0 0 x = 0; rw [e, upd_s]) else (by show upd (A1 28) t0 0 x = 0; rw [upd_n e]; exact h9))⟩)
              exact ih (90 - (j1 + 1)) (by omega) H locs ls ⟨(upd I1 29 (Int32.ofNat (q + 1))), (m_up (m_up A1 28 (upd (A1 28) t0 0)) 24 (upd (A1 24) q (Int32.ofNat t0))), _, j1 + 1, q + 1, _, rfl, by omega, (hfr.up (by decide) _), ((hfa.up (by decide) _).up (by decide) _), rfl, hput.2, fun h9 => absurd h9 (by omega), Nat.le_of_lt (Nat.lt_of_lt_of_le hlt2 hle), fun _ => Nat.lt_of_lt_of_le hlt2 hle, Or.inl rfl, hP, hD, hS, lv_sub hl [2, 1, 0] rfl⟩
            · refine lv_istore_n (lv' := [(3, .int (Int32.ofNat t5)), (0, .ref h0), (4, .int (Int32.ofNat j1))]) hx hb d_Mo_grow_108 rfl hl (by decide) rfl (fun ls hl => ?_)
              refine lv_iinc (v := (Int32.ofNat (j1 + 1))) (lv' := [(4, .int (Int32.ofNat (j1 + 1))), (3, .int (Int32.ofNat t5)), (0, .ref h0)]) hx hb d_Mo_grow_109 hl (k := 2) rfl (x_incN j1) (by decide) rfl (fun ls hl => ?_)
              refine lv_goto (tgt := 81) hx hb d_Mo_grow_112 (by decide) ?_
              have hlt2 : m_tc ((m_up (m_up A1 28 (upd (A1 28) t0 0)) 24 (upd (A1 24) q (Int32.ofNat t0))) 27) ((m_up (m_up A1 28 (upd (A1 28) t0 0)) 24 (upd (A1 24) q (Int32.ofNat t0))) 28) 90 < m_tc (A1 27) (A1 28) 90 := m_tc_lt 90 ht0 hf1 hf2 (Or.inr (show upd (A1 28) t0 0 t0 = 0 from upd_s)) (fun x hx h1 h2 => ⟨h1, fun h9 => h2 (if e : x = t0 then (by show upd (A1 28) t0 0 x = 0; rw [e, upd_s]) else (by show upd (A1 28) t0 0 x = 0; rw [upd_n e]; exact h9))⟩)
              exact ih (90 - (j1 + 1)) (by omega) H locs ls ⟨(upd I1 29 (Int32.ofNat (q + 1))), (m_up (m_up A1 28 (upd (A1 28) t0 0)) 24 (upd (A1 24) q (Int32.ofNat t0))), _, j1 + 1, q + 1, _, rfl, by omega, (hfr.up (by decide) _), ((hfa.up (by decide) _).up (by decide) _), rfl, hput.2, fun h9 => absurd h9 (by omega), Nat.le_of_lt (Nat.lt_of_lt_of_le hlt2 hle), fun _ => Nat.lt_of_lt_of_le hlt2 hle, Or.inr ⟨t5, ht5, rfl, hf5, hf6⟩, hP, hD, hS, lv_sub hl [2, 1, 0] rfl⟩
    · refine lv_iconst (v := 0) hx hb d_Mo_grow_66 (by decide) ?_
      refine W.widen (k := 0) (n := 0) (Nat.le_of_ble_eq_true rfl) (Nat.le_of_ble_eq_true rfl) ?_
      exact W.zret (v := 0) hx hb hr (rfl) (fun t ht hW => ⟨⟨0, (I, T, A, U), rfl, Or.inl ⟨rfl, rfl⟩, by dsimp only; rw [ht]; exact hP⟩, hS.F ht⟩) hS.2.2 d_Mo_grow_67
  · have c_1 : ¬ 90 ≤ t1 := fun h9 => c_1 ((x_leN (a := 90) (b := t1) (by omega) (by omega)).mpr h9)
    refine lv_aload_n hx hb d_Mo_grow_12 rfl (lv_at hl 0 rfl) ?_
    refine m_g hx hb hts hown hK hP 27 (by decide) rfl (hts _ k_994) (v := .ref (ad 27)) rfl d_Mo_grow_13 ?_
    refine lv_iload_n hx hb d_Mo_grow_16 rfl (lv_at hl 2 rfl) ?_
    refine m_zld hx hb hK hP 19 rfl (by decide) (j := (Int32.ofNat t1)) (x_inN (by omega) (by decide)) d_Mo_grow_17 ?_
    refine W.eq (g2 := F0 m 18 ls [.int (A 27 (t1))]) (by rw [x_nat (a := t1) (by omega)]) ?_
    refine lv_if_eq (tgt := 54) hx hb d_Mo_grow_18 (by decide) (fun c_15 => ?_) (fun c_15 => ?_)
    · refine lv_iinc (v := (Int32.ofNat (t1 + 1))) (lv' := [(3, .int (Int32.ofNat (t1 + 1))), (0, .ref h0), (1, .long lv)]) hx hb d_Mo_grow_54 hl (k := 2) rfl (x_incN t1) (by decide) rfl (fun ls hl => ?_)
      refine lv_goto (tgt := 6) hx hb d_Mo_grow_57 (by decide) ?_
      exact ih (90 - (t1 + 1)) (by omega) H locs ls ⟨_, t1 + 1, rfl, by omega, hf, hP, hD, hS, lv_sub hl [1, 2, 0] rfl⟩
    · refine lv_aload_n hx hb d_Mo_grow_21 rfl (lv_at hl 0 rfl) ?_
      refine m_g hx hb hts hown hK hP 28 (by decide) rfl (hts _ k_995) (v := .ref (ad 28)) rfl d_Mo_grow_22 ?_
      refine lv_iload_n hx hb d_Mo_grow_25 rfl (lv_at hl 2 rfl) ?_
      refine m_zld hx hb hK hP 20 rfl (by decide) (j := (Int32.ofNat t1)) (x_inN (by omega) (by decide)) d_Mo_grow_26 ?_
      refine W.eq (g2 := F0 m 27 ls [.int (A 28 (t1))]) (by rw [x_nat (a := t1) (by omega)]) ?_
      refine lv_if_eq (tgt := 54) hx hb d_Mo_grow_27 (by decide) (fun c_16 => ?_) (fun c_16 => ?_)
      · refine lv_iinc (v := (Int32.ofNat (t1 + 1))) (lv' := [(3, .int (Int32.ofNat (t1 + 1))), (0, .ref h0), (1, .long lv)]) hx hb d_Mo_grow_54 hl (k := 2) rfl (x_incN t1) (by decide) rfl (fun ls hl => ?_)
        refine lv_goto (tgt := 6) hx hb d_Mo_grow_57 (by decide) ?_
        exact ih (90 - (t1 + 1)) (by omega) H locs ls ⟨_, t1 + 1, rfl, by omega, hf, hP, hD, hS, lv_sub hl [1, 2, 0] rfl⟩
      · refine lv_lload_n hx hb d_Mo_grow_30 rfl (lv_at hl 1 rfl) ?_
        refine lv_lconst (v := 0) hx hb d_Mo_grow_31 (by decide) ?_
        refine x_lcmp hx hb d_Mo_grow_32 (fun v_17 hv_17 => ?_)
        refine lv_if_lt (tgt := 47) hx hb d_Mo_grow_33 (by decide) (fun c_18 => ?_) (fun c_18 => ?_)
        · refine lv_aload_n hx hb d_Mo_grow_47 rfl (lv_at hl 0 rfl) ?_
          refine m_g hx hb hts hown hK hP 26 (by decide) rfl (hts _ k_993) (v := .ref (ad 26)) rfl d_Mo_grow_48 ?_
          refine lv_iload_n hx hb d_Mo_grow_51 rfl (lv_at hl 2 rfl) ?_
          refine m_lld hx hb hK hP 18 rfl (j := (Int32.ofNat t1)) (x_inN (by omega) (by decide)) d_Mo_grow_52 ?_
          refine W.eq (g2 := F0 m 53 ls [.long (U t1)]) (by rw [x_nat (a := t1) (by omega)]) ?_
          refine lv_lstore_n (lv' := [(1, .long (U t1)), (0, .ref h0), (3, .int (Int32.ofNat t1))]) hx hb d_Mo_grow_53 rfl hl (by decide) rfl (fun ls hl => ?_)
          refine lv_iinc (v := (Int32.ofNat (t1 + 1))) (lv' := [(3, .int (Int32.ofNat (t1 + 1))), (1, .long (U t1)), (0, .ref h0)]) hx hb d_Mo_grow_54 hl (k := 2) rfl (x_incN t1) (by decide) rfl (fun ls hl => ?_)
          refine lv_goto (tgt := 6) hx hb d_Mo_grow_57 (by decide) ?_
          exact ih (90 - (t1 + 1)) (by omega) H locs ls ⟨_, t1 + 1, rfl, by omega, Or.inr ⟨t1, by omega, c_15, c_16, rfl⟩, hP, hD, hS, lv_sub hl [2, 1, 0] rfl⟩
        · refine lv_aload_n hx hb d_Mo_grow_36 rfl (lv_at hl 0 rfl) ?_
          refine m_g hx hb hts hown hK hP 26 (by decide) rfl (hts _ k_993) (v := .ref (ad 26)) rfl d_Mo_grow_37 ?_
          refine lv_iload_n hx hb d_Mo_grow_40 rfl (lv_at hl 2 rfl) ?_
          refine m_lld hx hb hK hP 18 rfl (j := (Int32.ofNat t1)) (x_inN (by omega) (by decide)) d_Mo_grow_41 ?_
          refine W.eq (g2 := F0 m 42 ls [.long (U t1)]) (by rw [x_nat (a := t1) (by omega)]) ?_
          refine lv_lload_n hx hb d_Mo_grow_42 rfl (lv_at hl 1 rfl) ?_
          refine x_lcmp hx hb d_Mo_grow_43 (fun v_19 hv_19 => ?_)
          refine lv_if_ge (tgt := 54) hx hb d_Mo_grow_44 (by decide) (fun c_20 => ?_) (fun c_20 => ?_)
          · refine lv_iinc (v := (Int32.ofNat (t1 + 1))) (lv' := [(3, .int (Int32.ofNat (t1 + 1))), (0, .ref h0), (1, .long lv)]) hx hb d_Mo_grow_54 hl (k := 2) rfl (x_incN t1) (by decide) rfl (fun ls hl => ?_)
            refine lv_goto (tgt := 6) hx hb d_Mo_grow_57 (by decide) ?_
            exact ih (90 - (t1 + 1)) (by omega) H locs ls ⟨_, t1 + 1, rfl, by omega, hf, hP, hD, hS, lv_sub hl [1, 2, 0] rfl⟩
          · refine lv_aload_n hx hb d_Mo_grow_47 rfl (lv_at hl 0 rfl) ?_
            refine m_g hx hb hts hown hK hP 26 (by decide) rfl (hts _ k_993) (v := .ref (ad 26)) rfl d_Mo_grow_48 ?_
            refine lv_iload_n hx hb d_Mo_grow_51 rfl (lv_at hl 2 rfl) ?_
            refine m_lld hx hb hK hP 18 rfl (j := (Int32.ofNat t1)) (x_inN (by omega) (by decide)) d_Mo_grow_52 ?_
            refine W.eq (g2 := F0 m 53 ls [.long (U t1)]) (by rw [x_nat (a := t1) (by omega)]) ?_
            refine lv_lstore_n (lv' := [(1, .long (U t1)), (0, .ref h0), (3, .int (Int32.ofNat t1))]) hx hb d_Mo_grow_53 rfl hl (by decide) rfl (fun ls hl => ?_)
            refine lv_iinc (v := (Int32.ofNat (t1 + 1))) (lv' := [(3, .int (Int32.ofNat (t1 + 1))), (1, .long (U t1)), (0, .ref h0)]) hx hb d_Mo_grow_54 hl (k := 2) rfl (x_incN t1) (by decide) rfl (fun ls hl => ?_)
            refine lv_goto (tgt := 6) hx hb d_Mo_grow_57 (by decide) ?_
            exact ih (90 - (t1 + 1)) (by omega) H locs ls ⟨_, t1 + 1, rfl, by omega, Or.inr ⟨t1, by omega, c_15, c_16, rfl⟩, hP, hD, hS, lv_sub hl [2, 1, 0] rfl⟩
set_option maxHeartbeats 4000000 in
set_option maxRecDepth 100000 in
theorem m_output (l : Launch) (dC : Nat → ClassId) (dI : Nat → Nat → Nat) (ar : Nat → ClassId) (N0 : Nat) (z : Nat → Nat) (h0 : Nat) (ad : Nat → Nat) (I : Nat → Int32) (T : Int64) (A : Nat → Nat → Int32) (U : Nat → Int64) (V : Nat → Prop) (own pown : Nat → Nat) (bl : List Nat) (role : Nat → Nat) (k9 q : Nat) (pn br st : Nat → Nat) (tt c9 b9 e9 : Nat) (vv : Int32) (sz : Nat) (h29 : I 29 = Int32.ofNat q) (h30 : I 30 = Int32.ofNat tt) (hri : m_RI A q V own pown bl role k9 pn br st) (htt : tt < 90) (hal : m_al A tt) (hst : st tt = 0) (hk : m_kc (A 27) (A 21) tt 90 = 0) (h33 : I 33 = 0) (h43 : I 43 = Int32.ofNat b9) (hb9 : b9 ≤ 8) (h44 : I 44 = Int32.ofNat e9) (hV : V e9) (hoe : own e9 = br tt) (hc : c9 < 4 ∨ c9 = 5) : Met l ({ cls := "ChannelMachineModel", name := "output", desc := "(III)V" } : Jvm.MethodName) ((Jvm.Cond.code ({ cls := "ChannelMachineModel", name := "output", desc := "(III)V" } : Jvm.MethodName) prog_12_method_37_code (4 : Nat) (Option.none : Option Jvm.ClassFile.FieldType)) :: x_T) ({ frames := 2, cells := 0, slots := 0, locals := 45 }) (x_Pc (dC, dI) ar N0 z (m_W h0 ad ar I T A U) sz [.ref h0, .int (Int32.ofNat tt), .int (Int32.ofNat c9), .int vv]) (va_Qv (fun (u : (Nat → Int32) × Int64 × (Nat → Nat → Int32) × (Nat → Int64)) => m_fr [29, 30, 33, 43] I u.1 ∧ m_fa [3, 20, 24, 35, 38, 39, 41] A u.2.2.1 ∧ u.2.1 = T ∧ u.2.2.2 = U ∧ (∃ b : Nat, b ≤ 8 ∧ u.1 43 = Int32.ofNat b) ∧ (u.1 33 = 0 → m_RUN u.1 u.2.2.1)) (fun u t => va_P (dC, dI) x_cl (m_W h0 ad ar u.1 u.2.1 u.2.2.1 u.2.2.2) t.heap) (va_A (m_W h0 ad ar I T A U) sz)) 0 0 (va_A (m_W h0 ad ar I T A U) sz) := by
  refine Met.ofW (cc := prog_12_method_37_code) (maxL := 4) (ret := none) (by decide) rfl ?_
  intro p e s m args below meth c s₁ B hml hv
  obtain ⟨rfl, hsz, hN0, hP, hU, hZ, hD0⟩ := hv
  have hK := hU.1
  have hx := B.exec
  have hb := B.bytes
  have hr := B.returns
  have hts : ∀ w ∈ x_T, w.before ([.ref h0, .int (Int32.ofNat tt), .int (Int32.ofNat c9), .int vv] : List Value).toArray s = true := fun w h => atoms_spec (ws := (Jvm.Cond.code ({ cls := "ChannelMachineModel", name := "output", desc := "(III)V" } : Jvm.MethodName) prog_12_method_37_code (4 : Nat) (Option.none : Option Jvm.ClassFile.FieldType)) :: x_T) B.pre w (List.mem_cons_of_mem _ h)
  have hown : s.vm.findClass "ChannelMachineModel" = some m.cls := findClass_of_methodNamed B.named
  have hlocks := B.notSynchronized
  subst hsz
  have hD := hD0.self (sz := s.heap.size)
  have hAN := x_AN hD0 hN0
  generalize hAe : va_A (m_W h0 ad ar I T A U) s.heap.size = Bq at hD hAN ⊢
  have hA : ∀ q : Nat, s.heap.size ≤ q → Bq q := fun q h => by rw [← hAe]; exact Or.inr h
  have hS : va_S Bq s.heap s.heap [] := va_S.rf
  have hl := lv_entry ([.ref h0, .int (Int32.ofNat tt), .int (Int32.ofNat c9), .int vv]) (n := 4) (Nat.le_of_ble_eq_true rfl)
  rw [lg_entry_eq]
  generalize (lg_sl ([.ref h0, .int (Int32.ofNat tt), .int (Int32.ofNat c9), .int vv]) ++ List.replicate (4 - (lg_sl ([.ref h0, .int (Int32.ofNat tt), .int (Int32.ofNat c9), .int vv])).length) Slot.unset).toArray = ls at hl ⊢
  have hl : lv_has ls 4 [(0, .ref h0), (1, .int (Int32.ofNat tt)), (2, .int (Int32.ofNat c9)), (3, .int vv)] := hl
  have hri1 := hri.pc (t := tt) hV hoe
  refine lv_aload_n hx hb d_Mo_output_0 rfl (lv_at hl 0 rfl) ?_
  refine m_g hx hb hts hown hK hP 20 (by decide) rfl (hts _ k_987) (v := .ref (ad 20)) rfl d_Mo_output_1 ?_
  refine lv_iload_n hx hb d_Mo_output_4 rfl (lv_at hl 1 rfl) ?_
  refine lv_aload_n hx hb d_Mo_output_5 rfl (lv_at hl 0 rfl) ?_
  refine m_g hx hb hts hown hK hP 44 (by decide) rfl (hts _ k_1011) (v := .int (Int32.ofNat e9)) (congrArg Value.int h44) d_Mo_output_6 ?_
  refine m_st hx hb hK hP hD hS 12 rfl (by decide) (j := (Int32.ofNat tt)) (x := (Int32.ofNat e9)) (x_inN (by omega) (by decide)) d_Mo_output_9 (fun H locs hP hD hS => ?_)
  rw [x_nat (a := tt) (by omega)] at hP hD
  have hP : va_P (dC, dI) x_cl (m_W h0 ad ar I T (m_up A 20 (upd (A 20) tt (Int32.ofNat e9))) U) H := hP
  have hD : va_D Bq (m_W h0 ad ar I T (m_up A 20 (upd (A 20) tt (Int32.ofNat e9))) U) := hD
  refine lv_iload_n hx hb d_Mo_output_10 rfl (lv_at hl 2 rfl) ?_
  refine lv_iconst (v := 5) hx hb d_Mo_output_11 (by decide) ?_
  refine lv_icmp_ne (tgt := 47) hx hb d_Mo_output_12 (by decide) (fun c_1 => ?_) (fun c_1 => ?_)
  · have c_1 : ¬ c9 = 5 := fun h9 => c_1 ((x_eqN (a := c9) (b := 5) (by omega) (by omega)).mpr h9)
    refine lv_iload_n hx hb d_Mo_output_47 rfl (lv_at hl 2 rfl) ?_
    refine lv_iconst (v := 5) hx hb d_Mo_output_48 (by decide) ?_
    refine lv_icmp_eq (tgt := 70) hx hb d_Mo_output_49 (by decide) (fun c_2 => ?_) (fun c_2 => ?_)
    · have c_2 : c9 = 5 := (x_eqN (a := c9) (b := 5) (by omega) (by omega)).mp c_2
      refine lv_aload_n hx hb d_Mo_output_70 rfl (lv_at hl 0 rfl) ?_
      refine m_g hx hb hts hown hK hP 38 (by decide) rfl (hts _ k_1005) (v := .ref (ad 38)) rfl d_Mo_output_71 ?_
      refine lv_iload_n hx hb d_Mo_output_74 rfl (lv_at hl 2 rfl) ?_
      refine m_ld hx hb hK hP 24 rfl (by decide) (j := (Int32.ofNat c9)) (x_inN (by omega) (by decide)) d_Mo_output_75 ?_
      refine W.eq (g2 := F0 m 76 ls [.int ((m_up A 20 (upd (A 20) tt (Int32.ofNat e9))) 38 (c9))]) (by rw [x_nat (a := c9) (by omega)]) ?_
      refine lv_if_lt (tgt := 87) hx hb d_Mo_output_76 (by decide) (fun c_3 => ?_) (fun c_3 => ?_)
      · refine lv_aload_n hx hb d_Mo_output_87 rfl (lv_at hl 0 rfl) ?_
        refine m_g hx hb hts hown hK hP 38 (by decide) rfl (hts _ k_1005) (v := .ref (ad 38)) rfl d_Mo_output_88 ?_
        refine lv_iload_n hx hb d_Mo_output_91 rfl (lv_at hl 2 rfl) ?_
        refine lv_iload_n hx hb d_Mo_output_92 rfl (lv_at hl 1 rfl) ?_
        refine m_st hx hb hK hP hD hS 24 rfl (by decide) (j := (Int32.ofNat c9)) (x := (Int32.ofNat tt)) (x_inN (by omega) (by decide)) d_Mo_output_93 (fun H locs hP hD hS => ?_)
        rw [x_nat (a := c9) (by omega)] at hP hD
        have hP : va_P (dC, dI) x_cl (m_W h0 ad ar I T (m_up (m_up A 20 (upd (A 20) tt (Int32.ofNat e9))) 38 (upd (A 38) c9 (Int32.ofNat tt))) U) H := hP
        have hD : va_D Bq (m_W h0 ad ar I T (m_up (m_up A 20 (upd (A 20) tt (Int32.ofNat e9))) 38 (upd (A 38) c9 (Int32.ofNat tt))) U) := hD
        refine lv_aload_n hx hb d_Mo_output_94 rfl (lv_at hl 0 rfl) ?_
        refine m_g hx hb hts hown hK hP 39 (by decide) rfl (hts _ k_1006) (v := .ref (ad 39)) rfl d_Mo_output_95 ?_
        refine lv_iload_n hx hb d_Mo_output_98 rfl (lv_at hl 2 rfl) ?_
        refine lv_iload_n hx hb d_Mo_output_99 rfl (lv_at hl 3 rfl) ?_
        refine m_st hx hb hK hP hD hS 25 rfl (by decide) (j := (Int32.ofNat c9)) (x := vv) (x_inN (by omega) (by decide)) d_Mo_output_100 (fun H locs hP hD hS => ?_)
        rw [x_nat (a := c9) (by omega)] at hP hD
        have hP : va_P (dC, dI) x_cl (m_W h0 ad ar I T (m_up (m_up (m_up A 20 (upd (A 20) tt (Int32.ofNat e9))) 38 (upd (A 38) c9 (Int32.ofNat tt))) 39 (upd (A 39) c9 vv)) U) H := hP
        have hD : va_D Bq (m_W h0 ad ar I T (m_up (m_up (m_up A 20 (upd (A 20) tt (Int32.ofNat e9))) 38 (upd (A 38) c9 (Int32.ofNat tt))) 39 (upd (A 39) c9 vv)) U) := hD
        refine lv_aload_n hx hb d_Mo_output_101 rfl (lv_at hl 0 rfl) ?_
        refine lv_iconst (v := (-1)) hx hb d_Mo_output_102 (by decide) ?_
        refine m_p hx hb hts hown hK hP hD hS 30 (by decide) rfl (hts _ k_997) rfl (by decide +kernel) rfl (by decide) (x := (-1)) d_Mo_output_103 (fun H locs hP hD hS => ?_)
        refine W.widen (k := 0) (n := 0) (Nat.le_of_ble_eq_true rfl) (Nat.le_of_ble_eq_true rfl) ?_
        exact W.vret hx hb hr (fun t ht hW => ⟨⟨((upd I 30 (-1)), T, (m_up (m_up (m_up A 20 (upd (A 20) tt (Int32.ofNat e9))) 38 (upd (A 38) c9 (Int32.ofNat tt))) 39 (upd (A 39) c9 vv)), U), rfl, ⟨(m_fr.rf.up (by decide) _), (((m_fa.rf.up (by decide) _).up (by decide) _).up (by decide) _), rfl, rfl, ⟨b9, hb9, h43⟩, fun _ => ⟨V, own, pown, bl, role, k9, q, _, br, _, h29, hri1.write (c := c9) htt hal hst hk rfl rfl rfl rfl rfl rfl rfl rfl rfl rfl rfl, Or.inl rfl⟩⟩, by dsimp only; rw [ht]; exact hP⟩, hS.F ht⟩) hS.2.2 d_Mo_output_106
      · refine lv_aload_n hx hb d_Mo_output_79 rfl (lv_at hl 0 rfl) ?_
        refine lv_iconst (v := 2) hx hb d_Mo_output_80 (by decide) ?_
        refine m_p hx hb hts hown hK hP hD hS 33 (by decide) rfl (hts _ k_1000) rfl (by decide +kernel) rfl (by decide) (x := 2) d_Mo_output_81 (fun H locs hP hD hS => ?_)
        refine lv_goto (tgt := 106) hx hb d_Mo_output_84 (by decide) ?_
        refine W.widen (k := 0) (n := 0) (Nat.le_of_ble_eq_true rfl) (Nat.le_of_ble_eq_true rfl) ?_
        exact W.vret hx hb hr (fun t ht hW => ⟨⟨((upd I 33 2), T, (m_up A 20 (upd (A 20) tt (Int32.ofNat e9))), U), rfl, ⟨(m_fr.rf.up (by decide) _), (m_fa.rf.up (by decide) _), rfl, rfl, ⟨b9, hb9, h43⟩, fun h9 => absurd (show (2 : Int32) = 0 from h9) (by decide)⟩, by dsimp only; rw [ht]; exact hP⟩, hS.F ht⟩) hS.2.2 d_Mo_output_106
    · have c_2 : ¬ c9 = 5 := fun h9 => c_2 ((x_eqN (a := c9) (b := 5) (by omega) (by omega)).mpr h9)
      refine lv_aload_n hx hb d_Mo_output_52 rfl (lv_at hl 0 rfl) ?_
      refine m_g hx hb hts hown hK hP 35 (by decide) rfl (hts _ k_1002) (v := .ref (ad 35)) rfl d_Mo_output_53 ?_
      refine lv_iload_n hx hb d_Mo_output_56 rfl (lv_at hl 2 rfl) ?_
      rcases hri.2.2.2.2.1 c9 (by omega) with hr9 | ⟨r9, w9, x9, hr9l, hr9, har, hsr, hw9, hw9l, e37, hVx, hox⟩
      · refine m_ld hx hb hK hP 21 rfl (by decide) (j := (Int32.ofNat c9)) (x_inN (by omega) (by decide)) d_Mo_output_57 ?_
        refine W.eq (g2 := F0 m 58 ls [.int (-1)]) (by rw [x_nat (a := c9) (by omega), show (m_up A 20 (upd (A 20) tt (Int32.ofNat e9))) 35 c9 = (-1) from hr9]) ?_
        refine lv_if_lt (tgt := 70) hx hb d_Mo_output_58 (by decide) (fun _ => ?_) (fun c_4 => absurd (by decide) c_4)
        refine lv_aload_n hx hb d_Mo_output_70 rfl (lv_at hl 0 rfl) ?_
        refine m_g hx hb hts hown hK hP 38 (by decide) rfl (hts _ k_1005) (v := .ref (ad 38)) rfl d_Mo_output_71 ?_
        refine lv_iload_n hx hb d_Mo_output_74 rfl (lv_at hl 2 rfl) ?_
        refine m_ld hx hb hK hP 24 rfl (by decide) (j := (Int32.ofNat c9)) (x_inN (by omega) (by decide)) d_Mo_output_75 ?_
        refine W.eq (g2 := F0 m 76 ls [.int ((m_up A 20 (upd (A 20) tt (Int32.ofNat e9))) 38 (c9))]) (by rw [x_nat (a := c9) (by omega)]) ?_
        refine lv_if_lt (tgt := 87) hx hb d_Mo_output_76 (by decide) (fun c_5 => ?_) (fun c_5 => ?_)
        · refine lv_aload_n hx hb d_Mo_output_87 rfl (lv_at hl 0 rfl) ?_
          refine m_g hx hb hts hown hK hP 38 (by decide) rfl (hts _ k_1005) (v := .ref (ad 38)) rfl d_Mo_output_88 ?_
          refine lv_iload_n hx hb d_Mo_output_91 rfl (lv_at hl 2 rfl) ?_
          refine lv_iload_n hx hb d_Mo_output_92 rfl (lv_at hl 1 rfl) ?_
          refine m_st hx hb hK hP hD hS 24 rfl (by decide) (j := (Int32.ofNat c9)) (x := (Int32.ofNat tt)) (x_inN (by omega) (by decide)) d_Mo_output_93 (fun H locs hP hD hS => ?_)
          rw [x_nat (a := c9) (by omega)] at hP hD
          have hP : va_P (dC, dI) x_cl (m_W h0 ad ar I T (m_up (m_up A 20 (upd (A 20) tt (Int32.ofNat e9))) 38 (upd (A 38) c9 (Int32.ofNat tt))) U) H := hP
          have hD : va_D Bq (m_W h0 ad ar I T (m_up (m_up A 20 (upd (A 20) tt (Int32.ofNat e9))) 38 (upd (A 38) c9 (Int32.ofNat tt))) U) := hD
          refine lv_aload_n hx hb d_Mo_output_94 rfl (lv_at hl 0 rfl) ?_
          refine m_g hx hb hts hown hK hP 39 (by decide) rfl (hts _ k_1006) (v := .ref (ad 39)) rfl d_Mo_output_95 ?_
          refine lv_iload_n hx hb d_Mo_output_98 rfl (lv_at hl 2 rfl) ?_
          refine lv_iload_n hx hb d_Mo_output_99 rfl (lv_at hl 3 rfl) ?_
          refine m_st hx hb hK hP hD hS 25 rfl (by decide) (j := (Int32.ofNat c9)) (x := vv) (x_inN (by omega) (by decide)) d_Mo_output_100 (fun H locs hP hD hS => ?_)
          rw [x_nat (a := c9) (by omega)] at hP hD
          have hP : va_P (dC, dI) x_cl (m_W h0 ad ar I T (m_up (m_up (m_up A 20 (upd (A 20) tt (Int32.ofNat e9))) 38 (upd (A 38) c9 (Int32.ofNat tt))) 39 (upd (A 39) c9 vv)) U) H := hP
          have hD : va_D Bq (m_W h0 ad ar I T (m_up (m_up (m_up A 20 (upd (A 20) tt (Int32.ofNat e9))) 38 (upd (A 38) c9 (Int32.ofNat tt))) 39 (upd (A 39) c9 vv)) U) := hD
          refine lv_aload_n hx hb d_Mo_output_101 rfl (lv_at hl 0 rfl) ?_
          refine lv_iconst (v := (-1)) hx hb d_Mo_output_102 (by decide) ?_
          refine m_p hx hb hts hown hK hP hD hS 30 (by decide) rfl (hts _ k_997) rfl (by decide +kernel) rfl (by decide) (x := (-1)) d_Mo_output_103 (fun H locs hP hD hS => ?_)
          refine W.widen (k := 0) (n := 0) (Nat.le_of_ble_eq_true rfl) (Nat.le_of_ble_eq_true rfl) ?_
          exact W.vret hx hb hr (fun t ht hW => ⟨⟨((upd I 30 (-1)), T, (m_up (m_up (m_up A 20 (upd (A 20) tt (Int32.ofNat e9))) 38 (upd (A 38) c9 (Int32.ofNat tt))) 39 (upd (A 39) c9 vv)), U), rfl, ⟨(m_fr.rf.up (by decide) _), (((m_fa.rf.up (by decide) _).up (by decide) _).up (by decide) _), rfl, rfl, ⟨b9, hb9, h43⟩, fun _ => ⟨V, own, pown, bl, role, k9, q, _, br, _, h29, hri1.write (c := c9) htt hal hst hk rfl rfl rfl rfl rfl rfl rfl rfl rfl rfl rfl, Or.inl rfl⟩⟩, by dsimp only; rw [ht]; exact hP⟩, hS.F ht⟩) hS.2.2 d_Mo_output_106
        · refine lv_aload_n hx hb d_Mo_output_79 rfl (lv_at hl 0 rfl) ?_
          refine lv_iconst (v := 2) hx hb d_Mo_output_80 (by decide) ?_
          refine m_p hx hb hts hown hK hP hD hS 33 (by decide) rfl (hts _ k_1000) rfl (by decide +kernel) rfl (by decide) (x := 2) d_Mo_output_81 (fun H locs hP hD hS => ?_)
          refine lv_goto (tgt := 106) hx hb d_Mo_output_84 (by decide) ?_
          refine W.widen (k := 0) (n := 0) (Nat.le_of_ble_eq_true rfl) (Nat.le_of_ble_eq_true rfl) ?_
          exact W.vret hx hb hr (fun t ht hW => ⟨⟨((upd I 33 2), T, (m_up A 20 (upd (A 20) tt (Int32.ofNat e9))), U), rfl, ⟨(m_fr.rf.up (by decide) _), (m_fa.rf.up (by decide) _), rfl, rfl, ⟨b9, hb9, h43⟩, fun h9 => absurd (show (2 : Int32) = 0 from h9) (by decide)⟩, by dsimp only; rw [ht]; exact hP⟩, hS.F ht⟩) hS.2.2 d_Mo_output_106
      · refine m_ld hx hb hK hP 21 rfl (by decide) (j := (Int32.ofNat c9)) (x_inN (by omega) (by decide)) d_Mo_output_57 ?_
        refine W.eq (g2 := F0 m 58 ls [.int (Int32.ofNat r9)]) (by rw [x_nat (a := c9) (by omega), show (m_up A 20 (upd (A 20) tt (Int32.ofNat e9))) 35 c9 = (Int32.ofNat r9) from hr9]) ?_
        refine lv_if_lt (tgt := 70) hx hb d_Mo_output_58 (by decide) (fun c => absurd ((x_ltN (a := r9) (b := 0) (by omega) (by omega)).mp c) (Nat.not_lt_zero _)) (fun _ => ?_)
        refine lv_aload_n hx hb d_Mo_output_61 rfl (lv_at hl 0 rfl) ?_
        refine lv_iload_n hx hb d_Mo_output_62 rfl (lv_at hl 2 rfl) ?_
        refine lv_iload_n hx hb d_Mo_output_63 rfl (lv_at hl 3 rfl) ?_
        have hFc := m_free hD hS hA
        refine va_callv (va_runV (As := [.int (Int32.ofNat c9), .int vv]) (rest := []) ⟨hx, hb, hml, hown, hts⟩ (m_hand l dC dI ar N0 z h0 ad I T (m_up A 20 (upd (A 20) tt (Int32.ofNat e9))) U c9 r9 w9 q vv H.size h29 hri.qlt (by omega) hr9l hr9 hw9l hw9) (cwV 2 hts (x_goodV k_1246 k_1248 kp_76 k_9 k_1249) rfl rfl rfl (by decide +kernel) ⟨Nat.le_of_ble_eq_true rfl, Nat.le_of_ble_eq_true rfl⟩) ⟨x_blind, va_recv hK hP (ci := 6) (q0 := 0) rfl rfl, fun U9 hU9 hW9 => x_pre hU9 hW9 hP hD hU hZ hS hAN hN0⟩ rfl rfl hl.1 rfl (lv_room (Nat.le_of_ble_eq_true rfl)) d_Mo_output_64 ⟨Nat.le_of_ble_eq_true rfl, Nat.le_of_ble_eq_true rfl⟩) hS (fun q _ h => hFc q h) hFc (fun u t H1 locs ht hvm hw hB hz1 hk1 hS => ?_)
        obtain ⟨I7, T7, A7, U7⟩ := u
        dsimp only at hw hB
        rw [ht] at hB
        have hP : va_P (dC, dI) x_cl (m_W h0 ad ar I7 T7 A7 U7) H1 := hB
        have hD : va_D Bq (m_W h0 ad ar I7 T7 A7 U7) := m_D hD
        generalize H1 = H at hP hS ⊢
        refine W.widen (k := 0) (n := 0) (Nat.le_of_ble_eq_true rfl) (Nat.le_of_ble_eq_true rfl) ?_
        obtain ⟨e1, e2, e3, fa7, h207, h247, h357⟩ := hw
        rw [e1, e2, e3] at hP hD
        have hP : va_P (dC, dI) x_cl (m_W h0 ad ar (upd I 29 (Int32.ofNat (q + 1))) T A7 U) H := hP
        have hD : va_D Bq (m_W h0 ad ar (upd I 29 (Int32.ofNat (q + 1))) T A7 U) := hD
        refine lv_goto (tgt := 106) hx hb d_Mo_output_67 (by decide) ?_
        have hne : tt ≠ r9 := fun e9 => by (rw [e9] at hst; omega)
        have hrun9 : m_RUN (upd I 29 (Int32.ofNat (q + 1))) A7 := ⟨V, own, pown, bl, role, k9, q + 1, _, br, _, rfl, (hri1.hand hr9l har hsr e37 hVx hox fa7 h207 h247 h357).st02 (t := tt) (by show (if tt = r9 then 1 else (if tt = r9 then 0 else st tt)) = 0; rw [if_neg hne, if_neg hne]; exact hst) (by rw [fa7 27 (by decide), fa7 21 (by decide)]; exact hk), Or.inr ⟨tt, htt, h30, by show ¬ A7 27 tt = 0; rw [fa7 27 (by decide)]; exact hal, if_pos rfl⟩⟩
        refine W.widen (k := 0) (n := 0) (Nat.le_of_ble_eq_true rfl) (Nat.le_of_ble_eq_true rfl) ?_
        exact W.vret hx hb hr (fun t ht hW => ⟨⟨((upd I 29 (Int32.ofNat (q + 1))), T, A7, U), rfl, ⟨(m_fr.rf.up (by decide) _), ((m_fa.rf.up (by decide) _).tr fa7 (by decide)), rfl, rfl, ⟨b9, hb9, h43⟩, fun _ => hrun9⟩, by dsimp only; rw [ht]; exact hP⟩, hS.F ht⟩) hS.2.2 d_Mo_output_106
  · have c_1 : c9 = 5 := (x_eqN (a := c9) (b := 5) (by omega) (by omega)).mp c_1
    refine lv_aload_n hx hb d_Mo_output_15 rfl (lv_at hl 0 rfl) ?_
    refine m_g hx hb hts hown hK hP 43 (by decide) rfl (hts _ k_1010) (v := .int (Int32.ofNat b9)) (congrArg Value.int h43) d_Mo_output_16 ?_
    refine lv_bipush (v := 8) hx hb d_Mo_output_19 (by decide) ?_
    refine lv_icmp_ge (tgt := 47) hx hb d_Mo_output_21 (by decide) (fun c_8 => ?_) (fun c_8 => ?_)
    · have c_8 : 8 ≤ b9 := (x_leN (a := 8) (b := b9) (by omega) (by omega)).mp c_8
      refine lv_iload_n hx hb d_Mo_output_47 rfl (lv_at hl 2 rfl) ?_
      refine lv_iconst (v := 5) hx hb d_Mo_output_48 (by decide) ?_
      refine lv_icmp_eq (tgt := 70) hx hb d_Mo_output_49 (by decide) (fun c_9 => ?_) (fun c_9 => ?_)
      · have c_9 : c9 = 5 := (x_eqN (a := c9) (b := 5) (by omega) (by omega)).mp c_9
        refine lv_aload_n hx hb d_Mo_output_70 rfl (lv_at hl 0 rfl) ?_
        refine m_g hx hb hts hown hK hP 38 (by decide) rfl (hts _ k_1005) (v := .ref (ad 38)) rfl d_Mo_output_71 ?_
        refine lv_iload_n hx hb d_Mo_output_74 rfl (lv_at hl 2 rfl) ?_
        refine m_ld hx hb hK hP 24 rfl (by decide) (j := (Int32.ofNat c9)) (x_inN (by omega) (by decide)) d_Mo_output_75 ?_
        refine W.eq (g2 := F0 m 76 ls [.int ((m_up A 20 (upd (A 20) tt (Int32.ofNat e9))) 38 (c9))]) (by rw [x_nat (a := c9) (by omega)]) ?_
        refine lv_if_lt (tgt := 87) hx hb d_Mo_output_76 (by decide) (fun c_10 => ?_) (fun c_10 => ?_)
        · refine lv_aload_n hx hb d_Mo_output_87 rfl (lv_at hl 0 rfl) ?_
          refine m_g hx hb hts hown hK hP 38 (by decide) rfl (hts _ k_1005) (v := .ref (ad 38)) rfl d_Mo_output_88 ?_
          refine lv_iload_n hx hb d_Mo_output_91 rfl (lv_at hl 2 rfl) ?_
          refine lv_iload_n hx hb d_Mo_output_92 rfl (lv_at hl 1 rfl) ?_
          refine m_st hx hb hK hP hD hS 24 rfl (by decide) (j := (Int32.ofNat c9)) (x := (Int32.ofNat tt)) (x_inN (by omega) (by decide)) d_Mo_output_93 (fun H locs hP hD hS => ?_)
          rw [x_nat (a := c9) (by omega)] at hP hD
          have hP : va_P (dC, dI) x_cl (m_W h0 ad ar I T (m_up (m_up A 20 (upd (A 20) tt (Int32.ofNat e9))) 38 (upd (A 38) c9 (Int32.ofNat tt))) U) H := hP
          have hD : va_D Bq (m_W h0 ad ar I T (m_up (m_up A 20 (upd (A 20) tt (Int32.ofNat e9))) 38 (upd (A 38) c9 (Int32.ofNat tt))) U) := hD
          refine lv_aload_n hx hb d_Mo_output_94 rfl (lv_at hl 0 rfl) ?_
          refine m_g hx hb hts hown hK hP 39 (by decide) rfl (hts _ k_1006) (v := .ref (ad 39)) rfl d_Mo_output_95 ?_
          refine lv_iload_n hx hb d_Mo_output_98 rfl (lv_at hl 2 rfl) ?_
          refine lv_iload_n hx hb d_Mo_output_99 rfl (lv_at hl 3 rfl) ?_
          refine m_st hx hb hK hP hD hS 25 rfl (by decide) (j := (Int32.ofNat c9)) (x := vv) (x_inN (by omega) (by decide)) d_Mo_output_100 (fun H locs hP hD hS => ?_)
          rw [x_nat (a := c9) (by omega)] at hP hD
          have hP : va_P (dC, dI) x_cl (m_W h0 ad ar I T (m_up (m_up (m_up A 20 (upd (A 20) tt (Int32.ofNat e9))) 38 (upd (A 38) c9 (Int32.ofNat tt))) 39 (upd (A 39) c9 vv)) U) H := hP
          have hD : va_D Bq (m_W h0 ad ar I T (m_up (m_up (m_up A 20 (upd (A 20) tt (Int32.ofNat e9))) 38 (upd (A 38) c9 (Int32.ofNat tt))) 39 (upd (A 39) c9 vv)) U) := hD
          refine lv_aload_n hx hb d_Mo_output_101 rfl (lv_at hl 0 rfl) ?_
          refine lv_iconst (v := (-1)) hx hb d_Mo_output_102 (by decide) ?_
          refine m_p hx hb hts hown hK hP hD hS 30 (by decide) rfl (hts _ k_997) rfl (by decide +kernel) rfl (by decide) (x := (-1)) d_Mo_output_103 (fun H locs hP hD hS => ?_)
          refine W.widen (k := 0) (n := 0) (Nat.le_of_ble_eq_true rfl) (Nat.le_of_ble_eq_true rfl) ?_
          exact W.vret hx hb hr (fun t ht hW => ⟨⟨((upd I 30 (-1)), T, (m_up (m_up (m_up A 20 (upd (A 20) tt (Int32.ofNat e9))) 38 (upd (A 38) c9 (Int32.ofNat tt))) 39 (upd (A 39) c9 vv)), U), rfl, ⟨(m_fr.rf.up (by decide) _), (((m_fa.rf.up (by decide) _).up (by decide) _).up (by decide) _), rfl, rfl, ⟨b9, hb9, h43⟩, fun _ => ⟨V, own, pown, bl, role, k9, q, _, br, _, h29, hri1.write (c := c9) htt hal hst hk rfl rfl rfl rfl rfl rfl rfl rfl rfl rfl rfl, Or.inl rfl⟩⟩, by dsimp only; rw [ht]; exact hP⟩, hS.F ht⟩) hS.2.2 d_Mo_output_106
        · refine lv_aload_n hx hb d_Mo_output_79 rfl (lv_at hl 0 rfl) ?_
          refine lv_iconst (v := 2) hx hb d_Mo_output_80 (by decide) ?_
          refine m_p hx hb hts hown hK hP hD hS 33 (by decide) rfl (hts _ k_1000) rfl (by decide +kernel) rfl (by decide) (x := 2) d_Mo_output_81 (fun H locs hP hD hS => ?_)
          refine lv_goto (tgt := 106) hx hb d_Mo_output_84 (by decide) ?_
          refine W.widen (k := 0) (n := 0) (Nat.le_of_ble_eq_true rfl) (Nat.le_of_ble_eq_true rfl) ?_
          exact W.vret hx hb hr (fun t ht hW => ⟨⟨((upd I 33 2), T, (m_up A 20 (upd (A 20) tt (Int32.ofNat e9))), U), rfl, ⟨(m_fr.rf.up (by decide) _), (m_fa.rf.up (by decide) _), rfl, rfl, ⟨b9, hb9, h43⟩, fun h9 => absurd (show (2 : Int32) = 0 from h9) (by decide)⟩, by dsimp only; rw [ht]; exact hP⟩, hS.F ht⟩) hS.2.2 d_Mo_output_106
      · have c_9 : ¬ c9 = 5 := fun h9 => c_9 ((x_eqN (a := c9) (b := 5) (by omega) (by omega)).mpr h9)
        refine lv_aload_n hx hb d_Mo_output_52 rfl (lv_at hl 0 rfl) ?_
        refine m_g hx hb hts hown hK hP 35 (by decide) rfl (hts _ k_1002) (v := .ref (ad 35)) rfl d_Mo_output_53 ?_
        refine lv_iload_n hx hb d_Mo_output_56 rfl (lv_at hl 2 rfl) ?_
        rcases hri.2.2.2.2.1 c9 (by omega) with hr9 | ⟨r9, w9, x9, hr9l, hr9, har, hsr, hw9, hw9l, e37, hVx, hox⟩
        · refine m_ld hx hb hK hP 21 rfl (by decide) (j := (Int32.ofNat c9)) (x_inN (by omega) (by decide)) d_Mo_output_57 ?_
          refine W.eq (g2 := F0 m 58 ls [.int (-1)]) (by rw [x_nat (a := c9) (by omega), show (m_up A 20 (upd (A 20) tt (Int32.ofNat e9))) 35 c9 = (-1) from hr9]) ?_
          refine lv_if_lt (tgt := 70) hx hb d_Mo_output_58 (by decide) (fun _ => ?_) (fun c_11 => absurd (by decide) c_11)
          refine lv_aload_n hx hb d_Mo_output_70 rfl (lv_at hl 0 rfl) ?_
          refine m_g hx hb hts hown hK hP 38 (by decide) rfl (hts _ k_1005) (v := .ref (ad 38)) rfl d_Mo_output_71 ?_
          refine lv_iload_n hx hb d_Mo_output_74 rfl (lv_at hl 2 rfl) ?_
          refine m_ld hx hb hK hP 24 rfl (by decide) (j := (Int32.ofNat c9)) (x_inN (by omega) (by decide)) d_Mo_output_75 ?_
          refine W.eq (g2 := F0 m 76 ls [.int ((m_up A 20 (upd (A 20) tt (Int32.ofNat e9))) 38 (c9))]) (by rw [x_nat (a := c9) (by omega)]) ?_
          refine lv_if_lt (tgt := 87) hx hb d_Mo_output_76 (by decide) (fun c_12 => ?_) (fun c_12 => ?_)
          · refine lv_aload_n hx hb d_Mo_output_87 rfl (lv_at hl 0 rfl) ?_
            refine m_g hx hb hts hown hK hP 38 (by decide) rfl (hts _ k_1005) (v := .ref (ad 38)) rfl d_Mo_output_88 ?_
            refine lv_iload_n hx hb d_Mo_output_91 rfl (lv_at hl 2 rfl) ?_
            refine lv_iload_n hx hb d_Mo_output_92 rfl (lv_at hl 1 rfl) ?_
            refine m_st hx hb hK hP hD hS 24 rfl (by decide) (j := (Int32.ofNat c9)) (x := (Int32.ofNat tt)) (x_inN (by omega) (by decide)) d_Mo_output_93 (fun H locs hP hD hS => ?_)
            rw [x_nat (a := c9) (by omega)] at hP hD
            have hP : va_P (dC, dI) x_cl (m_W h0 ad ar I T (m_up (m_up A 20 (upd (A 20) tt (Int32.ofNat e9))) 38 (upd (A 38) c9 (Int32.ofNat tt))) U) H := hP
            have hD : va_D Bq (m_W h0 ad ar I T (m_up (m_up A 20 (upd (A 20) tt (Int32.ofNat e9))) 38 (upd (A 38) c9 (Int32.ofNat tt))) U) := hD
            refine lv_aload_n hx hb d_Mo_output_94 rfl (lv_at hl 0 rfl) ?_
            refine m_g hx hb hts hown hK hP 39 (by decide) rfl (hts _ k_1006) (v := .ref (ad 39)) rfl d_Mo_output_95 ?_
            refine lv_iload_n hx hb d_Mo_output_98 rfl (lv_at hl 2 rfl) ?_
            refine lv_iload_n hx hb d_Mo_output_99 rfl (lv_at hl 3 rfl) ?_
            refine m_st hx hb hK hP hD hS 25 rfl (by decide) (j := (Int32.ofNat c9)) (x := vv) (x_inN (by omega) (by decide)) d_Mo_output_100 (fun H locs hP hD hS => ?_)
            rw [x_nat (a := c9) (by omega)] at hP hD
            have hP : va_P (dC, dI) x_cl (m_W h0 ad ar I T (m_up (m_up (m_up A 20 (upd (A 20) tt (Int32.ofNat e9))) 38 (upd (A 38) c9 (Int32.ofNat tt))) 39 (upd (A 39) c9 vv)) U) H := hP
            have hD : va_D Bq (m_W h0 ad ar I T (m_up (m_up (m_up A 20 (upd (A 20) tt (Int32.ofNat e9))) 38 (upd (A 38) c9 (Int32.ofNat tt))) 39 (upd (A 39) c9 vv)) U) := hD
            refine lv_aload_n hx hb d_Mo_output_101 rfl (lv_at hl 0 rfl) ?_
            refine lv_iconst (v := (-1)) hx hb d_Mo_output_102 (by decide) ?_
            refine m_p hx hb hts hown hK hP hD hS 30 (by decide) rfl (hts _ k_997) rfl (by decide +kernel) rfl (by decide) (x := (-1)) d_Mo_output_103 (fun H locs hP hD hS => ?_)
            refine W.widen (k := 0) (n := 0) (Nat.le_of_ble_eq_true rfl) (Nat.le_of_ble_eq_true rfl) ?_
            exact W.vret hx hb hr (fun t ht hW => ⟨⟨((upd I 30 (-1)), T, (m_up (m_up (m_up A 20 (upd (A 20) tt (Int32.ofNat e9))) 38 (upd (A 38) c9 (Int32.ofNat tt))) 39 (upd (A 39) c9 vv)), U), rfl, ⟨(m_fr.rf.up (by decide) _), (((m_fa.rf.up (by decide) _).up (by decide) _).up (by decide) _), rfl, rfl, ⟨b9, hb9, h43⟩, fun _ => ⟨V, own, pown, bl, role, k9, q, _, br, _, h29, hri1.write (c := c9) htt hal hst hk rfl rfl rfl rfl rfl rfl rfl rfl rfl rfl rfl, Or.inl rfl⟩⟩, by dsimp only; rw [ht]; exact hP⟩, hS.F ht⟩) hS.2.2 d_Mo_output_106
          · refine lv_aload_n hx hb d_Mo_output_79 rfl (lv_at hl 0 rfl) ?_
            refine lv_iconst (v := 2) hx hb d_Mo_output_80 (by decide) ?_
            refine m_p hx hb hts hown hK hP hD hS 33 (by decide) rfl (hts _ k_1000) rfl (by decide +kernel) rfl (by decide) (x := 2) d_Mo_output_81 (fun H locs hP hD hS => ?_)
            refine lv_goto (tgt := 106) hx hb d_Mo_output_84 (by decide) ?_
            refine W.widen (k := 0) (n := 0) (Nat.le_of_ble_eq_true rfl) (Nat.le_of_ble_eq_true rfl) ?_
            exact W.vret hx hb hr (fun t ht hW => ⟨⟨((upd I 33 2), T, (m_up A 20 (upd (A 20) tt (Int32.ofNat e9))), U), rfl, ⟨(m_fr.rf.up (by decide) _), (m_fa.rf.up (by decide) _), rfl, rfl, ⟨b9, hb9, h43⟩, fun h9 => absurd (show (2 : Int32) = 0 from h9) (by decide)⟩, by dsimp only; rw [ht]; exact hP⟩, hS.F ht⟩) hS.2.2 d_Mo_output_106
        · refine m_ld hx hb hK hP 21 rfl (by decide) (j := (Int32.ofNat c9)) (x_inN (by omega) (by decide)) d_Mo_output_57 ?_
          refine W.eq (g2 := F0 m 58 ls [.int (Int32.ofNat r9)]) (by rw [x_nat (a := c9) (by omega), show (m_up A 20 (upd (A 20) tt (Int32.ofNat e9))) 35 c9 = (Int32.ofNat r9) from hr9]) ?_
          refine lv_if_lt (tgt := 70) hx hb d_Mo_output_58 (by decide) (fun c => absurd ((x_ltN (a := r9) (b := 0) (by omega) (by omega)).mp c) (Nat.not_lt_zero _)) (fun _ => ?_)
          refine lv_aload_n hx hb d_Mo_output_61 rfl (lv_at hl 0 rfl) ?_
          refine lv_iload_n hx hb d_Mo_output_62 rfl (lv_at hl 2 rfl) ?_
          refine lv_iload_n hx hb d_Mo_output_63 rfl (lv_at hl 3 rfl) ?_
          have hFc := m_free hD hS hA
          refine va_callv (va_runV (As := [.int (Int32.ofNat c9), .int vv]) (rest := []) ⟨hx, hb, hml, hown, hts⟩ (m_hand l dC dI ar N0 z h0 ad I T (m_up A 20 (upd (A 20) tt (Int32.ofNat e9))) U c9 r9 w9 q vv H.size h29 hri.qlt (by omega) hr9l hr9 hw9l hw9) (cwV 2 hts (x_goodV k_1246 k_1248 kp_76 k_9 k_1249) rfl rfl rfl (by decide +kernel) ⟨Nat.le_of_ble_eq_true rfl, Nat.le_of_ble_eq_true rfl⟩) ⟨x_blind, va_recv hK hP (ci := 6) (q0 := 0) rfl rfl, fun U9 hU9 hW9 => x_pre hU9 hW9 hP hD hU hZ hS hAN hN0⟩ rfl rfl hl.1 rfl (lv_room (Nat.le_of_ble_eq_true rfl)) d_Mo_output_64 ⟨Nat.le_of_ble_eq_true rfl, Nat.le_of_ble_eq_true rfl⟩) hS (fun q _ h => hFc q h) hFc (fun u t H1 locs ht hvm hw hB hz1 hk1 hS => ?_)
          obtain ⟨I14, T14, A14, U14⟩ := u
          dsimp only at hw hB
          rw [ht] at hB
          have hP : va_P (dC, dI) x_cl (m_W h0 ad ar I14 T14 A14 U14) H1 := hB
          have hD : va_D Bq (m_W h0 ad ar I14 T14 A14 U14) := m_D hD
          generalize H1 = H at hP hS ⊢
          refine W.widen (k := 0) (n := 0) (Nat.le_of_ble_eq_true rfl) (Nat.le_of_ble_eq_true rfl) ?_
          obtain ⟨e1, e2, e3, fa14, h2014, h2414, h3514⟩ := hw
          rw [e1, e2, e3] at hP hD
          have hP : va_P (dC, dI) x_cl (m_W h0 ad ar (upd I 29 (Int32.ofNat (q + 1))) T A14 U) H := hP
          have hD : va_D Bq (m_W h0 ad ar (upd I 29 (Int32.ofNat (q + 1))) T A14 U) := hD
          refine lv_goto (tgt := 106) hx hb d_Mo_output_67 (by decide) ?_
          have hne : tt ≠ r9 := fun e9 => by (rw [e9] at hst; omega)
          have hrun9 : m_RUN (upd I 29 (Int32.ofNat (q + 1))) A14 := ⟨V, own, pown, bl, role, k9, q + 1, _, br, _, rfl, (hri1.hand hr9l har hsr e37 hVx hox fa14 h2014 h2414 h3514).st02 (t := tt) (by show (if tt = r9 then 1 else (if tt = r9 then 0 else st tt)) = 0; rw [if_neg hne, if_neg hne]; exact hst) (by rw [fa14 27 (by decide), fa14 21 (by decide)]; exact hk), Or.inr ⟨tt, htt, h30, by show ¬ A14 27 tt = 0; rw [fa14 27 (by decide)]; exact hal, if_pos rfl⟩⟩
          refine W.widen (k := 0) (n := 0) (Nat.le_of_ble_eq_true rfl) (Nat.le_of_ble_eq_true rfl) ?_
          exact W.vret hx hb hr (fun t ht hW => ⟨⟨((upd I 29 (Int32.ofNat (q + 1))), T, A14, U), rfl, ⟨(m_fr.rf.up (by decide) _), ((m_fa.rf.up (by decide) _).tr fa14 (by decide)), rfl, rfl, ⟨b9, hb9, h43⟩, fun _ => hrun9⟩, by dsimp only; rw [ht]; exact hP⟩, hS.F ht⟩) hS.2.2 d_Mo_output_106
    · have c_8 : ¬ 8 ≤ b9 := fun h9 => c_8 ((x_leN (a := 8) (b := b9) (by omega) (by omega)).mpr h9)
      refine lv_aload_n hx hb d_Mo_output_24 rfl (lv_at hl 0 rfl) ?_
      refine m_g hx hb hts hown hK hP 41 (by decide) rfl (hts _ k_1008) (v := .ref (ad 41)) rfl d_Mo_output_25 ?_
      refine lv_aload_n hx hb d_Mo_output_28 rfl (lv_at hl 0 rfl) ?_
      refine m_g hx hb hts hown hK hP 43 (by decide) rfl (hts _ k_1010) (v := .int (Int32.ofNat b9)) (congrArg Value.int h43) d_Mo_output_29 ?_
      refine lv_iload_n hx hb d_Mo_output_32 rfl (lv_at hl 3 rfl) ?_
      refine m_st hx hb hK hP hD hS 27 rfl (by decide) (j := (Int32.ofNat b9)) (x := vv) (x_inN (by omega) (by decide)) d_Mo_output_33 (fun H locs hP hD hS => ?_)
      rw [x_nat (a := b9) (by omega)] at hP hD
      have hP : va_P (dC, dI) x_cl (m_W h0 ad ar I T (m_up (m_up A 20 (upd (A 20) tt (Int32.ofNat e9))) 41 (upd (A 41) b9 vv)) U) H := hP
      have hD : va_D Bq (m_W h0 ad ar I T (m_up (m_up A 20 (upd (A 20) tt (Int32.ofNat e9))) 41 (upd (A 41) b9 vv)) U) := hD
      refine lv_aload_n hx hb d_Mo_output_34 rfl (lv_at hl 0 rfl) ?_
      refine lv_dup hx hb d_Mo_output_35 rfl ?_
      refine m_g hx hb hts hown hK hP 43 (by decide) rfl (hts _ k_1010) (v := .int (Int32.ofNat b9)) (congrArg Value.int h43) d_Mo_output_36 ?_
      refine lv_iconst (v := 1) hx hb d_Mo_output_39 (by decide) ?_
      refine lv_iadd hx hb d_Mo_output_40 ?_
      refine W.eq (g2 := F0 m 41 ls [.int (Int32.ofNat (b9 + 1)), .ref h0]) (by rw [← x_addN (a := b9) (b := 1)] <;> rfl) ?_
      refine m_p hx hb hts hown hK hP hD hS 43 (by decide) rfl (hts _ k_1010) rfl (by decide +kernel) rfl (by decide) (x := (Int32.ofNat (b9 + 1))) d_Mo_output_41 (fun H locs hP hD hS => ?_)
      refine lv_goto (tgt := 106) hx hb d_Mo_output_44 (by decide) ?_
      refine W.widen (k := 0) (n := 0) (Nat.le_of_ble_eq_true rfl) (Nat.le_of_ble_eq_true rfl) ?_
      exact W.vret hx hb hr (fun t ht hW => ⟨⟨((upd I 43 (Int32.ofNat (b9 + 1))), T, (m_up (m_up A 20 (upd (A 20) tt (Int32.ofNat e9))) 41 (upd (A 41) b9 vv)), U), rfl, ⟨(m_fr.rf.up (by decide) _), ((m_fa.rf.up (by decide) _).up (by decide) _), rfl, rfl, ⟨b9 + 1, by omega, rfl⟩, fun _ => ⟨V, own, pown, bl, role, k9, q, _, br, _, h29, (hri1.st02 hst hk).eq rfl rfl rfl rfl rfl rfl rfl rfl rfl rfl rfl, Or.inr ⟨tt, htt, h30, hal, if_pos rfl⟩⟩⟩, by dsimp only; rw [ht]; exact hP⟩, hS.F ht⟩) hS.2.2 d_Mo_output_106
