-- ===== 21.type: type of the class on a new object, by program =====
theorem k_220 : (Jvm.Cond.codeWith ({ cls := "ChannelMachineLaw", name := "type", desc := "(LChannelMachine;J[J)I" } : Jvm.MethodName) method_3_code (5 : Nat) (Option.some Jvm.ClassFile.FieldType.int) [((0 : Nat), (9 : Nat), (12 : Nat), (13 : Nat)), ((0 : Nat), (9 : Nat), (16 : Nat), (15 : Nat))]) ∈ x_T := x_at 220 (by decide +kernel) (by decide +kernel)
theorem k_223 : (Jvm.Cond.methodLink "ChannelMachineLaw" (7 : Nat) ({ cls := "ChannelMachine", name := "type", desc := "(J)I" } : Jvm.MethodName)) ∈ x_T := x_at 223 (by decide +kernel) (by decide +kernel)
theorem k_224 : (Jvm.Cond.instanceMethod ({ cls := "ChannelMachine", name := "type", desc := "(J)I" } : Jvm.MethodName)) ∈ x_T := x_at 224 (by decide +kernel) (by decide +kernel)
theorem k_225 : (Jvm.Cond.selects "ChannelMachine" ({ cls := "ChannelMachine", name := "type", desc := "(J)I" } : Jvm.MethodName) ({ cls := "ChannelMachine", name := "type", desc := "(J)I" } : Jvm.MethodName)) ∈ x_T := x_at 225 (by decide +kernel) (by decide +kernel)
theorem k_226 : (Jvm.Cond.code ({ cls := "ChannelMachine", name := "type", desc := "(J)I" } : Jvm.MethodName) prog_1_method_2_code (6 : Nat) (Option.some Jvm.ClassFile.FieldType.int)) ∈ x_T := x_at 226 (by decide +kernel) (by decide +kernel)
theorem k_227 : (Jvm.Cond.methodLink "ChannelMachine" (27 : Nat) ({ cls := "ChannelMachine", name := "byteAt", desc := "(JI)I" } : Jvm.MethodName)) ∈ x_T := x_at 227 (by decide +kernel) (by decide +kernel)
theorem k_228 : (Jvm.Cond.static ({ cls := "ChannelMachine", name := "byteAt", desc := "(JI)I" } : Jvm.MethodName)) ∈ x_T := x_at 228 (by decide +kernel) (by decide +kernel)
theorem k_229 : (Jvm.Cond.code ({ cls := "ChannelMachine", name := "byteAt", desc := "(JI)I" } : Jvm.MethodName) prog_1_method_3_code (3 : Nat) (Option.some Jvm.ClassFile.FieldType.int)) ∈ x_T := x_at 229 (by decide +kernel) (by decide +kernel)
theorem k_315 : (Jvm.Cond.methodLink "ChannelMachine" (46 : Nat) ({ cls := "ChannelMachine$Reader", name := "append", desc := "(C)V" } : Jvm.MethodName)) ∈ x_T := x_at 315 (by decide +kernel) (by decide +kernel)
theorem k_316 : (Jvm.Cond.instanceMethod ({ cls := "ChannelMachine$Reader", name := "append", desc := "(C)V" } : Jvm.MethodName)) ∈ x_T := x_at 316 (by decide +kernel) (by decide +kernel)
theorem k_317 : (Jvm.Cond.selects "ChannelMachine$Reader" ({ cls := "ChannelMachine$Reader", name := "append", desc := "(C)V" } : Jvm.MethodName) ({ cls := "ChannelMachine$Reader", name := "append", desc := "(C)V" } : Jvm.MethodName)) ∈ x_T := x_at 317 (by decide +kernel) (by decide +kernel)
theorem k_318 : (Jvm.Cond.code ({ cls := "ChannelMachine$Reader", name := "append", desc := "(C)V" } : Jvm.MethodName) prog_8_method_2_code (2 : Nat) (Option.none : Option Jvm.ClassFile.FieldType)) ∈ x_T := x_at 318 (by decide +kernel) (by decide +kernel)
theorem d_Reader_append_0 : decode prog_8_method_2_code 0 = .ok (.aload_n 0, 1) := by decide +kernel
theorem d_Reader_append_1 : decode prog_8_method_2_code 1 = .ok (.getfield 19, 3) := by decide +kernel
theorem d_Reader_append_4 : decode prog_8_method_2_code 4 = .ok (.bipush 72, 2) := by decide +kernel
theorem d_Reader_append_6 : decode prog_8_method_2_code 6 = .ok (.if_icmp .ge 23, 3) := by decide +kernel
theorem d_Reader_append_9 : decode prog_8_method_2_code 9 = .ok (.aload_n 0, 1) := by decide +kernel
theorem d_Reader_append_10 : decode prog_8_method_2_code 10 = .ok (.getfield 9, 3) := by decide +kernel
theorem d_Reader_append_13 : decode prog_8_method_2_code 13 = .ok (.aload_n 0, 1) := by decide +kernel
theorem d_Reader_append_14 : decode prog_8_method_2_code 14 = .ok (.getfield 19, 3) := by decide +kernel
theorem d_Reader_append_17 : decode prog_8_method_2_code 17 = .ok (.iload_n 1, 1) := by decide +kernel
theorem d_Reader_append_18 : decode prog_8_method_2_code 18 = .ok (.castore, 1) := by decide +kernel
theorem d_Reader_append_19 : decode prog_8_method_2_code 19 = .ok (.aload_n 0, 1) := by decide +kernel
theorem d_Reader_append_20 : decode prog_8_method_2_code 20 = .ok (.dup, 1) := by decide +kernel
theorem d_Reader_append_21 : decode prog_8_method_2_code 21 = .ok (.getfield 19, 3) := by decide +kernel
theorem d_Reader_append_24 : decode prog_8_method_2_code 24 = .ok (.iconst 1, 1) := by decide +kernel
theorem d_Reader_append_25 : decode prog_8_method_2_code 25 = .ok (.iadd, 1) := by decide +kernel
theorem d_Reader_append_26 : decode prog_8_method_2_code 26 = .ok (.putfield 19, 3) := by decide +kernel
theorem d_Reader_append_29 : decode prog_8_method_2_code 29 = .ok (.return_, 1) := by decide +kernel
theorem d_CM_type_0 : decode prog_1_method_2_code 0 = .ok (.iconst 0, 1) := by decide +kernel
theorem d_CM_type_1 : decode prog_1_method_2_code 1 = .ok (.istore_n 3, 1) := by decide +kernel
theorem d_CM_type_2 : decode prog_1_method_2_code 2 = .ok (.iconst 0, 1) := by decide +kernel
theorem d_CM_type_3 : decode prog_1_method_2_code 3 = .ok (.istore 4, 2) := by decide +kernel
theorem d_CM_type_5 : decode prog_1_method_2_code 5 = .ok (.iload 4, 2) := by decide +kernel
theorem d_CM_type_7 : decode prog_1_method_2_code 7 = .ok (.bipush 8, 2) := by decide +kernel
theorem d_CM_type_9 : decode prog_1_method_2_code 9 = .ok (.if_icmp .ge 59, 3) := by decide +kernel
theorem d_CM_type_12 : decode prog_1_method_2_code 12 = .ok (.lload_n 1, 1) := by decide +kernel
theorem d_CM_type_13 : decode prog_1_method_2_code 13 = .ok (.iload 4, 2) := by decide +kernel
theorem d_CM_type_15 : decode prog_1_method_2_code 15 = .ok (.invokestatic 27, 3) := by decide +kernel
theorem d_CM_type_18 : decode prog_1_method_2_code 18 = .ok (.istore 5, 2) := by decide +kernel
theorem d_CM_type_20 : decode prog_1_method_2_code 20 = .ok (.iload 5, 2) := by decide +kernel
theorem d_CM_type_22 : decode prog_1_method_2_code 22 = .ok (.ifCond .eq 27, 3) := by decide +kernel
theorem d_CM_type_25 : decode prog_1_method_2_code 25 = .ok (.iload 5, 2) := by decide +kernel
theorem d_CM_type_27 : decode prog_1_method_2_code 27 = .ok (.bipush 33, 2) := by decide +kernel
theorem d_CM_type_29 : decode prog_1_method_2_code 29 = .ok (.if_icmp .lt 10, 3) := by decide +kernel
theorem d_CM_type_32 : decode prog_1_method_2_code 32 = .ok (.iload 5, 2) := by decide +kernel
theorem d_CM_type_34 : decode prog_1_method_2_code 34 = .ok (.bipush 126, 2) := by decide +kernel
theorem d_CM_type_36 : decode prog_1_method_2_code 36 = .ok (.if_icmp .le 13, 3) := by decide +kernel
theorem d_CM_type_39 : decode prog_1_method_2_code 39 = .ok (.new 31, 3) := by decide +kernel
theorem d_CM_type_42 : decode prog_1_method_2_code 42 = .ok (.dup, 1) := by decide +kernel
theorem d_CM_type_43 : decode prog_1_method_2_code 43 = .ok (.ldc 33, 2) := by decide +kernel
theorem d_CM_type_45 : decode prog_1_method_2_code 45 = .ok (.invokespecial 35, 3) := by decide +kernel
theorem d_CM_type_48 : decode prog_1_method_2_code 48 = .ok (.athrow, 1) := by decide +kernel
theorem d_CM_type_49 : decode prog_1_method_2_code 49 = .ok (.iload_n 3, 1) := by decide +kernel
theorem d_CM_type_50 : decode prog_1_method_2_code 50 = .ok (.iload 5, 2) := by decide +kernel
theorem d_CM_type_52 : decode prog_1_method_2_code 52 = .ok (.ifCond .ne 7, 3) := by decide +kernel
theorem d_CM_type_55 : decode prog_1_method_2_code 55 = .ok (.iconst 0, 1) := by decide +kernel
theorem d_CM_type_56 : decode prog_1_method_2_code 56 = .ok (.goto 4, 3) := by decide +kernel
theorem d_CM_type_59 : decode prog_1_method_2_code 59 = .ok (.iconst 1, 1) := by decide +kernel
theorem d_CM_type_60 : decode prog_1_method_2_code 60 = .ok (.iadd, 1) := by decide +kernel
theorem d_CM_type_61 : decode prog_1_method_2_code 61 = .ok (.istore_n 3, 1) := by decide +kernel
theorem d_CM_type_62 : decode prog_1_method_2_code 62 = .ok (.iinc 4 1, 3) := by decide +kernel
theorem d_CM_type_65 : decode prog_1_method_2_code 65 = .ok (.goto (-60), 3) := by decide +kernel
theorem d_CM_type_68 : decode prog_1_method_2_code 68 = .ok (.aload_n 0, 1) := by decide +kernel
theorem d_CM_type_69 : decode prog_1_method_2_code 69 = .ok (.getfield 10, 3) := by decide +kernel
theorem d_CM_type_72 : decode prog_1_method_2_code 72 = .ok (.getfield 38, 3) := by decide +kernel
theorem d_CM_type_75 : decode prog_1_method_2_code 75 = .ok (.iload_n 3, 1) := by decide +kernel
theorem d_CM_type_76 : decode prog_1_method_2_code 76 = .ok (.iadd, 1) := by decide +kernel
theorem d_CM_type_77 : decode prog_1_method_2_code 77 = .ok (.bipush 72, 2) := by decide +kernel
theorem d_CM_type_79 : decode prog_1_method_2_code 79 = .ok (.if_icmp .le 13, 3) := by decide +kernel
theorem d_CM_type_82 : decode prog_1_method_2_code 82 = .ok (.new 41, 3) := by decide +kernel
theorem d_CM_type_85 : decode prog_1_method_2_code 85 = .ok (.dup, 1) := by decide +kernel
theorem d_CM_type_86 : decode prog_1_method_2_code 86 = .ok (.ldc 43, 2) := by decide +kernel
theorem d_CM_type_88 : decode prog_1_method_2_code 88 = .ok (.invokespecial 45, 3) := by decide +kernel
theorem d_CM_type_91 : decode prog_1_method_2_code 91 = .ok (.athrow, 1) := by decide +kernel
theorem d_CM_type_92 : decode prog_1_method_2_code 92 = .ok (.iconst 0, 1) := by decide +kernel
theorem d_CM_type_93 : decode prog_1_method_2_code 93 = .ok (.istore 4, 2) := by decide +kernel
theorem d_CM_type_95 : decode prog_1_method_2_code 95 = .ok (.iload 4, 2) := by decide +kernel
theorem d_CM_type_97 : decode prog_1_method_2_code 97 = .ok (.bipush 8, 2) := by decide +kernel
theorem d_CM_type_99 : decode prog_1_method_2_code 99 = .ok (.if_icmp .ge 32, 3) := by decide +kernel
theorem d_CM_type_102 : decode prog_1_method_2_code 102 = .ok (.lload_n 1, 1) := by decide +kernel
theorem d_CM_type_103 : decode prog_1_method_2_code 103 = .ok (.iload 4, 2) := by decide +kernel
theorem d_CM_type_105 : decode prog_1_method_2_code 105 = .ok (.invokestatic 27, 3) := by decide +kernel
theorem d_CM_type_108 : decode prog_1_method_2_code 108 = .ok (.istore 5, 2) := by decide +kernel
theorem d_CM_type_110 : decode prog_1_method_2_code 110 = .ok (.iload 5, 2) := by decide +kernel
theorem d_CM_type_112 : decode prog_1_method_2_code 112 = .ok (.ifCond .eq 13, 3) := by decide +kernel
theorem d_CM_type_115 : decode prog_1_method_2_code 115 = .ok (.aload_n 0, 1) := by decide +kernel
theorem d_CM_type_116 : decode prog_1_method_2_code 116 = .ok (.getfield 10, 3) := by decide +kernel
theorem d_CM_type_119 : decode prog_1_method_2_code 119 = .ok (.iload 5, 2) := by decide +kernel
theorem d_CM_type_121 : decode prog_1_method_2_code 121 = .ok (.i2c, 1) := by decide +kernel
theorem d_CM_type_122 : decode prog_1_method_2_code 122 = .ok (.invokevirtual 46, 3) := by decide +kernel
theorem d_CM_type_125 : decode prog_1_method_2_code 125 = .ok (.iinc 4 1, 3) := by decide +kernel
theorem d_CM_type_128 : decode prog_1_method_2_code 128 = .ok (.goto (-33), 3) := by decide +kernel
theorem d_CM_type_131 : decode prog_1_method_2_code 131 = .ok (.aload_n 0, 1) := by decide +kernel
theorem d_CM_type_132 : decode prog_1_method_2_code 132 = .ok (.getfield 10, 3) := by decide +kernel
theorem d_CM_type_135 : decode prog_1_method_2_code 135 = .ok (.getfield 38, 3) := by decide +kernel
theorem d_CM_type_138 : decode prog_1_method_2_code 138 = .ok (.ireturn, 1) := by decide +kernel
theorem d_La_type_0 : decode method_3_code 0 = .ok (.aload_n 3, 1) := by decide +kernel
theorem d_La_type_1 : decode method_3_code 1 = .ok (.iconst 0, 1) := by decide +kernel
theorem d_La_type_2 : decode method_3_code 2 = .ok (.aload_n 0, 1) := by decide +kernel
theorem d_La_type_3 : decode method_3_code 3 = .ok (.lload_n 1, 1) := by decide +kernel
theorem d_La_type_4 : decode method_3_code 4 = .ok (.invokevirtual 7, 3) := by decide +kernel
theorem d_La_type_7 : decode method_3_code 7 = .ok (.i2l, 1) := by decide +kernel
theorem d_La_type_8 : decode method_3_code 8 = .ok (.lastore, 1) := by decide +kernel
theorem d_La_type_9 : decode method_3_code 9 = .ok (.goto 11, 3) := by decide +kernel
theorem d_La_type_12 : decode method_3_code 12 = .ok (.astore 4, 2) := by decide +kernel
theorem d_La_type_14 : decode method_3_code 14 = .ok (.iconst 1, 1) := by decide +kernel
theorem d_La_type_15 : decode method_3_code 15 = .ok (.ireturn, 1) := by decide +kernel
theorem d_La_type_16 : decode method_3_code 16 = .ok (.astore 4, 2) := by decide +kernel
theorem d_La_type_18 : decode method_3_code 18 = .ok (.iconst 2, 1) := by decide +kernel
theorem d_La_type_19 : decode method_3_code 19 = .ok (.ireturn, 1) := by decide +kernel
theorem d_La_type_20 : decode method_3_code 20 = .ok (.iconst 0, 1) := by decide +kernel
theorem d_La_type_21 : decode method_3_code 21 = .ok (.ireturn, 1) := by decide +kernel
set_option maxHeartbeats 4000000 in
set_option maxRecDepth 100000 in
theorem c_Reader_append (l : Launch) (dC : Nat → ClassId) (dI : Nat → Nat → Nat) (ar : Nat → ClassId) (N0 : Nat) (z : Nat → Nat) (h0 tx co : Nat) (n ch : Int32) (g : Nat → Int32) (sz : Nat) (hn : vp_in n 72) (hn2 : ¬ (72 : Int32) ≤ n) : Met l ({ cls := "ChannelMachine$Reader", name := "append", desc := "(C)V" } : Jvm.MethodName) ((Jvm.Cond.code ({ cls := "ChannelMachine$Reader", name := "append", desc := "(C)V" } : Jvm.MethodName) prog_8_method_2_code (2 : Nat) (Option.none : Option Jvm.ClassFile.FieldType)) :: x_T) ({ frames := 0, cells := 0, slots := 0, locals := 0 }) (x_Pc (dC, dI) ar N0 z [(h0, .inr (3, [.ref tx, .ref co, .int n, .int 0, .int 0, .int 0, .int 0, .int 0, .null])), (tx, .inl (ar 1, 72, .inl g))] sz [.ref h0, .int ch]) (va_Qv (fun (u : Unit) => True) (fun u t => va_P (dC, dI) x_cl [(h0, .inr (3, [.ref tx, .ref co, .int (n + 1), .int 0, .int 0, .int 0, .int 0, .int 0, .null])), (tx, .inl (ar 1, 72, .inl (upd g (Int32.toNatClampNeg n) (vp_nar .char ch))))] t.heap ∧ va_D (va_A [(h0, .inr (3, [.ref tx, .ref co, .int n, .int 0, .int 0, .int 0, .int 0, .int 0, .null])), (tx, .inl (ar 1, 72, .inl g))] sz) [(h0, .inr (3, [.ref tx, .ref co, .int (n + 1), .int 0, .int 0, .int 0, .int 0, .int 0, .null])), (tx, .inl (ar 1, 72, .inl (upd g (Int32.toNatClampNeg n) (vp_nar .char ch))))]) (va_A [(h0, .inr (3, [.ref tx, .ref co, .int n, .int 0, .int 0, .int 0, .int 0, .int 0, .null])), (tx, .inl (ar 1, 72, .inl g))] sz)) 0 0 (va_A [(h0, .inr (3, [.ref tx, .ref co, .int n, .int 0, .int 0, .int 0, .int 0, .int 0, .null])), (tx, .inl (ar 1, 72, .inl g))] sz) := by
  refine Met.ofW (cc := prog_8_method_2_code) (maxL := 2) (ret := none) (by decide) rfl ?_
  intro p e s m args below meth c s₁ B hml hv
  obtain ⟨rfl, hsz, hN0, hP, hU, hZ, hD0⟩ := hv
  have hK := hU.1
  have hx := B.exec
  have hb := B.bytes
  have hr := B.returns
  have hts : ∀ w ∈ x_T, w.before ([.ref h0, .int ch] : List Value).toArray s = true := fun w h => atoms_spec (ws := (Jvm.Cond.code ({ cls := "ChannelMachine$Reader", name := "append", desc := "(C)V" } : Jvm.MethodName) prog_8_method_2_code (2 : Nat) (Option.none : Option Jvm.ClassFile.FieldType)) :: x_T) B.pre w (List.mem_cons_of_mem _ h)
  have hown : s.vm.findClass "ChannelMachine$Reader" = some m.cls := findClass_of_methodNamed B.named
  have hlocks := B.notSynchronized
  subst hsz
  have hD := hD0.self (sz := s.heap.size)
  have hAN := x_AN hD0 hN0
  generalize hAe : va_A [(h0, .inr (3, [.ref tx, .ref co, .int n, .int 0, .int 0, .int 0, .int 0, .int 0, .null])), (tx, .inl (ar 1, 72, .inl g))] s.heap.size = A at hD hAN ⊢
  have hA : ∀ q : Nat, s.heap.size ≤ q → A q := fun q h => by rw [← hAe]; exact Or.inr h
  have hS : va_S A s.heap s.heap [] := va_S.rf
  have hP : va_P (dC, dI) x_cl [(h0, .inr (3, [.ref tx, .ref co, .int n, .int 0, .int 0, .int 0, .int 0, .int 0, .null])), (tx, .inl (ar 1, 72, .inl g))] s.heap := hP
  have hl := lv_entry ([.ref h0, .int ch]) (n := 2) (Nat.le_of_ble_eq_true rfl)
  rw [lg_entry_eq]
  generalize (lg_sl ([.ref h0, .int ch]) ++ List.replicate (2 - (lg_sl ([.ref h0, .int ch])).length) Slot.unset).toArray = ls at hl ⊢
  have hl : lv_has ls 2 [(0, .ref h0), (1, .int ch)] := hl
  have hH0 : s.heap.size ≤ s.heap.size := Nat.le_refl _
  refine lv_aload_n hx hb d_Reader_append_0 rfl (lv_at hl 0 rfl) ?_
  refine va_get (D := (dC, dI)) (ci := 3) (v := .int n) (C := "ChannelMachine$Reader") (T := F_Reader) (N := 9) hx hb hts i_Reader hown hK hP 0 rfl rfl 2 (by decide) (hts _ k_45) (fun _ h9 => h9) rfl d_Reader_append_1 ?_
  refine lv_bipush (v := 72) hx hb d_Reader_append_4 (by decide) ?_
  refine lv_icmp_ge (tgt := 29) hx hb d_Reader_append_6 (by decide) (fun c1 => absurd c1 hn2) (fun _ => ?_)
  refine lv_aload_n hx hb d_Reader_append_9 rfl (lv_at hl 0 rfl) ?_
  refine va_get (D := (dC, dI)) (ci := 3) (v := .ref tx) (C := "ChannelMachine$Reader") (T := F_Reader) (N := 9) hx hb hts i_Reader hown hK hP 0 rfl rfl 0 (by decide) (hts _ k_43) (fun _ h9 => h9) rfl d_Reader_append_10 ?_
  refine lv_aload_n hx hb d_Reader_append_13 rfl (lv_at hl 0 rfl) ?_
  refine va_get (D := (dC, dI)) (ci := 3) (v := .int n) (C := "ChannelMachine$Reader") (T := F_Reader) (N := 9) hx hb hts i_Reader hown hK hP 0 rfl rfl 2 (by decide) (hts _ k_45) (fun _ h9 => h9) rfl d_Reader_append_14 ?_
  refine lv_iload_n hx hb d_Reader_append_17 rfl (lv_at hl 1 rfl) ?_
  refine va_cast hx hb hK hP hD hS 1 1 rfl rfl (i := n) (x := ch) hn d_Reader_append_18 (fun H locs hP hD hS => ?_)
  have hP : va_P (dC, dI) x_cl [(h0, .inr (3, [.ref tx, .ref co, .int n, .int 0, .int 0, .int 0, .int 0, .int 0, .null])), (tx, .inl (ar 1, 72, .inl (upd g (Int32.toNatClampNeg n) (vp_nar .char ch))))] H := hP
  have hD : va_D A [(h0, .inr (3, [.ref tx, .ref co, .int n, .int 0, .int 0, .int 0, .int 0, .int 0, .null])), (tx, .inl (ar 1, 72, .inl (upd g (Int32.toNatClampNeg n) (vp_nar .char ch))))] := hD
  refine lv_aload_n hx hb d_Reader_append_19 rfl (lv_at hl 0 rfl) ?_
  refine lv_dup hx hb d_Reader_append_20 rfl ?_
  refine va_get (D := (dC, dI)) (ci := 3) (v := .int n) (C := "ChannelMachine$Reader") (T := F_Reader) (N := 9) hx hb hts i_Reader hown hK hP 0 rfl rfl 2 (by decide) (hts _ k_45) (fun _ h9 => h9) rfl d_Reader_append_21 ?_
  refine lv_iconst (v := 1) hx hb d_Reader_append_24 (by decide) ?_
  refine lv_iadd hx hb d_Reader_append_25 ?_
  refine va_put (D := (dC, dI)) (ci := 3) (v := .int (n + 1)) (ty := .int) (C := "ChannelMachine$Reader") (T := F_Reader) (N := 9) hx hb hts i_Reader t_Reader t_Reader_ok n_Reader hown hK hP hD hS 0 rfl rfl 2 (by decide) (hts _ k_45) (fun _ h9 => h9) rfl (by decide +kernel) rfl rfl (Nat.le_of_ble_eq_true rfl) d_Reader_append_26 (fun H locs hP hD hS => ?_)
  have hP : va_P (dC, dI) x_cl [(h0, .inr (3, [.ref tx, .ref co, .int (n + 1), .int 0, .int 0, .int 0, .int 0, .int 0, .null])), (tx, .inl (ar 1, 72, .inl (upd g (Int32.toNatClampNeg n) (vp_nar .char ch))))] H := hP
  have hD : va_D A [(h0, .inr (3, [.ref tx, .ref co, .int (n + 1), .int 0, .int 0, .int 0, .int 0, .int 0, .null])), (tx, .inl (ar 1, 72, .inl (upd g (Int32.toNatClampNeg n) (vp_nar .char ch))))] := hD
  refine W.widen (k := 0) (n := 0) (Nat.le_of_ble_eq_true rfl) (Nat.le_of_ble_eq_true rfl) ?_
  exact W.vret hx hb hr (fun t ht hW => ⟨⟨(), rfl, trivial, ⟨by rw [ht]; exact hP, hD⟩⟩, hS.F ht⟩) hS.2.2 d_Reader_append_29
set_option maxHeartbeats 4000000 in
set_option maxRecDepth 100000 in
theorem c_CM_type (l : Launch) (hst : l.stackTraces = false) (dC : Nat → ClassId) (dI : Nat → Nat → Nat) (ar : Nat → ClassId) (N0 : Nat) (z : Nat → Nat) (h0 rd mc va ch gi bo qu sl sk : Nat) (tx co : Nat) (eg : Int64) (sz : Nat) : vx_Met l ({ cls := "ChannelMachine", name := "type", desc := "(J)I" } : Jvm.MethodName) ((Jvm.Cond.code ({ cls := "ChannelMachine", name := "type", desc := "(J)I" } : Jvm.MethodName) prog_1_method_2_code (6 : Nat) (Option.some Jvm.ClassFile.FieldType.int)) :: x_T) ({ frames := 6, cells := 1, slots := 6, locals := 82 }) (x_Pc (dC, dI) ar N0 z [(h0, .inr (5, [.ref rd, .ref mc, .int (-1)])), (rd, .inr (3, [.ref tx, .ref co, .int 0, .int 0, .int 0, .int 0, .int 0, .int 0, .null])), (tx, .inl (ar 1, 72, .inl (fun _ => 0)))] sz [.ref h0, .long eg]) (va_Qi (fun (r : Int32) (u : Unit) => x_okk eg 8 ∧ r = x_cn eg 8) (fun u t => True) (va_A [(h0, .inr (5, [.ref rd, .ref mc, .int (-1)])), (rd, .inr (3, [.ref tx, .ref co, .int 0, .int 0, .int 0, .int 0, .int 0, .int 0, .null])), (tx, .inl (ar 1, 72, .inl (fun _ => 0)))] sz)) (vx_X (fun (_ : Unit) => ¬ x_okk eg 8) (fun E _ t => E = "java/lang/IllegalArgumentException") (va_A [(h0, .inr (5, [.ref rd, .ref mc, .int (-1)])), (rd, .inr (3, [.ref tx, .ref co, .int 0, .int 0, .int 0, .int 0, .int 0, .int 0, .null])), (tx, .inl (ar 1, 72, .inl (fun _ => 0)))] sz)) 1 6 (va_A [(h0, .inr (5, [.ref rd, .ref mc, .int (-1)])), (rd, .inr (3, [.ref tx, .ref co, .int 0, .int 0, .int 0, .int 0, .int 0, .int 0, .null])), (tx, .inl (ar 1, 72, .inl (fun _ => 0)))] sz) := by
  refine vx_ofW (cc := prog_1_method_2_code) (maxL := 6) (ret := (some .int)) (by decide) rfl ?_
  intro p e s m args below meth c s₁ B hml htb hv
  obtain ⟨rfl, hsz, hN0, hP, hU, hZ, hD0⟩ := hv
  have hK := hU.1
  have hx := B.exec
  have hb := B.bytes
  have hr := B.returns
  have hts : ∀ w ∈ x_T, w.before ([.ref h0, .long eg] : List Value).toArray s = true := fun w h => atoms_spec (ws := (Jvm.Cond.code ({ cls := "ChannelMachine", name := "type", desc := "(J)I" } : Jvm.MethodName) prog_1_method_2_code (6 : Nat) (Option.some Jvm.ClassFile.FieldType.int)) :: x_T) B.pre w (List.mem_cons_of_mem _ h)
  have hown : s.vm.findClass "ChannelMachine" = some m.cls := findClass_of_methodNamed B.named
  have hlocks := B.notSynchronized
  subst hsz
  have hD := hD0.self (sz := s.heap.size)
  have hAN := x_AN hD0 hN0
  generalize hAe : va_A [(h0, .inr (5, [.ref rd, .ref mc, .int (-1)])), (rd, .inr (3, [.ref tx, .ref co, .int 0, .int 0, .int 0, .int 0, .int 0, .int 0, .null])), (tx, .inl (ar 1, 72, .inl (fun _ => 0)))] s.heap.size = A at hD hAN ⊢
  have hA : ∀ q : Nat, s.heap.size ≤ q → A q := fun q h => by rw [← hAe]; exact Or.inr h
  have hS : va_S A s.heap s.heap [] := va_S.rf
  have hP : va_P (dC, dI) x_cl [(h0, .inr (5, [.ref rd, .ref mc, .int (-1)])), (rd, .inr (3, [.ref tx, .ref co, .int 0, .int 0, .int 0, .int 0, .int 0, .int 0, .null])), (tx, .inl (ar 1, 72, .inl (fun _ => 0)))] s.heap := hP
  have hl := lv_entry ([.ref h0, .long eg]) (n := 6) (Nat.le_of_ble_eq_true rfl)
  rw [lg_entry_eq]
  generalize (lg_sl ([.ref h0, .long eg]) ++ List.replicate (6 - (lg_sl ([.ref h0, .long eg])).length) Slot.unset).toArray = ls at hl ⊢
  have hl : lv_has ls 6 [(0, .ref h0), (1, .long eg)] := hl
  have hH0 : s.heap.size ≤ s.heap.size := Nat.le_refl _
  refine lv_iconst (v := 0) hx hb d_CM_type_0 (by decide) ?_
  refine lv_istore_n (lv' := [(3, .int 0), (0, .ref h0), (1, .long eg)]) hx hb d_CM_type_1 rfl hl (by decide) rfl (fun ls hl => ?_)
  refine lv_iconst (v := 0) hx hb d_CM_type_2 (by decide) ?_
  refine lv_istore (lv' := [(4, .int 0), (3, .int 0), (0, .ref h0), (1, .long eg)]) hx hb d_CM_type_3 hl (by decide) rfl (fun ls hl => ?_)
  refine x_down (fun k H locs ls => va_P (dC, dI) x_cl [(h0, .inr (5, [.ref rd, .ref mc, .int (-1)])), (rd, .inr (3, [.ref tx, .ref co, .int 0, .int 0, .int 0, .int 0, .int 0, .int 0, .null])), (tx, .inl (ar 1, 72, .inl (fun _ => 0)))] H ∧ va_D A [(h0, .inr (5, [.ref rd, .ref mc, .int (-1)])), (rd, .inr (3, [.ref tx, .ref co, .int 0, .int 0, .int 0, .int 0, .int 0, .int 0, .null])), (tx, .inl (ar 1, 72, .inl (fun _ => 0)))] ∧ va_S A s.heap H locs ∧ lv_has ls 6 [(4, .int (Int32.ofNat k)), (3, .int (x_cn eg k)), (0, .ref h0), (1, .long eg)] ∧ x_okk eg k) 8 (fun H locs ls h9 => ?_) (fun k hk ih H locs ls h9 => ?_) ⟨hP, hD, hS, lv_sub hl [0, 1, 2, 3] rfl, x_ok0⟩
  · obtain ⟨hP, hD, hS, hl, hok⟩ := h9
    have hl : lv_has ls 6 [(4, .int 8), (3, .int (x_cn eg 8)), (0, .ref h0), (1, .long eg)] := hl
    refine lv_iload hx hb d_CM_type_5 (lv_at hl 0 rfl) ?_
    refine lv_bipush (v := 8) hx hb d_CM_type_7 (by decide) ?_
    refine lv_icmp_ge (tgt := 68) hx hb d_CM_type_9 (by decide) (fun _ => ?_) (fun c1 => absurd (by decide) c1)
    refine lv_aload_n hx hb d_CM_type_68 rfl (lv_at hl 2 rfl) ?_
    refine va_get (D := (dC, dI)) (ci := 5) (v := .ref rd) (C := "ChannelMachine") (T := F_CM) (N := 3) hx hb hts i_CM hown hK hP 0 rfl rfl 0 (by decide) (hts _ k_194) (fun _ h9 => h9) rfl d_CM_type_69 ?_
    refine va_getN (D := (dC, dI)) (ci := 3) (v := .int 0) (C := "ChannelMachine$Reader") (T := F_Reader) (N := 9) hx hb hts i_Reader hown hK hP 1 rfl rfl 2 (by decide) (hU.2.1 _ kn_46) (fun _ h9 => h9) rfl d_CM_type_72 ?_
    refine lv_iload_n hx hb d_CM_type_75 rfl (lv_at hl 1 rfl) ?_
    refine lv_iadd hx hb d_CM_type_76 ?_
    refine lv_bipush (v := 72) hx hb d_CM_type_77 (by decide) ?_
    refine lv_icmp_le (tgt := 92) hx hb d_CM_type_79 (by decide) (fun _ => ?_) (fun c2 => absurd (x_c72 eg) c2)
    refine lv_iconst (v := 0) hx hb d_CM_type_92 (by decide) ?_
    refine lv_istore (lv' := [(4, .int 0), (3, .int (x_cn eg 8)), (0, .ref h0), (1, .long eg)]) hx hb d_CM_type_93 hl (by decide) rfl (fun ls hl => ?_)
    refine x_down (fun k H locs ls => ∃ g : Nat → Int32, va_P (dC, dI) x_cl [(h0, .inr (5, [.ref rd, .ref mc, .int (-1)])), (rd, .inr (3, [.ref tx, .ref co, .int (x_cn eg k), .int 0, .int 0, .int 0, .int 0, .int 0, .null])), (tx, .inl (ar 1, 72, .inl g))] H ∧ va_D A [(h0, .inr (5, [.ref rd, .ref mc, .int (-1)])), (rd, .inr (3, [.ref tx, .ref co, .int (x_cn eg k), .int 0, .int 0, .int 0, .int 0, .int 0, .null])), (tx, .inl (ar 1, 72, .inl g))] ∧ va_S A s.heap H locs ∧ lv_has ls 6 [(4, .int (Int32.ofNat k)), (0, .ref h0), (1, .long eg)]) 8 (fun H locs ls h9 => ?_) (fun k hk ih H locs ls h9 => ?_) ⟨(fun _ => 0), hP, hD, hS, lv_sub hl [0, 2, 3] rfl⟩
    · obtain ⟨g, hP, hD, hS, hl⟩ := h9
      have hl : lv_has ls 6 [(4, .int 8), (0, .ref h0), (1, .long eg)] := hl
      refine lv_iload hx hb d_CM_type_95 (lv_at hl 0 rfl) ?_
      refine lv_bipush (v := 8) hx hb d_CM_type_97 (by decide) ?_
      refine lv_icmp_ge (tgt := 131) hx hb d_CM_type_99 (by decide) (fun _ => ?_) (fun c3 => absurd (by decide) c3)
      refine lv_aload_n hx hb d_CM_type_131 rfl (lv_at hl 1 rfl) ?_
      refine va_get (D := (dC, dI)) (ci := 5) (v := .ref rd) (C := "ChannelMachine") (T := F_CM) (N := 3) hx hb hts i_CM hown hK hP 0 rfl rfl 0 (by decide) (hts _ k_194) (fun _ h9 => h9) rfl d_CM_type_132 ?_
      refine va_getN (D := (dC, dI)) (ci := 3) (v := .int (x_cn eg 8)) (C := "ChannelMachine$Reader") (T := F_Reader) (N := 9) hx hb hts i_Reader hown hK hP 1 rfl rfl 2 (by decide) (hU.2.1 _ kn_46) (fun _ h9 => h9) rfl d_CM_type_135 ?_
      refine vx_ret ?_
      refine W.widen (k := 1) (n := 6) (Nat.le_of_ble_eq_true rfl) (Nat.le_of_ble_eq_true rfl) ?_
      exact W.iret (v := (x_cn eg 8)) hx hb hr (fun t ht hW => ⟨⟨(x_cn eg 8), (), rfl, ⟨hok, rfl⟩, trivial⟩, hS.F ht⟩) hS.2.2 d_CM_type_138
    · obtain ⟨g, hP, hD, hS, hl⟩ := h9
      refine lv_iload hx hb d_CM_type_95 (lv_at hl 0 rfl) ?_
      refine lv_bipush (v := 8) hx hb d_CM_type_97 (by decide) ?_
      refine lv_icmp_ge (tgt := 131) hx hb d_CM_type_99 (by decide) (fun c4 => absurd c4 (x_k8 hk)) (fun _ => ?_)
      refine lv_lload_n hx hb d_CM_type_102 rfl (lv_at hl 2 rfl) ?_
      refine lv_iload hx hb d_CM_type_103 (lv_at hl 0 rfl) ?_
      have hPc := hP.sub (ws' := []) [] rfl
      have hDc := hD.sub (ws' := []) [] (by decide) rfl
      have hFc := va_free (wc := []) hD hS hA [] rfl
      refine va_calli (va_runS (As := [.long eg, .int (Int32.ofNat k)]) (rest := []) ⟨hx, hb, hml, hown, hts⟩ (c_CM_byteAt l dC dI ar N0 z (eg) ((Int32.ofNat k)) H.size) (cwS 2 hts (x_goodS k_227 k_228 k_1 k_229) rfl rfl rfl (by decide +kernel) ⟨Nat.le_of_ble_eq_true rfl, Nat.le_of_ble_eq_true rfl⟩) ⟨x_blind, fun U hU9 hW => x_pre hU9 hW hPc hDc hU hZ hS hAN hN0⟩ rfl rfl hl.1 rfl (lv_room (Nat.le_of_ble_eq_true rfl)) d_CM_type_105 ⟨Nat.le_of_ble_eq_true rfl, Nat.le_of_ble_eq_true rfl⟩) hS (fun q _ h => hFc q h) hFc (fun r5 u6 t H1 locs ht hvm hw hB hz1 hk1 hS => ?_)
      obtain ⟨hP1, hD1⟩ := hB
      rw [ht] at hP1
      obtain ⟨hP, hD⟩ := va_join (wr := [(h0, .inr (5, [.ref rd, .ref mc, .int (-1)])), (rd, .inr (3, [.ref tx, .ref co, .int (x_cn eg k), .int 0, .int 0, .int 0, .int 0, .int 0, .null])), (tx, .inl (ar 1, 72, .inl g))]) (w1 := []) hP hD [] [0, 1, 2] rfl rfl (by decide) (by decide) hk1 hFc hP1 hD1
      generalize H1 = H at hP hS ⊢
      have hP : va_P (dC, dI) x_cl [(h0, .inr (5, [.ref rd, .ref mc, .int (-1)])), (rd, .inr (3, [.ref tx, .ref co, .int (x_cn eg k), .int 0, .int 0, .int 0, .int 0, .int 0, .null])), (tx, .inl (ar 1, 72, .inl g))] H := hP
      have hD : va_D A [(h0, .inr (5, [.ref rd, .ref mc, .int (-1)])), (rd, .inr (3, [.ref tx, .ref co, .int (x_cn eg k), .int 0, .int 0, .int 0, .int 0, .int 0, .null])), (tx, .inl (ar 1, 72, .inl g))] := hD
      refine W.widen (k := 0) (n := 0) (Nat.le_of_ble_eq_true rfl) (Nat.le_of_ble_eq_true rfl) ?_
      have hy : r5 = x_y eg k := hw
      refine lv_istore (lv' := [(5, .int r5), (4, .int (Int32.ofNat k)), (0, .ref h0), (1, .long eg)]) hx hb d_CM_type_108 hl (by decide) rfl (fun ls hl => ?_)
      refine lv_iload hx hb d_CM_type_110 (lv_at hl 0 rfl) ?_
      refine lv_if_eq (tgt := 125) hx hb d_CM_type_112 (by decide) (fun c7 => ?_) (fun c7 => ?_)
      · refine lv_iinc (v := (Int32.ofNat (k + 1))) (lv' := [(4, .int (Int32.ofNat (k + 1))), (5, .int r5), (0, .ref h0), (1, .long eg)]) hx hb d_CM_type_125 hl (k := 1) rfl (x_inc k) (by decide) rfl (fun ls hl => ?_)
        refine lv_goto (tgt := 95) hx hb d_CM_type_128 (by decide) ?_
        rw [← x_cn_z hy c7] at hP hD
        exact ih H locs ls ⟨_, hP, hD, hS, lv_sub hl [0, 2, 3] rfl⟩
      · refine lv_aload_n hx hb d_CM_type_115 rfl (lv_at hl 2 rfl) ?_
        refine va_get (D := (dC, dI)) (ci := 5) (v := .ref rd) (C := "ChannelMachine") (T := F_CM) (N := 3) hx hb hts i_CM hown hK hP 0 rfl rfl 0 (by decide) (hts _ k_194) (fun _ h9 => h9) rfl d_CM_type_116 ?_
        refine lv_iload hx hb d_CM_type_119 (lv_at hl 0 rfl) ?_
        refine lv_i2c hx hb d_CM_type_121 rfl ?_
        refine lv_topi (fun ch8 _ => ?_)
        have hPc := hP.sub (ws' := [(rd, .inr (3, [.ref tx, .ref co, .int (x_cn eg k), .int 0, .int 0, .int 0, .int 0, .int 0, .null])), (tx, .inl (ar 1, 72, .inl g))]) [1, 2] rfl
        have hDc := hD.sub (ws' := [(rd, .inr (3, [.ref tx, .ref co, .int (x_cn eg k), .int 0, .int 0, .int 0, .int 0, .int 0, .null])), (tx, .inl (ar 1, 72, .inl g))]) [1, 2] (by decide) rfl
        have hFc := va_free (wc := [(rd, .inr (3, [.ref tx, .ref co, .int (x_cn eg k), .int 0, .int 0, .int 0, .int 0, .int 0, .null])), (tx, .inl (ar 1, 72, .inl g))]) hD hS hA [1, 2] rfl
        refine va_callv (va_runV (As := [.int ch8]) (rest := []) ⟨hx, hb, hml, hown, hts⟩ (c_Reader_append l dC dI ar N0 z rd tx co (x_cn eg k) ch8 g H.size (x_cin (Nat.le_of_lt hk)) (x_c71 (Nat.le_of_lt hk))) (cwV 1 hts (x_goodV k_315 k_316 k_317 k_2 k_318) rfl rfl rfl (by decide +kernel) ⟨Nat.le_of_ble_eq_true rfl, Nat.le_of_ble_eq_true rfl⟩) ⟨x_blind, va_recv hK hPc (ci := 3) (q0 := 0) rfl rfl, fun U hU9 hW => x_pre hU9 hW hPc hDc hU hZ hS hAN hN0⟩ rfl rfl hl.1 rfl (lv_room (Nat.le_of_ble_eq_true rfl)) d_CM_type_122 ⟨Nat.le_of_ble_eq_true rfl, Nat.le_of_ble_eq_true rfl⟩) hS (fun q _ h => hFc q h) hFc (fun u9 t H1 locs ht hvm hw hB hz1 hk1 hS => ?_)
        obtain ⟨hP1, hD1⟩ := hB
        rw [ht] at hP1
        obtain ⟨hP, hD⟩ := va_join (wr := [(h0, .inr (5, [.ref rd, .ref mc, .int (-1)]))]) (w1 := [(rd, .inr (3, [.ref tx, .ref co, .int ((x_cn eg k) + 1), .int 0, .int 0, .int 0, .int 0, .int 0, .null])), (tx, .inl (ar 1, 72, .inl (upd g (Int32.toNatClampNeg (x_cn eg k)) (vp_nar .char ch8))))]) hP hD [1, 2] [0] rfl rfl (by decide) (by decide) hk1 hFc hP1 hD1
        generalize H1 = H at hP hS ⊢
        have hP : va_P (dC, dI) x_cl [(h0, .inr (5, [.ref rd, .ref mc, .int (-1)])), (rd, .inr (3, [.ref tx, .ref co, .int ((x_cn eg k) + 1), .int 0, .int 0, .int 0, .int 0, .int 0, .null])), (tx, .inl (ar 1, 72, .inl (upd g (Int32.toNatClampNeg (x_cn eg k)) (vp_nar .char ch8))))] H := hP
        have hD : va_D A [(h0, .inr (5, [.ref rd, .ref mc, .int (-1)])), (rd, .inr (3, [.ref tx, .ref co, .int ((x_cn eg k) + 1), .int 0, .int 0, .int 0, .int 0, .int 0, .null])), (tx, .inl (ar 1, 72, .inl (upd g (Int32.toNatClampNeg (x_cn eg k)) (vp_nar .char ch8))))] := hD
        refine W.widen (k := 0) (n := 0) (Nat.le_of_ble_eq_true rfl) (Nat.le_of_ble_eq_true rfl) ?_
        refine lv_iinc (v := (Int32.ofNat (k + 1))) (lv' := [(4, .int (Int32.ofNat (k + 1))), (5, .int r5), (0, .ref h0), (1, .long eg)]) hx hb d_CM_type_125 hl (k := 1) rfl (x_inc k) (by decide) rfl (fun ls hl => ?_)
        refine lv_goto (tgt := 95) hx hb d_CM_type_128 (by decide) ?_
        rw [← x_cn_s hy c7] at hP hD
        exact ih H locs ls ⟨_, hP, hD, hS, lv_sub hl [0, 2, 3] rfl⟩
  · obtain ⟨hP, hD, hS, hl, hok⟩ := h9
    refine lv_iload hx hb d_CM_type_5 (lv_at hl 0 rfl) ?_
    refine lv_bipush (v := 8) hx hb d_CM_type_7 (by decide) ?_
    refine lv_icmp_ge (tgt := 68) hx hb d_CM_type_9 (by decide) (fun c10 => absurd c10 (x_k8 hk)) (fun _ => ?_)
    refine lv_lload_n hx hb d_CM_type_12 rfl (lv_at hl 3 rfl) ?_
    refine lv_iload hx hb d_CM_type_13 (lv_at hl 0 rfl) ?_
    have hPc := hP.sub (ws' := []) [] rfl
    have hDc := hD.sub (ws' := []) [] (by decide) rfl
    have hFc := va_free (wc := []) hD hS hA [] rfl
    refine va_calli (va_runS (As := [.long eg, .int (Int32.ofNat k)]) (rest := []) ⟨hx, hb, hml, hown, hts⟩ (c_CM_byteAt l dC dI ar N0 z (eg) ((Int32.ofNat k)) H.size) (cwS 2 hts (x_goodS k_227 k_228 k_1 k_229) rfl rfl rfl (by decide +kernel) ⟨Nat.le_of_ble_eq_true rfl, Nat.le_of_ble_eq_true rfl⟩) ⟨x_blind, fun U hU9 hW => x_pre hU9 hW hPc hDc hU hZ hS hAN hN0⟩ rfl rfl hl.1 rfl (lv_room (Nat.le_of_ble_eq_true rfl)) d_CM_type_15 ⟨Nat.le_of_ble_eq_true rfl, Nat.le_of_ble_eq_true rfl⟩) hS (fun q _ h => hFc q h) hFc (fun r11 u12 t H1 locs ht hvm hw hB hz1 hk1 hS => ?_)
    obtain ⟨hP1, hD1⟩ := hB
    rw [ht] at hP1
    obtain ⟨hP, hD⟩ := va_join (wr := [(h0, .inr (5, [.ref rd, .ref mc, .int (-1)])), (rd, .inr (3, [.ref tx, .ref co, .int 0, .int 0, .int 0, .int 0, .int 0, .int 0, .null])), (tx, .inl (ar 1, 72, .inl (fun _ => 0)))]) (w1 := []) hP hD [] [0, 1, 2] rfl rfl (by decide) (by decide) hk1 hFc hP1 hD1
    generalize H1 = H at hP hS ⊢
    have hP : va_P (dC, dI) x_cl [(h0, .inr (5, [.ref rd, .ref mc, .int (-1)])), (rd, .inr (3, [.ref tx, .ref co, .int 0, .int 0, .int 0, .int 0, .int 0, .int 0, .null])), (tx, .inl (ar 1, 72, .inl (fun _ => 0)))] H := hP
    have hD : va_D A [(h0, .inr (5, [.ref rd, .ref mc, .int (-1)])), (rd, .inr (3, [.ref tx, .ref co, .int 0, .int 0, .int 0, .int 0, .int 0, .int 0, .null])), (tx, .inl (ar 1, 72, .inl (fun _ => 0)))] := hD
    refine W.widen (k := 0) (n := 0) (Nat.le_of_ble_eq_true rfl) (Nat.le_of_ble_eq_true rfl) ?_
    have hy : r11 = x_y eg k := hw
    refine lv_istore (lv' := [(5, .int r11), (4, .int (Int32.ofNat k)), (3, .int (x_cn eg k)), (0, .ref h0), (1, .long eg)]) hx hb d_CM_type_18 hl (by decide) rfl (fun ls hl => ?_)
    refine lv_iload hx hb d_CM_type_20 (lv_at hl 0 rfl) ?_
    refine lv_if_eq (tgt := 49) hx hb d_CM_type_22 (by decide) (fun c13 => ?_) (fun c13 => ?_)
    · refine lv_iload_n hx hb d_CM_type_49 rfl (lv_at hl 2 rfl) ?_
      refine lv_iload hx hb d_CM_type_50 (lv_at hl 0 rfl) ?_
      refine lv_if_ne (tgt := 59) hx hb d_CM_type_52 (by decide) (fun c14 => absurd c13 c14) (fun _ => ?_)
      refine lv_iconst (v := 0) hx hb d_CM_type_55 (by decide) ?_
      refine lv_goto (tgt := 60) hx hb d_CM_type_56 (by decide) ?_
      refine lv_iadd hx hb d_CM_type_60 ?_
      refine W.eq (g2 := F0 m 61 ls [.int (x_cn eg (k + 1))]) (by rw [x_cn_z0 hy c13]) ?_
      refine lv_istore_n (lv' := [(3, .int (x_cn eg (k + 1))), (5, .int r11), (4, .int (Int32.ofNat k)), (0, .ref h0), (1, .long eg)]) hx hb d_CM_type_61 rfl hl (by decide) rfl (fun ls hl => ?_)
      refine lv_iinc (v := (Int32.ofNat (k + 1))) (lv' := [(4, .int (Int32.ofNat (k + 1))), (3, .int (x_cn eg (k + 1))), (5, .int r11), (0, .ref h0), (1, .long eg)]) hx hb d_CM_type_62 hl (k := 2) rfl (x_inc k) (by decide) rfl (fun ls hl => ?_)
      refine lv_goto (tgt := 5) hx hb d_CM_type_65 (by decide) ?_
      exact ih H locs ls ⟨hP, hD, hS, lv_sub hl [0, 1, 3, 4] rfl, x_ok_s hy hok (Or.inl c13)⟩
    · refine lv_iload hx hb d_CM_type_25 (lv_at hl 0 rfl) ?_
      refine lv_bipush (v := 33) hx hb d_CM_type_27 (by decide) ?_
      refine lv_icmp_lt (tgt := 39) hx hb d_CM_type_29 (by decide) (fun c15 => ?_) (fun c15 => ?_)
      · exact x_throw (A := A) hx hb hst (own := "ChannelMachine") (cls := "java/lang/IllegalArgumentException") (text := "not a character of a text") (ik := 31) (is := 33) (ic := 35) hown k_230 k_13 (by decide) x_tChannelMachine_35 (by decide +kernel) rfl hts hU hZ hAN hS (by rw [hml]; exact hl.1) d_CM_type_39 d_CM_type_42 d_CM_type_43 d_CM_type_45 d_CM_type_48 htb (Nat.le_of_ble_eq_true rfl) (Nat.le_of_ble_eq_true rfl) (Nat.le_of_ble_eq_true rfl) (Nat.le_of_ble_eq_true rfl) hlocks (fun t h1 h2 h3 h4 => ⟨(), x_bad hk hy c13 (Or.inl c15), rfl, h4⟩) hS.2.2 (Nat.le_of_ble_eq_true rfl) (Nat.le_of_ble_eq_true rfl)
      · refine lv_iload hx hb d_CM_type_32 (lv_at hl 0 rfl) ?_
        refine lv_bipush (v := 126) hx hb d_CM_type_34 (by decide) ?_
        refine lv_icmp_le (tgt := 49) hx hb d_CM_type_36 (by decide) (fun c16 => ?_) (fun c16 => ?_)
        · refine lv_iload_n hx hb d_CM_type_49 rfl (lv_at hl 2 rfl) ?_
          refine lv_iload hx hb d_CM_type_50 (lv_at hl 0 rfl) ?_
          refine lv_if_ne (tgt := 59) hx hb d_CM_type_52 (by decide) (fun _ => ?_) (fun c17 => absurd c17 c13)
          refine lv_iconst (v := 1) hx hb d_CM_type_59 (by decide) ?_
          refine lv_iadd hx hb d_CM_type_60 ?_
          refine W.eq (g2 := F0 m 61 ls [.int (x_cn eg (k + 1))]) (by rw [x_cn_s hy c13]) ?_
          refine lv_istore_n (lv' := [(3, .int (x_cn eg (k + 1))), (5, .int r11), (4, .int (Int32.ofNat k)), (0, .ref h0), (1, .long eg)]) hx hb d_CM_type_61 rfl hl (by decide) rfl (fun ls hl => ?_)
          refine lv_iinc (v := (Int32.ofNat (k + 1))) (lv' := [(4, .int (Int32.ofNat (k + 1))), (3, .int (x_cn eg (k + 1))), (5, .int r11), (0, .ref h0), (1, .long eg)]) hx hb d_CM_type_62 hl (k := 2) rfl (x_inc k) (by decide) rfl (fun ls hl => ?_)
          refine lv_goto (tgt := 5) hx hb d_CM_type_65 (by decide) ?_
          exact ih H locs ls ⟨hP, hD, hS, lv_sub hl [0, 1, 3, 4] rfl, x_ok_s hy hok (Or.inr ⟨c15, x_126.mp c16⟩)⟩
        · exact x_throw (A := A) hx hb hst (own := "ChannelMachine") (cls := "java/lang/IllegalArgumentException") (text := "not a character of a text") (ik := 31) (is := 33) (ic := 35) hown k_230 k_13 (by decide) x_tChannelMachine_35 (by decide +kernel) rfl hts hU hZ hAN hS (by rw [hml]; exact hl.1) d_CM_type_39 d_CM_type_42 d_CM_type_43 d_CM_type_45 d_CM_type_48 htb (Nat.le_of_ble_eq_true rfl) (Nat.le_of_ble_eq_true rfl) (Nat.le_of_ble_eq_true rfl) (Nat.le_of_ble_eq_true rfl) hlocks (fun t h1 h2 h3 h4 => ⟨(), x_bad hk hy c13 (Or.inr c16), rfl, h4⟩) hS.2.2 (Nat.le_of_ble_eq_true rfl) (Nat.le_of_ble_eq_true rfl)
set_option maxHeartbeats 4000000 in
set_option maxRecDepth 100000 in
theorem c_La_type (l : Launch) (hst : l.stackTraces = false) (dC : Nat → ClassId) (dI : Nat → Nat → Nat) (ar : Nat → ClassId) (N0 : Nat) (z : Nat → Nat) (ot : Nat) (h0 rd mc va ch gi bo qu sl sk : Nat) (tx co : Nat) (eg : Int64) (sz : Nat) : Met l ({ cls := "ChannelMachineLaw", name := "type", desc := "(LChannelMachine;J[J)I" } : Jvm.MethodName) ((Jvm.Cond.codeWith ({ cls := "ChannelMachineLaw", name := "type", desc := "(LChannelMachine;J[J)I" } : Jvm.MethodName) method_3_code (5 : Nat) (Option.some Jvm.ClassFile.FieldType.int) [((0 : Nat), (9 : Nat), (12 : Nat), (13 : Nat)), ((0 : Nat), (9 : Nat), (16 : Nat), (15 : Nat))]) :: x_T) ({ frames := 7, cells := 1, slots := 6, locals := 107 }) (x_Pc (dC, dI) ar N0 z [(ot, .inl (ar 2, 1, .inr (.inl (fun _ => 0)))), (h0, .inr (5, [.ref rd, .ref mc, .int (-1)])), (rd, .inr (3, [.ref tx, .ref co, .int 0, .int 0, .int 0, .int 0, .int 0, .int 0, .null])), (tx, .inl (ar 1, 72, .inl (fun _ => 0)))] sz [.ref h0, .long eg, .ref ot]) (va_Qi (fun (r : Int32) (u : Nat → Int64) => (x_okk eg 8 ∧ r = 0 ∧ u 0 = Int32.toInt64 (x_cn eg 8)) ∨ (¬ x_okk eg 8 ∧ r = 1)) (fun u t => va_P (dC, dI) x_cl [(ot, .inl (ar 2, 1, .inr (.inl u)))] t.heap ∧ va_D (va_A [(ot, .inl (ar 2, 1, .inr (.inl (fun _ => 0)))), (h0, .inr (5, [.ref rd, .ref mc, .int (-1)])), (rd, .inr (3, [.ref tx, .ref co, .int 0, .int 0, .int 0, .int 0, .int 0, .int 0, .null])), (tx, .inl (ar 1, 72, .inl (fun _ => 0)))] sz) [(ot, .inl (ar 2, 1, .inr (.inl u)))]) (va_A [(ot, .inl (ar 2, 1, .inr (.inl (fun _ => 0)))), (h0, .inr (5, [.ref rd, .ref mc, .int (-1)])), (rd, .inr (3, [.ref tx, .ref co, .int 0, .int 0, .int 0, .int 0, .int 0, .int 0, .null])), (tx, .inl (ar 1, 72, .inl (fun _ => 0)))] sz)) 1 6 (va_A [(ot, .inl (ar 2, 1, .inr (.inl (fun _ => 0)))), (h0, .inr (5, [.ref rd, .ref mc, .int (-1)])), (rd, .inr (3, [.ref tx, .ref co, .int 0, .int 0, .int 0, .int 0, .int 0, .int 0, .null])), (tx, .inl (ar 1, 72, .inl (fun _ => 0)))] sz) := by
  refine va_MetW (cc := method_3_code) (maxL := 5) (ret := (some .int)) (by decide) rfl ?_
  intro p e s m args below meth c s₁ B hml hv
  obtain ⟨rfl, hsz, hN0, hP, hU, hZ, hD0⟩ := hv
  have hK := hU.1
  have hx := B.exec
  have hb := B.bytes
  have hr := B.returns
  have hts : ∀ w ∈ x_T, w.before ([.ref h0, .long eg, .ref ot] : List Value).toArray s = true := fun w h => atoms_spec (ws := (Jvm.Cond.codeWith ({ cls := "ChannelMachineLaw", name := "type", desc := "(LChannelMachine;J[J)I" } : Jvm.MethodName) method_3_code (5 : Nat) (Option.some Jvm.ClassFile.FieldType.int) [((0 : Nat), (9 : Nat), (12 : Nat), (13 : Nat)), ((0 : Nat), (9 : Nat), (16 : Nat), (15 : Nat))]) :: x_T) B.pre w (List.mem_cons_of_mem _ h)
  have hown : s.vm.findClass "ChannelMachineLaw" = some m.cls := findClass_of_methodNamed B.named
  have hlocks := B.notSynchronized
  subst hsz
  have hD := hD0.self (sz := s.heap.size)
  have hAN := x_AN hD0 hN0
  generalize hAe : va_A [(ot, .inl (ar 2, 1, .inr (.inl (fun _ => 0)))), (h0, .inr (5, [.ref rd, .ref mc, .int (-1)])), (rd, .inr (3, [.ref tx, .ref co, .int 0, .int 0, .int 0, .int 0, .int 0, .int 0, .null])), (tx, .inl (ar 1, 72, .inl (fun _ => 0)))] s.heap.size = A at hD hAN ⊢
  have hA : ∀ q : Nat, s.heap.size ≤ q → A q := fun q h => by rw [← hAe]; exact Or.inr h
  have hS : va_S A s.heap s.heap [] := va_S.rf
  have hP : va_P (dC, dI) x_cl [(ot, .inl (ar 2, 1, .inr (.inl (fun _ => 0)))), (h0, .inr (5, [.ref rd, .ref mc, .int (-1)])), (rd, .inr (3, [.ref tx, .ref co, .int 0, .int 0, .int 0, .int 0, .int 0, .int 0, .null])), (tx, .inl (ar 1, 72, .inl (fun _ => 0)))] s.heap := hP
  have hl := lv_entry ([.ref h0, .long eg, .ref ot]) (n := 5) (Nat.le_of_ble_eq_true rfl)
  rw [lg_entry_eq]
  generalize (lg_sl ([.ref h0, .long eg, .ref ot]) ++ List.replicate (5 - (lg_sl ([.ref h0, .long eg, .ref ot])).length) Slot.unset).toArray = ls at hl ⊢
  have hl : lv_has ls 5 [(0, .ref h0), (1, .long eg), (3, .ref ot)] := hl
  have hH0 : s.heap.size ≤ s.heap.size := Nat.le_refl _
  have htab := vx_table (x := ({ cls := "ChannelMachineLaw", name := "type", desc := "(LChannelMachine;J[J)I" } : Jvm.MethodName)) B (hts _ k_220)
  refine lv_aload_n hx hb d_La_type_0 rfl (lv_at hl 2 rfl) ?_
  refine lv_iconst (v := 0) hx hb d_La_type_1 (by decide) ?_
  refine lv_aload_n hx hb d_La_type_2 rfl (lv_at hl 0 rfl) ?_
  refine lv_lload_n hx hb d_La_type_3 rfl (lv_at hl 1 rfl) ?_
  have hPc := hP.sub (ws' := [(h0, .inr (5, [.ref rd, .ref mc, .int (-1)])), (rd, .inr (3, [.ref tx, .ref co, .int 0, .int 0, .int 0, .int 0, .int 0, .int 0, .null])), (tx, .inl (ar 1, 72, .inl (fun _ => 0)))]) [1, 2, 3] rfl
  have hDc := hD.sub (ws' := [(h0, .inr (5, [.ref rd, .ref mc, .int (-1)])), (rd, .inr (3, [.ref tx, .ref co, .int 0, .int 0, .int 0, .int 0, .int 0, .int 0, .null])), (tx, .inl (ar 1, 72, .inl (fun _ => 0)))]) [1, 2, 3] (by decide) rfl
  have hFc := va_free (wc := [(h0, .inr (5, [.ref rd, .ref mc, .int (-1)])), (rd, .inr (3, [.ref tx, .ref co, .int 0, .int 0, .int 0, .int 0, .int 0, .int 0, .null])), (tx, .inl (ar 1, 72, .inl (fun _ => 0)))]) hD hS hA [1, 2, 3] rfl
  refine vx_calli (vx_runV (As := [.long eg]) (rest := [.int 0, .ref ot]) ⟨hx, hb, hml, hown, hts⟩ (c_CM_type l hst dC dI ar N0 z h0 rd mc va ch gi bo qu sl sk tx co (eg) s.heap.size) (cwV 1 hts (x_goodV k_223 k_224 k_225 k_1 k_226) rfl rfl rfl (by decide +kernel) ⟨Nat.le_of_ble_eq_true rfl, Nat.le_of_ble_eq_true rfl⟩) ⟨x_blind, va_recv hK hPc (ci := 5) (q0 := 0) rfl rfl, fun U hU9 hW => x_pre hU9 hW hPc hDc hU hZ hS hAN hN0⟩ rfl rfl hl.1 rfl (lv_room (Nat.le_of_ble_eq_true rfl)) d_La_type_4 ⟨Nat.le_of_ble_eq_true rfl, Nat.le_of_ble_eq_true rfl⟩) hS (fun q _ h => hFc q h) hFc (fun q h1 h2 => hFc q h2) (fun E ce q9 u t H1 locs ht hvm hpx hbx hz1 hk1 hS hce hcv hcl => ?_) (fun r1 u2 t H1 locs ht hvm hw hB hz1 hk1 hS => ?_)
  · have hP1 : va_P (dC, dI) x_cl [] H1 := fun k q h => by simp at h
    have hD1 : va_D (va_A [(h0, .inr (5, [.ref rd, .ref mc, .int (-1)])), (rd, .inr (3, [.ref tx, .ref co, .int 0, .int 0, .int 0, .int 0, .int 0, .int 0, .null])), (tx, .inl (ar 1, 72, .inl (fun _ => 0)))] s.heap.size) [] := ⟨fun i j p q h => by simp at h, fun k q h => by simp at h⟩
    obtain ⟨hP, hD⟩ := va_join (wr := [(ot, .inl (ar 2, 1, .inr (.inl (fun _ => 0))))]) (w1 := []) hP hD [1, 2, 3] [0] rfl rfl (by decide) (by decide) hk1 hFc hP1 hD1
    generalize H1 = H at hP hS hce ⊢
    have hP : va_P (dC, dI) x_cl [(ot, .inl (ar 2, 1, .inr (.inl (fun _ => 0))))] H := hP
    have hD : va_D A [(ot, .inl (ar 2, 1, .inr (.inl (fun _ => 0))))] := hD
    refine vx_widen (k := 1) (n := 6) (Nat.le_of_ble_eq_true rfl) (Nat.le_of_ble_eq_true rfl) ?_
    obtain rfl := hbx
    refine vx_catch hown [] ⟨0, 9, 12, 13⟩ [⟨0, 9, 16, 15⟩] htab (fun z h => by cases h) (by decide) (by decide) (hts _ k_221) (va_Nw.use rfl (hU.2.1 _ kn_232)) hce hcv hcl ?_
    refine lv_astore (lv' := [(4, .ref q9), (0, .ref h0), (1, .long eg), (3, .ref ot)]) hx hb d_La_type_12 hl (by decide) rfl (fun ls hl => ?_)
    refine lv_iconst (v := 1) hx hb d_La_type_14 (by decide) ?_
    refine W.widen (k := 1) (n := 6) (Nat.le_of_ble_eq_true rfl) (Nat.le_of_ble_eq_true rfl) ?_
    exact W.iret (v := 1) hx hb hr (fun t ht hW => ⟨⟨1, (fun _ => 0), rfl, Or.inr ⟨hpx, rfl⟩, ⟨by rw [ht]; exact hP.sub (ws' := [(ot, .inl (ar 2, 1, .inr (.inl (fun _ => 0))))]) [0] rfl, hD.sub (ws' := [(ot, .inl (ar 2, 1, .inr (.inl (fun _ => 0))))]) [0] (by decide) rfl⟩⟩, hS.F ht⟩) hS.2.2 d_La_type_15
  · have hP1 : va_P (dC, dI) x_cl [] t.heap := fun k q h => by simp at h
    have hD1 : va_D (va_A [(h0, .inr (5, [.ref rd, .ref mc, .int (-1)])), (rd, .inr (3, [.ref tx, .ref co, .int 0, .int 0, .int 0, .int 0, .int 0, .int 0, .null])), (tx, .inl (ar 1, 72, .inl (fun _ => 0)))] s.heap.size) [] := ⟨fun i j p q h => by simp at h, fun k q h => by simp at h⟩
    rw [ht] at hP1
    obtain ⟨hP, hD⟩ := va_join (wr := [(ot, .inl (ar 2, 1, .inr (.inl (fun _ => 0))))]) (w1 := []) hP hD [1, 2, 3] [0] rfl rfl (by decide) (by decide) hk1 hFc hP1 hD1
    generalize H1 = H at hP hS ⊢
    have hP : va_P (dC, dI) x_cl [(ot, .inl (ar 2, 1, .inr (.inl (fun _ => 0))))] H := hP
    have hD : va_D A [(ot, .inl (ar 2, 1, .inr (.inl (fun _ => 0))))] := hD
    refine W.widen (k := 1) (n := 6) (Nat.le_of_ble_eq_true rfl) (Nat.le_of_ble_eq_true rfl) ?_
    refine lv_i2l (v := (Int32.toInt64 r1)) hx hb d_La_type_7 rfl ?_
    refine va_last hx hb hK hP hD hS 0 2 rfl rfl (i := 0) (x := (Int32.toInt64 r1)) (by unfold vp_in; decide) d_La_type_8 (fun H locs hP hD hS => ?_)
    have hP : va_P (dC, dI) x_cl [(ot, .inl (ar 2, 1, .inr (.inl (vp_updL (fun _ => 0) (Int32.toNatClampNeg 0) (Int32.toInt64 r1)))))] H := hP
    have hD : va_D A [(ot, .inl (ar 2, 1, .inr (.inl (vp_updL (fun _ => 0) (Int32.toNatClampNeg 0) (Int32.toInt64 r1)))))] := hD
    refine lv_goto (tgt := 20) hx hb d_La_type_9 (by decide) ?_
    refine lv_iconst (v := 0) hx hb d_La_type_20 (by decide) ?_
    refine W.widen (k := 1) (n := 6) (Nat.le_of_ble_eq_true rfl) (Nat.le_of_ble_eq_true rfl) ?_
    exact W.iret (v := 0) hx hb hr (fun t ht hW => ⟨⟨0, (vp_updL (fun _ => 0) (Int32.toNatClampNeg 0) (Int32.toInt64 r1)), rfl, Or.inl ⟨hw.1, rfl, by rw [hw.2]; rfl⟩, ⟨by rw [ht]; exact hP.sub (ws' := [(ot, .inl (ar 2, 1, .inr (.inl (vp_updL (fun _ => 0) (Int32.toNatClampNeg 0) (Int32.toInt64 r1)))))]) [0] rfl, hD.sub (ws' := [(ot, .inl (ar 2, 1, .inr (.inl (vp_updL (fun _ => 0) (Int32.toNatClampNeg 0) (Int32.toInt64 r1)))))]) [0] (by decide) rfl⟩⟩, hS.F ht⟩) hS.2.2 d_La_type_21
