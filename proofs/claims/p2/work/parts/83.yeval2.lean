-- ===== 83.yeval2: evaluate of the machine, by program =====
theorem k_795 : (Jvm.Cond.methodLink "ChannelMachine$Machine" (292 : Nat) ({ cls := "ChannelMachine$Machine", name := "combined", desc := "(CII)I" } : Jvm.MethodName)) ∈ x_T := x_at 795 (by decide +kernel) (by decide +kernel)
theorem k_797 : (Jvm.Cond.instanceMethod ({ cls := "ChannelMachine$Machine", name := "combined", desc := "(CII)I" } : Jvm.MethodName)) ∈ x_T := x_at 797 (by decide +kernel) (by decide +kernel)
theorem k_798 : (Jvm.Cond.code ({ cls := "ChannelMachine$Machine", name := "combined", desc := "(CII)I" } : Jvm.MethodName) prog_6_method_27_code (4 : Nat) (Option.some Jvm.ClassFile.FieldType.int)) ∈ x_T := x_at 798 (by decide +kernel) (by decide +kernel)
theorem kp_32 : (Jvm.Cond.selects "ChannelMachine$Machine" ({ cls := "ChannelMachine$Machine", name := "combined", desc := "(CII)I" } : Jvm.MethodName) ({ cls := "ChannelMachine$Machine", name := "combined", desc := "(CII)I" } : Jvm.MethodName)) ∈ x_T := x_sel (q := (({ cls := "ChannelMachine$Machine", name := "combined", desc := "(CII)I" } : Jvm.MethodName), 11)) 32 (by decide +kernel) (by decide +kernel)
theorem d_Machine_evaluate_0 : decode prog_6_method_26_code 0 = .ok (.iconst 0, 1) := by decide +kernel
theorem d_Machine_evaluate_1 : decode prog_6_method_26_code 1 = .ok (.istore_n 2, 1) := by decide +kernel
theorem d_Machine_evaluate_2 : decode prog_6_method_26_code 2 = .ok (.iconst 0, 1) := by decide +kernel
theorem d_Machine_evaluate_3 : decode prog_6_method_26_code 3 = .ok (.istore_n 3, 1) := by decide +kernel
theorem d_Machine_evaluate_4 : decode prog_6_method_26_code 4 = .ok (.iload_n 3, 1) := by decide +kernel
theorem d_Machine_evaluate_5 : decode prog_6_method_26_code 5 = .ok (.aload_n 1, 1) := by decide +kernel
theorem d_Machine_evaluate_6 : decode prog_6_method_26_code 6 = .ok (.arraylength, 1) := by decide +kernel
theorem d_Machine_evaluate_7 : decode prog_6_method_26_code 7 = .ok (.if_icmp .ge 146, 3) := by decide +kernel
theorem d_Machine_evaluate_10 : decode prog_6_method_26_code 10 = .ok (.iload_n 2, 1) := by decide +kernel
theorem d_Machine_evaluate_11 : decode prog_6_method_26_code 11 = .ok (.bipush 72, 2) := by decide +kernel
theorem d_Machine_evaluate_13 : decode prog_6_method_26_code 13 = .ok (.if_icmp .ge 140, 3) := by decide +kernel
theorem d_Machine_evaluate_16 : decode prog_6_method_26_code 16 = .ok (.aload_n 1, 1) := by decide +kernel
theorem d_Machine_evaluate_17 : decode prog_6_method_26_code 17 = .ok (.iload_n 3, 1) := by decide +kernel
theorem d_Machine_evaluate_18 : decode prog_6_method_26_code 18 = .ok (.iaload, 1) := by decide +kernel
theorem d_Machine_evaluate_19 : decode prog_6_method_26_code 19 = .ok (.istore 4, 2) := by decide +kernel
theorem d_Machine_evaluate_21 : decode prog_6_method_26_code 21 = .ok (.iload 4, 2) := by decide +kernel
theorem d_Machine_evaluate_23 : decode prog_6_method_26_code 23 = .ok (.sipush 1000, 3) := by decide +kernel
theorem d_Machine_evaluate_26 : decode prog_6_method_26_code 26 = .ok (.if_icmp .lt 34, 3) := by decide +kernel
theorem d_Machine_evaluate_29 : decode prog_6_method_26_code 29 = .ok (.iload 4, 2) := by decide +kernel
theorem d_Machine_evaluate_31 : decode prog_6_method_26_code 31 = .ok (.sipush 1006, 3) := by decide +kernel
theorem d_Machine_evaluate_34 : decode prog_6_method_26_code 34 = .ok (.if_icmp .ge 26, 3) := by decide +kernel
theorem d_Machine_evaluate_37 : decode prog_6_method_26_code 37 = .ok (.aload_n 0, 1) := by decide +kernel
theorem d_Machine_evaluate_38 : decode prog_6_method_26_code 38 = .ok (.getfield 41, 3) := by decide +kernel
theorem d_Machine_evaluate_41 : decode prog_6_method_26_code 41 = .ok (.iload_n 2, 1) := by decide +kernel
theorem d_Machine_evaluate_42 : decode prog_6_method_26_code 42 = .ok (.aload_n 0, 1) := by decide +kernel
theorem d_Machine_evaluate_43 : decode prog_6_method_26_code 43 = .ok (.getfield 9, 3) := by decide +kernel
theorem d_Machine_evaluate_46 : decode prog_6_method_26_code 46 = .ok (.iload 4, 2) := by decide +kernel
theorem d_Machine_evaluate_48 : decode prog_6_method_26_code 48 = .ok (.sipush 1000, 3) := by decide +kernel
theorem d_Machine_evaluate_51 : decode prog_6_method_26_code 51 = .ok (.isub, 1) := by decide +kernel
theorem d_Machine_evaluate_52 : decode prog_6_method_26_code 52 = .ok (.iaload, 1) := by decide +kernel
theorem d_Machine_evaluate_53 : decode prog_6_method_26_code 53 = .ok (.iastore, 1) := by decide +kernel
theorem d_Machine_evaluate_54 : decode prog_6_method_26_code 54 = .ok (.iinc 2 1, 3) := by decide +kernel
theorem d_Machine_evaluate_57 : decode prog_6_method_26_code 57 = .ok (.goto 90, 3) := by decide +kernel
theorem d_Machine_evaluate_60 : decode prog_6_method_26_code 60 = .ok (.iload 4, 2) := by decide +kernel
theorem d_Machine_evaluate_62 : decode prog_6_method_26_code 62 = .ok (.ifCond .lt 17, 3) := by decide +kernel
theorem d_Machine_evaluate_65 : decode prog_6_method_26_code 65 = .ok (.aload_n 0, 1) := by decide +kernel
theorem d_Machine_evaluate_66 : decode prog_6_method_26_code 66 = .ok (.getfield 41, 3) := by decide +kernel
theorem d_Machine_evaluate_69 : decode prog_6_method_26_code 69 = .ok (.iload_n 2, 1) := by decide +kernel
theorem d_Machine_evaluate_70 : decode prog_6_method_26_code 70 = .ok (.iload 4, 2) := by decide +kernel
theorem d_Machine_evaluate_72 : decode prog_6_method_26_code 72 = .ok (.iastore, 1) := by decide +kernel
theorem d_Machine_evaluate_73 : decode prog_6_method_26_code 73 = .ok (.iinc 2 1, 3) := by decide +kernel
theorem d_Machine_evaluate_76 : decode prog_6_method_26_code 76 = .ok (.goto 71, 3) := by decide +kernel
theorem d_Machine_evaluate_79 : decode prog_6_method_26_code 79 = .ok (.iload 4, 2) := by decide +kernel
theorem d_Machine_evaluate_81 : decode prog_6_method_26_code 81 = .ok (.iconst (-1), 1) := by decide +kernel
theorem d_Machine_evaluate_82 : decode prog_6_method_26_code 82 = .ok (.if_icmp .ne 27, 3) := by decide +kernel
theorem d_Machine_evaluate_85 : decode prog_6_method_26_code 85 = .ok (.iload_n 2, 1) := by decide +kernel
theorem d_Machine_evaluate_86 : decode prog_6_method_26_code 86 = .ok (.ifCond .le 23, 3) := by decide +kernel
theorem d_Machine_evaluate_89 : decode prog_6_method_26_code 89 = .ok (.aload_n 0, 1) := by decide +kernel
theorem d_Machine_evaluate_90 : decode prog_6_method_26_code 90 = .ok (.getfield 41, 3) := by decide +kernel
theorem d_Machine_evaluate_93 : decode prog_6_method_26_code 93 = .ok (.iload_n 2, 1) := by decide +kernel
theorem d_Machine_evaluate_94 : decode prog_6_method_26_code 94 = .ok (.iconst 1, 1) := by decide +kernel
theorem d_Machine_evaluate_95 : decode prog_6_method_26_code 95 = .ok (.isub, 1) := by decide +kernel
theorem d_Machine_evaluate_96 : decode prog_6_method_26_code 96 = .ok (.aload_n 0, 1) := by decide +kernel
theorem d_Machine_evaluate_97 : decode prog_6_method_26_code 97 = .ok (.getfield 41, 3) := by decide +kernel
theorem d_Machine_evaluate_100 : decode prog_6_method_26_code 100 = .ok (.iload_n 2, 1) := by decide +kernel
theorem d_Machine_evaluate_101 : decode prog_6_method_26_code 101 = .ok (.iconst 1, 1) := by decide +kernel
theorem d_Machine_evaluate_102 : decode prog_6_method_26_code 102 = .ok (.isub, 1) := by decide +kernel
theorem d_Machine_evaluate_103 : decode prog_6_method_26_code 103 = .ok (.iaload, 1) := by decide +kernel
theorem d_Machine_evaluate_104 : decode prog_6_method_26_code 104 = .ok (.ineg, 1) := by decide +kernel
theorem d_Machine_evaluate_105 : decode prog_6_method_26_code 105 = .ok (.iastore, 1) := by decide +kernel
theorem d_Machine_evaluate_106 : decode prog_6_method_26_code 106 = .ok (.goto 41, 3) := by decide +kernel
theorem d_Machine_evaluate_109 : decode prog_6_method_26_code 109 = .ok (.iload_n 2, 1) := by decide +kernel
theorem d_Machine_evaluate_110 : decode prog_6_method_26_code 110 = .ok (.iconst 1, 1) := by decide +kernel
theorem d_Machine_evaluate_111 : decode prog_6_method_26_code 111 = .ok (.if_icmp .le 36, 3) := by decide +kernel
theorem d_Machine_evaluate_114 : decode prog_6_method_26_code 114 = .ok (.iinc 2 (-1), 3) := by decide +kernel
theorem d_Machine_evaluate_117 : decode prog_6_method_26_code 117 = .ok (.aload_n 0, 1) := by decide +kernel
theorem d_Machine_evaluate_118 : decode prog_6_method_26_code 118 = .ok (.getfield 41, 3) := by decide +kernel
theorem d_Machine_evaluate_121 : decode prog_6_method_26_code 121 = .ok (.iload_n 2, 1) := by decide +kernel
theorem d_Machine_evaluate_122 : decode prog_6_method_26_code 122 = .ok (.iconst 1, 1) := by decide +kernel
theorem d_Machine_evaluate_123 : decode prog_6_method_26_code 123 = .ok (.isub, 1) := by decide +kernel
theorem d_Machine_evaluate_124 : decode prog_6_method_26_code 124 = .ok (.aload_n 0, 1) := by decide +kernel
theorem d_Machine_evaluate_125 : decode prog_6_method_26_code 125 = .ok (.iload 4, 2) := by decide +kernel
theorem d_Machine_evaluate_127 : decode prog_6_method_26_code 127 = .ok (.ineg, 1) := by decide +kernel
theorem d_Machine_evaluate_128 : decode prog_6_method_26_code 128 = .ok (.i2c, 1) := by decide +kernel
theorem d_Machine_evaluate_129 : decode prog_6_method_26_code 129 = .ok (.aload_n 0, 1) := by decide +kernel
theorem d_Machine_evaluate_130 : decode prog_6_method_26_code 130 = .ok (.getfield 41, 3) := by decide +kernel
theorem d_Machine_evaluate_133 : decode prog_6_method_26_code 133 = .ok (.iload_n 2, 1) := by decide +kernel
theorem d_Machine_evaluate_134 : decode prog_6_method_26_code 134 = .ok (.iconst 1, 1) := by decide +kernel
theorem d_Machine_evaluate_135 : decode prog_6_method_26_code 135 = .ok (.isub, 1) := by decide +kernel
theorem d_Machine_evaluate_136 : decode prog_6_method_26_code 136 = .ok (.iaload, 1) := by decide +kernel
theorem d_Machine_evaluate_137 : decode prog_6_method_26_code 137 = .ok (.aload_n 0, 1) := by decide +kernel
theorem d_Machine_evaluate_138 : decode prog_6_method_26_code 138 = .ok (.getfield 41, 3) := by decide +kernel
theorem d_Machine_evaluate_141 : decode prog_6_method_26_code 141 = .ok (.iload_n 2, 1) := by decide +kernel
theorem d_Machine_evaluate_142 : decode prog_6_method_26_code 142 = .ok (.iaload, 1) := by decide +kernel
theorem d_Machine_evaluate_143 : decode prog_6_method_26_code 143 = .ok (.invokevirtual 292, 3) := by decide +kernel
theorem d_Machine_evaluate_146 : decode prog_6_method_26_code 146 = .ok (.iastore, 1) := by decide +kernel
theorem d_Machine_evaluate_147 : decode prog_6_method_26_code 147 = .ok (.iinc 3 1, 3) := by decide +kernel
theorem d_Machine_evaluate_150 : decode prog_6_method_26_code 150 = .ok (.goto (-146), 3) := by decide +kernel
theorem d_Machine_evaluate_153 : decode prog_6_method_26_code 153 = .ok (.aload_n 0, 1) := by decide +kernel
theorem d_Machine_evaluate_154 : decode prog_6_method_26_code 154 = .ok (.getfield 41, 3) := by decide +kernel
theorem d_Machine_evaluate_157 : decode prog_6_method_26_code 157 = .ok (.iconst 0, 1) := by decide +kernel
theorem d_Machine_evaluate_158 : decode prog_6_method_26_code 158 = .ok (.iaload, 1) := by decide +kernel
theorem d_Machine_evaluate_159 : decode prog_6_method_26_code 159 = .ok (.ireturn, 1) := by decide +kernel
theorem y_c16 {v : Int32} (h : y_op v) (h1 : v < 0) (h2 : ¬ v = -1) : ∃ cv : Int32, ((-v).toUInt32 % 65536).toInt32 = cv ∧ (cv = 60 ∨ cv = 61 ∨ cv = 43 ∨ cv = 45 ∨ cv = 42 ∨ cv = 47 ∨ cv = 37) := by
  rcases h with h | h | rfl | rfl | rfl | rfl | rfl | rfl | rfl
  · exact absurd h1 h
  · exact absurd h h2
  · exact ⟨60, by decide, by decide⟩
  · exact ⟨61, by decide, by decide⟩
  · exact ⟨43, by decide, by decide⟩
  · exact ⟨45, by decide, by decide⟩
  · exact ⟨42, by decide, by decide⟩
  · exact ⟨47, by decide, by decide⟩
  · exact ⟨37, by decide, by decide⟩
set_option maxHeartbeats 4000000 in
set_option maxRecDepth 100000 in
theorem c_M_evaluate (l : Launch) (hst : l.stackTraces = false) (dC : Nat → ClassId) (dI : Nat → Nat → Nat) (ar : Nat → ClassId) (N0 : Nat) (z : Nat → Nat) (ad : Nat → Nat) (I : Nat → Int32) (T : Int64) (A : Nat → Nat → Int32) (O : Nat → Option Nat) (pl : va_W) (G : Nat → Nat) (C Gs : Nat → List Nat) (qn sn cq cs : Nat) (cp : Nat) (sz w0 : Nat) (hmi : y_MI z ar G C Gs I O (y_L pl) (qn, sn, cq, cs)) (hcp : G cp = 10) : vx_Met l ({ cls := "ChannelMachine$Machine", name := "evaluate", desc := "([I)I" } : Jvm.MethodName) ((Jvm.Cond.code ({ cls := "ChannelMachine$Machine", name := "evaluate", desc := "([I)I" } : Jvm.MethodName) prog_6_method_26_code (5 : Nat) (Option.some Jvm.ClassFile.FieldType.int)) :: x_T) ({ frames := 7, cells := 1, slots := 6, locals := 105 }) (y_Pc (dC, dI) ar N0 z (y_W ad ar I T A O pl) sz w0 [.ref (ad 4), .ref cp]) (va_Qi (fun (r : Int32) (u : (Nat → Int32) × Int64 × (Nat → Nat → Int32) × (Nat → Option Nat) × va_W × (Nat × Nat × Nat × Nat)) => u.1 = I ∧ u.2.1 = T ∧ u.2.2.2.1 = O ∧ u.2.2.2.2.1 = pl ∧ u.2.2.2.2.2 = (qn, sn, cq, cs)) (fun u t => va_P (dC, dI) y_cl (y_W ad ar u.1 u.2.1 u.2.2.1 u.2.2.2.1 u.2.2.2.2.1) t.heap ∧ va_D (va_A (y_W ad ar I T A O pl) sz) (y_W ad ar u.1 u.2.1 u.2.2.1 u.2.2.2.1 u.2.2.2.2.1) ∧ y_ac (cq + cs) sz w0 (u.2.2.2.2.2.2.2.1 + u.2.2.2.2.2.2.2.2) t.heap) (va_A (y_W ad ar I T A O pl) sz)) (vx_X (fun (u : (Nat → Int32) × Int64 × (Nat → Nat → Int32) × (Nat → Option Nat) × va_W × (Nat × Nat × Nat × Nat)) => y_MI z ar G C Gs u.1 u.2.2.2.1 (y_L u.2.2.2.2.1) u.2.2.2.2.2 ∧ y_bd (qn, sn, cq, cs) u.2.2.2.2.2 0 0 ∧ m_fr [7, 8, 12, 13, 14, 15] I u.1 ∧ u.1 7 = 3) (fun E u t => va_P (dC, dI) y_cl (y_W ad ar u.1 u.2.1 u.2.2.1 u.2.2.2.1 u.2.2.2.2.1) t.heap ∧ va_D (va_A (y_W ad ar I T A O pl) sz) (y_W ad ar u.1 u.2.1 u.2.2.1 u.2.2.2.1 u.2.2.2.2.1) ∧ (E = "java/lang/IllegalStateException" ∨ E = "java/lang/ArithmeticException") ∧ y_ac (cq + cs) (sz + 1) (w0 + 6) (u.2.2.2.2.2.2.2.1 + u.2.2.2.2.2.2.2.2) t.heap) (va_A (y_W ad ar I T A O pl) sz)) (1) (6) (va_A (y_W ad ar I T A O pl) sz) := by
  refine vx_ofW (cc := prog_6_method_26_code) (maxL := 5) (ret := (some .int)) (by decide) rfl ?_
  intro p e s m args below meth c s₁ B hml htb hv
  obtain ⟨rfl, hsz, hN0, hP, hU, hZ, hD0, hw0⟩ := hv
  have hK := hU.2.1
  have hx := B.exec
  have hb := B.bytes
  have hr := B.returns
  have hts : ∀ w ∈ x_T, w.before ([.ref (ad 4), .ref cp] : List Value).toArray s = true := fun w h => atoms_spec (ws := (Jvm.Cond.code ({ cls := "ChannelMachine$Machine", name := "evaluate", desc := "([I)I" } : Jvm.MethodName) prog_6_method_26_code (5 : Nat) (Option.some Jvm.ClassFile.FieldType.int)) :: x_T) B.pre w (List.mem_cons_of_mem _ h)
  have hown : s.vm.findClass "ChannelMachine$Machine" = some m.cls := findClass_of_methodNamed B.named
  have hlocks := B.notSynchronized
  subst hsz
  subst hw0
  have hD := hD0.self (sz := s.heap.size)
  have hAN := x_AN hD0 hN0
  generalize hAe : va_A (y_W ad ar I T A O pl) s.heap.size = Bq at hD hAN ⊢
  have hA : ∀ q : Nat, s.heap.size ≤ q → Bq q := fun q h => by rw [← hAe]; exact Or.inr h
  have hS : va_S Bq s.heap s.heap [] := va_S.rf
  have hl := lv_entry ([.ref (ad 4), .ref cp]) (n := 5) (Nat.le_of_ble_eq_true rfl)
  rw [lg_entry_eq]
  generalize (lg_sl ([.ref (ad 4), .ref cp]) ++ List.replicate (5 - (lg_sl ([.ref (ad 4), .ref cp])).length) Slot.unset).toArray = ls at hl ⊢
  have hl : lv_has ls 5 [(0, .ref (ad 4)), (1, .ref cp)] := hl
  obtain ⟨nc, hc, hfc, hnc, hok⟩ := hmi.1.2.2.2.1 cp hcp
  refine lv_iconst (v := 0) hx hb d_Machine_evaluate_0 (by decide) ?_
  refine W.eq (g2 := F0 m 1 ls [.int (Int32.ofNat 0)]) rfl ?_
  refine lv_istore_n (lv' := [(2, .int (Int32.ofNat 0)), (0, .ref (ad 4)), (1, .ref cp)]) hx hb d_Machine_evaluate_1 rfl hl (by decide) rfl (fun ls hl => ?_)
  refine lv_iconst (v := 0) hx hb d_Machine_evaluate_2 (by decide) ?_
  refine W.eq (g2 := F0 m 3 ls [.int (Int32.ofNat 0)]) rfl ?_
  refine lv_istore_n (lv' := [(3, .int (Int32.ofNat 0)), (2, .int (Int32.ofNat 0)), (0, .ref (ad 4)), (1, .ref cp)]) hx hb d_Machine_evaluate_3 rfl hl (by decide) rfl (fun ls hl => ?_)
  refine x_while (fun n H locs ls => ∃ (A1 : Nat → Nat → Int32) (z1 i1 : Nat), n = nc - i1 ∧ i1 ≤ nc ∧ z1 ≤ 72 ∧ va_P (dC, dI) y_cl (y_W ad ar I T A1 O pl) H ∧ va_D Bq (y_W ad ar I T A1 O pl) ∧ va_S Bq s.heap H locs ∧ lv_has ls 5 [(0, .ref (ad 4)), (1, .ref cp), (2, .int (Int32.ofNat z1)), (3, .int (Int32.ofNat i1))]) (fun n ih H locs ls h9 => ?_) ⟨A, 0, 0, rfl, Nat.zero_le _, Nat.zero_le _, hP, hD, hS, lv_sub hl [2, 3, 1, 0] rfl⟩
  clear hP hD hS hl
  obtain ⟨A1, z1, i1, hn9, q9, z9, hP, hD, hS, hl⟩ := h9
  refine lv_iload_n hx hb d_Machine_evaluate_4 rfl (lv_at hl 3 rfl) ?_
  refine lv_aload_n hx hb d_Machine_evaluate_5 rfl (lv_at hl 1 rfl) ?_
  refine d_ilen hx hb hK hP hfc d_Machine_evaluate_6 ?_
  refine lv_icmp_ge (tgt := 153) hx hb d_Machine_evaluate_7 (by decide) (fun c_1 => ?_) (fun c_1 => ?_)
  · have c_1 : nc ≤ i1 := (x_leN (a := nc) (b := i1) (by omega) (by omega)).mp c_1
    refine lv_aload_n hx hb d_Machine_evaluate_153 rfl (lv_at hl 0 rfl) ?_
    refine k_g (C := "ChannelMachine$Machine") (F := F_Machine) (N := 11) hx hb hts i_Machine hown hK hP 4 6 (by decide) (by decide) rfl (by decide) (d := (0, 13)) rfl (hts _ k_162) (fun _ h9 => h9) (v := .ref (ad 13)) rfl d_Machine_evaluate_154 ?_
    refine lv_iconst (v := 0) hx hb d_Machine_evaluate_157 (by decide) ?_
    refine k_ld hx hb hK hP 13 (by decide) (by decide) (by decide) (by decide) (j := 0) (by unfold vp_in; decide) d_Machine_evaluate_158 ?_
    refine W.eq (g2 := F0 m 159 ls [.int (A1 13 (0))]) (by rw [show Int32.toNatClampNeg (0 : Int32) = 0 from by decide]) ?_
    refine vx_ret ?_
    refine y_know (fun hy91 hy92 hy93 hy94 => ?_)
    have hac9 : y_ac (cq + cs) s.heap.size (y_hs s.heap) (cq + cs) H := ⟨by omega, by omega⟩
    refine W.widen (k := 1) (n := 6) (by omega) (by omega) ?_
    exact W.iret (v := (A1 13 (0))) hx hb hr (fun t ht hW => ⟨⟨(A1 13 (0)), (I, T, A1, O, pl, (qn, sn, cq, cs)), rfl, ⟨rfl, rfl, rfl, rfl, rfl⟩, (by dsimp only; rw [ht]; exact ⟨hP, hD, hac9⟩)⟩, hS.F ht⟩) hS.2.2 d_Machine_evaluate_159
  · have c_1 : ¬ nc ≤ i1 := fun h9 => c_1 ((x_leN (a := nc) (b := i1) (by omega) (by omega)).mpr h9)
    refine lv_iload_n hx hb d_Machine_evaluate_10 rfl (lv_at hl 2 rfl) ?_
    refine lv_bipush (v := 72) hx hb d_Machine_evaluate_11 (by decide) ?_
    refine lv_icmp_ge (tgt := 153) hx hb d_Machine_evaluate_13 (by decide) (fun c_2 => ?_) (fun c_2 => ?_)
    · have c_2 : 72 ≤ z1 := (x_leN (a := 72) (b := z1) (by omega) (by omega)).mp c_2
      refine lv_aload_n hx hb d_Machine_evaluate_153 rfl (lv_at hl 0 rfl) ?_
      refine k_g (C := "ChannelMachine$Machine") (F := F_Machine) (N := 11) hx hb hts i_Machine hown hK hP 4 6 (by decide) (by decide) rfl (by decide) (d := (0, 13)) rfl (hts _ k_162) (fun _ h9 => h9) (v := .ref (ad 13)) rfl d_Machine_evaluate_154 ?_
      refine lv_iconst (v := 0) hx hb d_Machine_evaluate_157 (by decide) ?_
      refine k_ld hx hb hK hP 13 (by decide) (by decide) (by decide) (by decide) (j := 0) (by unfold vp_in; decide) d_Machine_evaluate_158 ?_
      refine W.eq (g2 := F0 m 159 ls [.int (A1 13 (0))]) (by rw [show Int32.toNatClampNeg (0 : Int32) = 0 from by decide]) ?_
      refine vx_ret ?_
      refine y_know (fun hy91 hy92 hy93 hy94 => ?_)
      have hac9 : y_ac (cq + cs) s.heap.size (y_hs s.heap) (cq + cs) H := ⟨by omega, by omega⟩
      refine W.widen (k := 1) (n := 6) (by omega) (by omega) ?_
      exact W.iret (v := (A1 13 (0))) hx hb hr (fun t ht hW => ⟨⟨(A1 13 (0)), (I, T, A1, O, pl, (qn, sn, cq, cs)), rfl, ⟨rfl, rfl, rfl, rfl, rfl⟩, (by dsimp only; rw [ht]; exact ⟨hP, hD, hac9⟩)⟩, hS.F ht⟩) hS.2.2 d_Machine_evaluate_159
    · have c_2 : ¬ 72 ≤ z1 := fun h9 => c_2 ((x_leN (a := 72) (b := z1) (by omega) (by omega)).mpr h9)
      refine lv_aload_n hx hb d_Machine_evaluate_16 rfl (lv_at hl 1 rfl) ?_
      refine lv_iload_n hx hb d_Machine_evaluate_17 rfl (lv_at hl 3 rfl) ?_
      refine d_iald hx hb hK hP hfc (j := (Int32.ofNat i1)) (x_inN (show i1 < nc from by omega) (by omega)) d_Machine_evaluate_18 ?_
      refine lv_topi (fun ov hov => ?_)
      have hop : y_op ov := by rw [hov, x_nat (a := i1) (by omega)]; exact hok i1 (by omega)
      refine lv_istore (lv' := [(4, .int ov), (0, .ref (ad 4)), (1, .ref cp), (2, .int (Int32.ofNat z1)), (3, .int (Int32.ofNat i1))]) hx hb d_Machine_evaluate_19 hl (by decide) rfl (fun ls hl => ?_)
      refine lv_iload hx hb d_Machine_evaluate_21 (lv_at hl 0 rfl) ?_
      refine lv_sipush (v := 1000) hx hb d_Machine_evaluate_23 (by decide) ?_
      refine lv_icmp_lt (tgt := 60) hx hb d_Machine_evaluate_26 (by decide) (fun c3 => ?_) (fun c3 => ?_)
      · refine lv_iload hx hb d_Machine_evaluate_60 (lv_at hl 0 rfl) ?_
        refine lv_if_lt (tgt := 79) hx hb d_Machine_evaluate_62 (by decide) (fun c4 => ?_) (fun c4 => ?_)
        · refine lv_iload hx hb d_Machine_evaluate_79 (lv_at hl 0 rfl) ?_
          refine lv_iconst (v := (-1)) hx hb d_Machine_evaluate_81 (by decide) ?_
          refine lv_icmp_ne (tgt := 109) hx hb d_Machine_evaluate_82 (by decide) (fun c5 => ?_) (fun c5 => ?_)
          · refine lv_iload_n hx hb d_Machine_evaluate_109 rfl (lv_at hl 3 rfl) ?_
            refine lv_iconst (v := 1) hx hb d_Machine_evaluate_110 (by decide) ?_
            refine lv_icmp_le (tgt := 147) hx hb d_Machine_evaluate_111 (by decide) (fun c_6 => ?_) (fun c_6 => ?_)
            · have c_6 : z1 ≤ 1 := (x_leN (a := z1) (b := 1) (by omega) (by omega)).mp c_6
              refine lv_iinc (v := (Int32.ofNat (i1 + 1))) (lv' := [(3, .int (Int32.ofNat (i1 + 1))), (4, .int ov), (0, .ref (ad 4)), (1, .ref cp), (2, .int (Int32.ofNat z1))]) hx hb d_Machine_evaluate_147 hl (k := 4) rfl (x_incN i1) (by decide) rfl (fun ls hl => ?_)
              refine lv_goto (tgt := 4) hx hb d_Machine_evaluate_150 (by decide) ?_
              exact ih (nc - (i1 + 1)) (by omega) H locs ls ⟨A1, z1, i1 + 1, rfl, by omega, by omega, hP, hD, hS, lv_sub hl [2, 3, 4, 0] rfl⟩
            · have c_6 : ¬ z1 ≤ 1 := fun h9 => c_6 ((x_leN (a := z1) (b := 1) (by omega) (by omega)).mpr h9)
              obtain ⟨cv, hcv, hopc⟩ := y_c16 hop c4 c5
              refine lv_iinc (v := (Int32.ofNat (z1 - 1))) (lv' := [(2, .int (Int32.ofNat (z1 - 1))), (4, .int ov), (0, .ref (ad 4)), (1, .ref cp), (3, .int (Int32.ofNat i1))]) hx hb d_Machine_evaluate_114 hl (k := 3) rfl (x_decN (a := z1) (by omega)) (by decide) rfl (fun ls hl => ?_)
              refine lv_aload_n hx hb d_Machine_evaluate_117 rfl (lv_at hl 2 rfl) ?_
              refine k_g (C := "ChannelMachine$Machine") (F := F_Machine) (N := 11) hx hb hts i_Machine hown hK hP 4 6 (by decide) (by decide) rfl (by decide) (d := (0, 13)) rfl (hts _ k_162) (fun _ h9 => h9) (v := .ref (ad 13)) rfl d_Machine_evaluate_118 ?_
              refine lv_iload_n hx hb d_Machine_evaluate_121 rfl (lv_at hl 0 rfl) ?_
              refine lv_iconst (v := 1) hx hb d_Machine_evaluate_122 (by decide) ?_
              refine lv_isub hx hb d_Machine_evaluate_123 ?_
              refine W.eq (g2 := F0 m 124 ls [.int (Int32.ofNat ((z1 - 1) - 1)), .ref (ad 13)]) (by rw [← x_subN (a := (z1 - 1)) (b := 1) (by omega)] <;> rfl) ?_
              refine lv_aload_n hx hb d_Machine_evaluate_124 rfl (lv_at hl 2 rfl) ?_
              refine lv_iload hx hb d_Machine_evaluate_125 (lv_at hl 1 rfl) ?_
              refine lv_ineg hx hb d_Machine_evaluate_127 ?_
              refine lv_i2c (v := cv) hx hb d_Machine_evaluate_128 hcv ?_
              refine lv_aload_n hx hb d_Machine_evaluate_129 rfl (lv_at hl 2 rfl) ?_
              refine k_g (C := "ChannelMachine$Machine") (F := F_Machine) (N := 11) hx hb hts i_Machine hown hK hP 4 6 (by decide) (by decide) rfl (by decide) (d := (0, 13)) rfl (hts _ k_162) (fun _ h9 => h9) (v := .ref (ad 13)) rfl d_Machine_evaluate_130 ?_
              refine lv_iload_n hx hb d_Machine_evaluate_133 rfl (lv_at hl 0 rfl) ?_
              refine lv_iconst (v := 1) hx hb d_Machine_evaluate_134 (by decide) ?_
              refine lv_isub hx hb d_Machine_evaluate_135 ?_
              refine W.eq (g2 := F0 m 136 ls [.int (Int32.ofNat ((z1 - 1) - 1)), .ref (ad 13), .int cv, .ref (ad 4), .int (Int32.ofNat ((z1 - 1) - 1)), .ref (ad 13)]) (by rw [← x_subN (a := (z1 - 1)) (b := 1) (by omega)] <;> rfl) ?_
              refine k_ld hx hb hK hP 13 (by decide) (by decide) (by decide) (by decide) (j := (Int32.ofNat ((z1 - 1) - 1))) (x_inN (show ((z1 - 1) - 1) < 72 from by omega) (by decide)) d_Machine_evaluate_136 ?_
              refine W.eq (g2 := F0 m 137 ls [.int (A1 13 (((z1 - 1) - 1))), .int cv, .ref (ad 4), .int (Int32.ofNat ((z1 - 1) - 1)), .ref (ad 13)]) (by rw [x_nat (a := ((z1 - 1) - 1)) (by omega)]) ?_
              refine lv_aload_n hx hb d_Machine_evaluate_137 rfl (lv_at hl 2 rfl) ?_
              refine k_g (C := "ChannelMachine$Machine") (F := F_Machine) (N := 11) hx hb hts i_Machine hown hK hP 4 6 (by decide) (by decide) rfl (by decide) (d := (0, 13)) rfl (hts _ k_162) (fun _ h9 => h9) (v := .ref (ad 13)) rfl d_Machine_evaluate_138 ?_
              refine lv_iload_n hx hb d_Machine_evaluate_141 rfl (lv_at hl 0 rfl) ?_
              refine k_ld hx hb hK hP 13 (by decide) (by decide) (by decide) (by decide) (j := (Int32.ofNat (z1 - 1))) (x_inN (show (z1 - 1) < 72 from by omega) (by decide)) d_Machine_evaluate_142 ?_
              refine W.eq (g2 := F0 m 143 ls [.int (A1 13 ((z1 - 1))), .int (A1 13 (((z1 - 1) - 1))), .int cv, .ref (ad 4), .int (Int32.ofNat ((z1 - 1) - 1)), .ref (ad 13)]) (by rw [x_nat (a := (z1 - 1)) (by omega)]) ?_
              refine y_know (fun hya1 hya2 hya3 hya4 => ?_)
              have hFc := y_free hD hS hA
              refine vx_calli (vx_runV (As := [.int cv, .int (A1 13 (((z1 - 1) - 1))), .int (A1 13 ((z1 - 1)))]) (rest := [.int (Int32.ofNat ((z1 - 1) - 1)), .ref (ad 13)]) ⟨hx, hb, hml, hown, hts⟩ (c_M_combined l hst dC dI ar N0 z ad I T A1 O pl G C Gs qn sn cq cs (cv) ((A1 13 (((z1 - 1) - 1)))) ((A1 13 ((z1 - 1)))) H.size (y_hs H) hmi hopc) (cwV 3 hts (x_goodV k_795 k_797 kp_32 k_3 k_798) rfl rfl rfl (by decide +kernel) ⟨Nat.le_of_ble_eq_true rfl, Nat.le_of_ble_eq_true rfl⟩) ⟨y_blind, va_recv hK hP (ci := 2) (q0 := 4) rfl (y_W_ob (by decide) (by decide)), fun U9 hU9 hW9 => y_pre hU9 hW9 hP hD hU hZ hS hAN hN0⟩ rfl rfl hl.1 rfl (lv_room (Nat.le_of_ble_eq_true rfl)) d_Machine_evaluate_143 ⟨(by show 0 + (1) ≤ 1; omega), (by show 0 + (6) ≤ 6; omega)⟩) hS (fun q _ h => hFc q h) hFc (fun q h1 h2 => hFc q h2) (fun E ce q9 u t H1 locs ht hvm hpx hbx hz1 hk1 hS hce hcv hcl => ?_) (fun r_7 u t H1 locs ht hvm hw hB hz1 hk1 hS => ?_)
              · obtain ⟨I8, T8, A8, O8, pl8, q8, s8, cq8, cs8⟩ := u
                dsimp only at hpx hbx
                rw [ht] at hbx
                obtain ⟨hP, hD1, hac8⟩ := hbx
                have hD : va_D Bq (y_W ad ar I8 T8 A8 O8 pl8) := hD1.weaken (fun _ q _ h => hFc q.1 h)
                generalize H1 = H at hP hS hac8 hce ⊢
                obtain ⟨hE, hac8⟩ := hac8
                obtain ⟨hmi, hbd8, fr8, h73⟩ := hpx
                have hb8 := hbd8
                unfold y_bd at hb8
                dsimp only at hb8
                refine y_knowx (fun hy91 hy92 hy93 hy94 => ?_)
                have hac9 : y_ac (cq + cs) (s.heap.size + 1) (y_hs s.heap + 6) (cq8 + cs8) H := ⟨by omega, by omega⟩
                exact vx_out (fun x hx9 => (htb x hx9).elim) hlocks hce hcv hcl (fun t ht hvm => ⟨(I8, T8, A8, O8, pl8, (q8, s8, cq8, cs8)), ⟨hmi, (y_bd.tr hbd8 (y_bd.rf (a := 0) (b := 0)) (e := 0) (g := 0) (by decide) (by decide)), (m_fr.rf.tr fr8 (by decide)), h73⟩, (by dsimp only; rw [ht]; exact ⟨hP, hD, hE, hac9⟩), hS.F ht⟩) hS.2.2 (by show 0 + (1) ≤ 1; omega) (by show 0 + (6) ≤ 6; omega)
              · obtain ⟨I9, T9, A9, O9, pl9, q9, s9, cq9, cs9⟩ := u
                dsimp only at hw hB
                rw [ht] at hB
                obtain ⟨hP, hD1, hac9⟩ := hB
                have hD : va_D Bq (y_W ad ar I9 T9 A9 O9 pl9) := hD1.weaken (fun _ q _ h => hFc q.1 h)
                generalize H1 = H at hP hS hac9 ⊢
                cases hw
                unfold y_ac at hac9
                try dsimp only at hac9
                refine y_tight (k := 0) (n := 0) (by omega) (by omega) ?_
                refine k_st hx hb hK hP hD hS 13 (by decide) (by decide) (by decide) (by decide) (j := (Int32.ofNat ((z1 - 1) - 1))) (x := r_7) (x_inN (show ((z1 - 1) - 1) < 72 from by omega) (by decide)) d_Machine_evaluate_146 (fun H locs hP hD hS => ?_)
                generalize m_up A1 13 _ = A10 at hP hD
                refine lv_iinc (v := (Int32.ofNat (i1 + 1))) (lv' := [(3, .int (Int32.ofNat (i1 + 1))), (2, .int (Int32.ofNat (z1 - 1))), (4, .int ov), (0, .ref (ad 4)), (1, .ref cp)]) hx hb d_Machine_evaluate_147 hl (k := 4) rfl (x_incN i1) (by decide) rfl (fun ls hl => ?_)
                refine lv_goto (tgt := 4) hx hb d_Machine_evaluate_150 (by decide) ?_
                exact ih (nc - (i1 + 1)) (by omega) H locs ls ⟨A10, (z1 - 1), i1 + 1, rfl, by omega, by omega, hP, hD, hS, lv_sub hl [3, 4, 1, 0] rfl⟩
          · refine lv_iload_n hx hb d_Machine_evaluate_85 rfl (lv_at hl 3 rfl) ?_
            refine lv_if_le (tgt := 109) hx hb d_Machine_evaluate_86 (by decide) (fun c_11 => ?_) (fun c_11 => ?_)
            · have c_11 : z1 ≤ 0 := (x_leN (a := z1) (b := 0) (by omega) (by omega)).mp c_11
              refine lv_iload_n hx hb d_Machine_evaluate_109 rfl (lv_at hl 3 rfl) ?_
              refine lv_iconst (v := 1) hx hb d_Machine_evaluate_110 (by decide) ?_
              refine lv_icmp_le (tgt := 147) hx hb d_Machine_evaluate_111 (by decide) (fun c_12 => ?_) (fun c_12 => ?_)
              · have c_12 : z1 ≤ 1 := (x_leN (a := z1) (b := 1) (by omega) (by omega)).mp c_12
                refine lv_iinc (v := (Int32.ofNat (i1 + 1))) (lv' := [(3, .int (Int32.ofNat (i1 + 1))), (4, .int ov), (0, .ref (ad 4)), (1, .ref cp), (2, .int (Int32.ofNat z1))]) hx hb d_Machine_evaluate_147 hl (k := 4) rfl (x_incN i1) (by decide) rfl (fun ls hl => ?_)
                refine lv_goto (tgt := 4) hx hb d_Machine_evaluate_150 (by decide) ?_
                exact ih (nc - (i1 + 1)) (by omega) H locs ls ⟨A1, z1, i1 + 1, rfl, by omega, by omega, hP, hD, hS, lv_sub hl [2, 3, 4, 0] rfl⟩
              · have c_12 : ¬ z1 ≤ 1 := fun h9 => c_12 ((x_leN (a := z1) (b := 1) (by omega) (by omega)).mpr h9)
                exfalso; omega
            · have c_11 : ¬ z1 ≤ 0 := fun h9 => c_11 ((x_leN (a := z1) (b := 0) (by omega) (by omega)).mpr h9)
              refine lv_aload_n hx hb d_Machine_evaluate_89 rfl (lv_at hl 1 rfl) ?_
              refine k_g (C := "ChannelMachine$Machine") (F := F_Machine) (N := 11) hx hb hts i_Machine hown hK hP 4 6 (by decide) (by decide) rfl (by decide) (d := (0, 13)) rfl (hts _ k_162) (fun _ h9 => h9) (v := .ref (ad 13)) rfl d_Machine_evaluate_90 ?_
              refine lv_iload_n hx hb d_Machine_evaluate_93 rfl (lv_at hl 3 rfl) ?_
              refine lv_iconst (v := 1) hx hb d_Machine_evaluate_94 (by decide) ?_
              refine lv_isub hx hb d_Machine_evaluate_95 ?_
              refine W.eq (g2 := F0 m 96 ls [.int (Int32.ofNat (z1 - 1)), .ref (ad 13)]) (by rw [← x_subN (a := z1) (b := 1) (by omega)] <;> rfl) ?_
              refine lv_aload_n hx hb d_Machine_evaluate_96 rfl (lv_at hl 1 rfl) ?_
              refine k_g (C := "ChannelMachine$Machine") (F := F_Machine) (N := 11) hx hb hts i_Machine hown hK hP 4 6 (by decide) (by decide) rfl (by decide) (d := (0, 13)) rfl (hts _ k_162) (fun _ h9 => h9) (v := .ref (ad 13)) rfl d_Machine_evaluate_97 ?_
              refine lv_iload_n hx hb d_Machine_evaluate_100 rfl (lv_at hl 3 rfl) ?_
              refine lv_iconst (v := 1) hx hb d_Machine_evaluate_101 (by decide) ?_
              refine lv_isub hx hb d_Machine_evaluate_102 ?_
              refine W.eq (g2 := F0 m 103 ls [.int (Int32.ofNat (z1 - 1)), .ref (ad 13), .int (Int32.ofNat (z1 - 1)), .ref (ad 13)]) (by rw [← x_subN (a := z1) (b := 1) (by omega)] <;> rfl) ?_
              refine k_ld hx hb hK hP 13 (by decide) (by decide) (by decide) (by decide) (j := (Int32.ofNat (z1 - 1))) (x_inN (show (z1 - 1) < 72 from by omega) (by decide)) d_Machine_evaluate_103 ?_
              refine W.eq (g2 := F0 m 104 ls [.int (A1 13 ((z1 - 1))), .int (Int32.ofNat (z1 - 1)), .ref (ad 13)]) (by rw [x_nat (a := (z1 - 1)) (by omega)]) ?_
              refine lv_ineg hx hb d_Machine_evaluate_104 ?_
              refine lv_topi (fun d13 _ => ?_)
              refine k_st hx hb hK hP hD hS 13 (by decide) (by decide) (by decide) (by decide) (j := (Int32.ofNat (z1 - 1))) (x := d13) (x_inN (show (z1 - 1) < 72 from by omega) (by decide)) d_Machine_evaluate_105 (fun H locs hP hD hS => ?_)
              generalize m_up A1 13 _ = A14 at hP hD
              refine lv_goto (tgt := 147) hx hb d_Machine_evaluate_106 (by decide) ?_
              refine lv_iinc (v := (Int32.ofNat (i1 + 1))) (lv' := [(3, .int (Int32.ofNat (i1 + 1))), (4, .int ov), (0, .ref (ad 4)), (1, .ref cp), (2, .int (Int32.ofNat z1))]) hx hb d_Machine_evaluate_147 hl (k := 4) rfl (x_incN i1) (by decide) rfl (fun ls hl => ?_)
              refine lv_goto (tgt := 4) hx hb d_Machine_evaluate_150 (by decide) ?_
              exact ih (nc - (i1 + 1)) (by omega) H locs ls ⟨A14, z1, i1 + 1, rfl, by omega, by omega, hP, hD, hS, lv_sub hl [2, 3, 4, 0] rfl⟩
        · refine lv_aload_n hx hb d_Machine_evaluate_65 rfl (lv_at hl 1 rfl) ?_
          refine k_g (C := "ChannelMachine$Machine") (F := F_Machine) (N := 11) hx hb hts i_Machine hown hK hP 4 6 (by decide) (by decide) rfl (by decide) (d := (0, 13)) rfl (hts _ k_162) (fun _ h9 => h9) (v := .ref (ad 13)) rfl d_Machine_evaluate_66 ?_
          refine lv_iload_n hx hb d_Machine_evaluate_69 rfl (lv_at hl 3 rfl) ?_
          refine lv_iload hx hb d_Machine_evaluate_70 (lv_at hl 0 rfl) ?_
          refine k_st hx hb hK hP hD hS 13 (by decide) (by decide) (by decide) (by decide) (j := (Int32.ofNat z1)) (x := ov) (x_inN (show z1 < 72 from by omega) (by decide)) d_Machine_evaluate_72 (fun H locs hP hD hS => ?_)
          generalize m_up A1 13 _ = A15 at hP hD
          refine lv_iinc (v := (Int32.ofNat (z1 + 1))) (lv' := [(2, .int (Int32.ofNat (z1 + 1))), (4, .int ov), (0, .ref (ad 4)), (1, .ref cp), (3, .int (Int32.ofNat i1))]) hx hb d_Machine_evaluate_73 hl (k := 3) rfl (x_incN z1) (by decide) rfl (fun ls hl => ?_)
          refine lv_goto (tgt := 147) hx hb d_Machine_evaluate_76 (by decide) ?_
          refine lv_iinc (v := (Int32.ofNat (i1 + 1))) (lv' := [(3, .int (Int32.ofNat (i1 + 1))), (2, .int (Int32.ofNat (z1 + 1))), (4, .int ov), (0, .ref (ad 4)), (1, .ref cp)]) hx hb d_Machine_evaluate_147 hl (k := 4) rfl (x_incN i1) (by decide) rfl (fun ls hl => ?_)
          refine lv_goto (tgt := 4) hx hb d_Machine_evaluate_150 (by decide) ?_
          exact ih (nc - (i1 + 1)) (by omega) H locs ls ⟨A15, (z1 + 1), i1 + 1, rfl, by omega, by omega, hP, hD, hS, lv_sub hl [3, 4, 1, 0] rfl⟩
      · refine lv_iload hx hb d_Machine_evaluate_29 (lv_at hl 0 rfl) ?_
        refine lv_sipush (v := 1006) hx hb d_Machine_evaluate_31 (by decide) ?_
        refine lv_icmp_ge (tgt := 60) hx hb d_Machine_evaluate_34 (by decide) (fun c16 => ?_) (fun c16 => ?_)
        · refine lv_iload hx hb d_Machine_evaluate_60 (lv_at hl 0 rfl) ?_
          refine lv_if_lt (tgt := 79) hx hb d_Machine_evaluate_62 (by decide) (fun c17 => ?_) (fun c17 => ?_)
          · refine lv_iload hx hb d_Machine_evaluate_79 (lv_at hl 0 rfl) ?_
            refine lv_iconst (v := (-1)) hx hb d_Machine_evaluate_81 (by decide) ?_
            refine lv_icmp_ne (tgt := 109) hx hb d_Machine_evaluate_82 (by decide) (fun c18 => ?_) (fun c18 => ?_)
            · refine lv_iload_n hx hb d_Machine_evaluate_109 rfl (lv_at hl 3 rfl) ?_
              refine lv_iconst (v := 1) hx hb d_Machine_evaluate_110 (by decide) ?_
              refine lv_icmp_le (tgt := 147) hx hb d_Machine_evaluate_111 (by decide) (fun c_19 => ?_) (fun c_19 => ?_)
              · have c_19 : z1 ≤ 1 := (x_leN (a := z1) (b := 1) (by omega) (by omega)).mp c_19
                refine lv_iinc (v := (Int32.ofNat (i1 + 1))) (lv' := [(3, .int (Int32.ofNat (i1 + 1))), (4, .int ov), (0, .ref (ad 4)), (1, .ref cp), (2, .int (Int32.ofNat z1))]) hx hb d_Machine_evaluate_147 hl (k := 4) rfl (x_incN i1) (by decide) rfl (fun ls hl => ?_)
                refine lv_goto (tgt := 4) hx hb d_Machine_evaluate_150 (by decide) ?_
                exact ih (nc - (i1 + 1)) (by omega) H locs ls ⟨A1, z1, i1 + 1, rfl, by omega, by omega, hP, hD, hS, lv_sub hl [2, 3, 4, 0] rfl⟩
              · have c_19 : ¬ z1 ≤ 1 := fun h9 => c_19 ((x_leN (a := z1) (b := 1) (by omega) (by omega)).mpr h9)
                obtain ⟨cv, hcv, hopc⟩ := y_c16 hop c17 c18
                refine lv_iinc (v := (Int32.ofNat (z1 - 1))) (lv' := [(2, .int (Int32.ofNat (z1 - 1))), (4, .int ov), (0, .ref (ad 4)), (1, .ref cp), (3, .int (Int32.ofNat i1))]) hx hb d_Machine_evaluate_114 hl (k := 3) rfl (x_decN (a := z1) (by omega)) (by decide) rfl (fun ls hl => ?_)
                refine lv_aload_n hx hb d_Machine_evaluate_117 rfl (lv_at hl 2 rfl) ?_
                refine k_g (C := "ChannelMachine$Machine") (F := F_Machine) (N := 11) hx hb hts i_Machine hown hK hP 4 6 (by decide) (by decide) rfl (by decide) (d := (0, 13)) rfl (hts _ k_162) (fun _ h9 => h9) (v := .ref (ad 13)) rfl d_Machine_evaluate_118 ?_
                refine lv_iload_n hx hb d_Machine_evaluate_121 rfl (lv_at hl 0 rfl) ?_
                refine lv_iconst (v := 1) hx hb d_Machine_evaluate_122 (by decide) ?_
                refine lv_isub hx hb d_Machine_evaluate_123 ?_
                refine W.eq (g2 := F0 m 124 ls [.int (Int32.ofNat ((z1 - 1) - 1)), .ref (ad 13)]) (by rw [← x_subN (a := (z1 - 1)) (b := 1) (by omega)] <;> rfl) ?_
                refine lv_aload_n hx hb d_Machine_evaluate_124 rfl (lv_at hl 2 rfl) ?_
                refine lv_iload hx hb d_Machine_evaluate_125 (lv_at hl 1 rfl) ?_
                refine lv_ineg hx hb d_Machine_evaluate_127 ?_
                refine lv_i2c (v := cv) hx hb d_Machine_evaluate_128 hcv ?_
                refine lv_aload_n hx hb d_Machine_evaluate_129 rfl (lv_at hl 2 rfl) ?_
                refine k_g (C := "ChannelMachine$Machine") (F := F_Machine) (N := 11) hx hb hts i_Machine hown hK hP 4 6 (by decide) (by decide) rfl (by decide) (d := (0, 13)) rfl (hts _ k_162) (fun _ h9 => h9) (v := .ref (ad 13)) rfl d_Machine_evaluate_130 ?_
                refine lv_iload_n hx hb d_Machine_evaluate_133 rfl (lv_at hl 0 rfl) ?_
                refine lv_iconst (v := 1) hx hb d_Machine_evaluate_134 (by decide) ?_
                refine lv_isub hx hb d_Machine_evaluate_135 ?_
                refine W.eq (g2 := F0 m 136 ls [.int (Int32.ofNat ((z1 - 1) - 1)), .ref (ad 13), .int cv, .ref (ad 4), .int (Int32.ofNat ((z1 - 1) - 1)), .ref (ad 13)]) (by rw [← x_subN (a := (z1 - 1)) (b := 1) (by omega)] <;> rfl) ?_
                refine k_ld hx hb hK hP 13 (by decide) (by decide) (by decide) (by decide) (j := (Int32.ofNat ((z1 - 1) - 1))) (x_inN (show ((z1 - 1) - 1) < 72 from by omega) (by decide)) d_Machine_evaluate_136 ?_
                refine W.eq (g2 := F0 m 137 ls [.int (A1 13 (((z1 - 1) - 1))), .int cv, .ref (ad 4), .int (Int32.ofNat ((z1 - 1) - 1)), .ref (ad 13)]) (by rw [x_nat (a := ((z1 - 1) - 1)) (by omega)]) ?_
                refine lv_aload_n hx hb d_Machine_evaluate_137 rfl (lv_at hl 2 rfl) ?_
                refine k_g (C := "ChannelMachine$Machine") (F := F_Machine) (N := 11) hx hb hts i_Machine hown hK hP 4 6 (by decide) (by decide) rfl (by decide) (d := (0, 13)) rfl (hts _ k_162) (fun _ h9 => h9) (v := .ref (ad 13)) rfl d_Machine_evaluate_138 ?_
                refine lv_iload_n hx hb d_Machine_evaluate_141 rfl (lv_at hl 0 rfl) ?_
                refine k_ld hx hb hK hP 13 (by decide) (by decide) (by decide) (by decide) (j := (Int32.ofNat (z1 - 1))) (x_inN (show (z1 - 1) < 72 from by omega) (by decide)) d_Machine_evaluate_142 ?_
                refine W.eq (g2 := F0 m 143 ls [.int (A1 13 ((z1 - 1))), .int (A1 13 (((z1 - 1) - 1))), .int cv, .ref (ad 4), .int (Int32.ofNat ((z1 - 1) - 1)), .ref (ad 13)]) (by rw [x_nat (a := (z1 - 1)) (by omega)]) ?_
                refine y_know (fun hya1 hya2 hya3 hya4 => ?_)
                have hFc := y_free hD hS hA
                refine vx_calli (vx_runV (As := [.int cv, .int (A1 13 (((z1 - 1) - 1))), .int (A1 13 ((z1 - 1)))]) (rest := [.int (Int32.ofNat ((z1 - 1) - 1)), .ref (ad 13)]) ⟨hx, hb, hml, hown, hts⟩ (c_M_combined l hst dC dI ar N0 z ad I T A1 O pl G C Gs qn sn cq cs (cv) ((A1 13 (((z1 - 1) - 1)))) ((A1 13 ((z1 - 1)))) H.size (y_hs H) hmi hopc) (cwV 3 hts (x_goodV k_795 k_797 kp_32 k_3 k_798) rfl rfl rfl (by decide +kernel) ⟨Nat.le_of_ble_eq_true rfl, Nat.le_of_ble_eq_true rfl⟩) ⟨y_blind, va_recv hK hP (ci := 2) (q0 := 4) rfl (y_W_ob (by decide) (by decide)), fun U9 hU9 hW9 => y_pre hU9 hW9 hP hD hU hZ hS hAN hN0⟩ rfl rfl hl.1 rfl (lv_room (Nat.le_of_ble_eq_true rfl)) d_Machine_evaluate_143 ⟨(by show 0 + (1) ≤ 1; omega), (by show 0 + (6) ≤ 6; omega)⟩) hS (fun q _ h => hFc q h) hFc (fun q h1 h2 => hFc q h2) (fun E ce q9 u t H1 locs ht hvm hpx hbx hz1 hk1 hS hce hcv hcl => ?_) (fun r_20 u t H1 locs ht hvm hw hB hz1 hk1 hS => ?_)
                · obtain ⟨I21, T21, A21, O21, pl21, q21, s21, cq21, cs21⟩ := u
                  dsimp only at hpx hbx
                  rw [ht] at hbx
                  obtain ⟨hP, hD1, hac21⟩ := hbx
                  have hD : va_D Bq (y_W ad ar I21 T21 A21 O21 pl21) := hD1.weaken (fun _ q _ h => hFc q.1 h)
                  generalize H1 = H at hP hS hac21 hce ⊢
                  obtain ⟨hE, hac21⟩ := hac21
                  obtain ⟨hmi, hbd21, fr21, h73⟩ := hpx
                  have hb21 := hbd21
                  unfold y_bd at hb21
                  dsimp only at hb21
                  refine y_knowx (fun hy91 hy92 hy93 hy94 => ?_)
                  have hac9 : y_ac (cq + cs) (s.heap.size + 1) (y_hs s.heap + 6) (cq21 + cs21) H := ⟨by omega, by omega⟩
                  exact vx_out (fun x hx9 => (htb x hx9).elim) hlocks hce hcv hcl (fun t ht hvm => ⟨(I21, T21, A21, O21, pl21, (q21, s21, cq21, cs21)), ⟨hmi, (y_bd.tr hbd21 (y_bd.rf (a := 0) (b := 0)) (e := 0) (g := 0) (by decide) (by decide)), (m_fr.rf.tr fr21 (by decide)), h73⟩, (by dsimp only; rw [ht]; exact ⟨hP, hD, hE, hac9⟩), hS.F ht⟩) hS.2.2 (by show 0 + (1) ≤ 1; omega) (by show 0 + (6) ≤ 6; omega)
                · obtain ⟨I22, T22, A22, O22, pl22, q22, s22, cq22, cs22⟩ := u
                  dsimp only at hw hB
                  rw [ht] at hB
                  obtain ⟨hP, hD1, hac22⟩ := hB
                  have hD : va_D Bq (y_W ad ar I22 T22 A22 O22 pl22) := hD1.weaken (fun _ q _ h => hFc q.1 h)
                  generalize H1 = H at hP hS hac22 ⊢
                  cases hw
                  unfold y_ac at hac22
                  try dsimp only at hac22
                  refine y_tight (k := 0) (n := 0) (by omega) (by omega) ?_
                  refine k_st hx hb hK hP hD hS 13 (by decide) (by decide) (by decide) (by decide) (j := (Int32.ofNat ((z1 - 1) - 1))) (x := r_20) (x_inN (show ((z1 - 1) - 1) < 72 from by omega) (by decide)) d_Machine_evaluate_146 (fun H locs hP hD hS => ?_)
                  generalize m_up A1 13 _ = A23 at hP hD
                  refine lv_iinc (v := (Int32.ofNat (i1 + 1))) (lv' := [(3, .int (Int32.ofNat (i1 + 1))), (2, .int (Int32.ofNat (z1 - 1))), (4, .int ov), (0, .ref (ad 4)), (1, .ref cp)]) hx hb d_Machine_evaluate_147 hl (k := 4) rfl (x_incN i1) (by decide) rfl (fun ls hl => ?_)
                  refine lv_goto (tgt := 4) hx hb d_Machine_evaluate_150 (by decide) ?_
                  exact ih (nc - (i1 + 1)) (by omega) H locs ls ⟨A23, (z1 - 1), i1 + 1, rfl, by omega, by omega, hP, hD, hS, lv_sub hl [3, 4, 1, 0] rfl⟩
            · refine lv_iload_n hx hb d_Machine_evaluate_85 rfl (lv_at hl 3 rfl) ?_
              refine lv_if_le (tgt := 109) hx hb d_Machine_evaluate_86 (by decide) (fun c_24 => ?_) (fun c_24 => ?_)
              · have c_24 : z1 ≤ 0 := (x_leN (a := z1) (b := 0) (by omega) (by omega)).mp c_24
                refine lv_iload_n hx hb d_Machine_evaluate_109 rfl (lv_at hl 3 rfl) ?_
                refine lv_iconst (v := 1) hx hb d_Machine_evaluate_110 (by decide) ?_
                refine lv_icmp_le (tgt := 147) hx hb d_Machine_evaluate_111 (by decide) (fun c_25 => ?_) (fun c_25 => ?_)
                · have c_25 : z1 ≤ 1 := (x_leN (a := z1) (b := 1) (by omega) (by omega)).mp c_25
                  refine lv_iinc (v := (Int32.ofNat (i1 + 1))) (lv' := [(3, .int (Int32.ofNat (i1 + 1))), (4, .int ov), (0, .ref (ad 4)), (1, .ref cp), (2, .int (Int32.ofNat z1))]) hx hb d_Machine_evaluate_147 hl (k := 4) rfl (x_incN i1) (by decide) rfl (fun ls hl => ?_)
                  refine lv_goto (tgt := 4) hx hb d_Machine_evaluate_150 (by decide) ?_
                  exact ih (nc - (i1 + 1)) (by omega) H locs ls ⟨A1, z1, i1 + 1, rfl, by omega, by omega, hP, hD, hS, lv_sub hl [2, 3, 4, 0] rfl⟩
                · have c_25 : ¬ z1 ≤ 1 := fun h9 => c_25 ((x_leN (a := z1) (b := 1) (by omega) (by omega)).mpr h9)
                  exfalso; omega
              · have c_24 : ¬ z1 ≤ 0 := fun h9 => c_24 ((x_leN (a := z1) (b := 0) (by omega) (by omega)).mpr h9)
                refine lv_aload_n hx hb d_Machine_evaluate_89 rfl (lv_at hl 1 rfl) ?_
                refine k_g (C := "ChannelMachine$Machine") (F := F_Machine) (N := 11) hx hb hts i_Machine hown hK hP 4 6 (by decide) (by decide) rfl (by decide) (d := (0, 13)) rfl (hts _ k_162) (fun _ h9 => h9) (v := .ref (ad 13)) rfl d_Machine_evaluate_90 ?_
                refine lv_iload_n hx hb d_Machine_evaluate_93 rfl (lv_at hl 3 rfl) ?_
                refine lv_iconst (v := 1) hx hb d_Machine_evaluate_94 (by decide) ?_
                refine lv_isub hx hb d_Machine_evaluate_95 ?_
                refine W.eq (g2 := F0 m 96 ls [.int (Int32.ofNat (z1 - 1)), .ref (ad 13)]) (by rw [← x_subN (a := z1) (b := 1) (by omega)] <;> rfl) ?_
                refine lv_aload_n hx hb d_Machine_evaluate_96 rfl (lv_at hl 1 rfl) ?_
                refine k_g (C := "ChannelMachine$Machine") (F := F_Machine) (N := 11) hx hb hts i_Machine hown hK hP 4 6 (by decide) (by decide) rfl (by decide) (d := (0, 13)) rfl (hts _ k_162) (fun _ h9 => h9) (v := .ref (ad 13)) rfl d_Machine_evaluate_97 ?_
                refine lv_iload_n hx hb d_Machine_evaluate_100 rfl (lv_at hl 3 rfl) ?_
                refine lv_iconst (v := 1) hx hb d_Machine_evaluate_101 (by decide) ?_
                refine lv_isub hx hb d_Machine_evaluate_102 ?_
                refine W.eq (g2 := F0 m 103 ls [.int (Int32.ofNat (z1 - 1)), .ref (ad 13), .int (Int32.ofNat (z1 - 1)), .ref (ad 13)]) (by rw [← x_subN (a := z1) (b := 1) (by omega)] <;> rfl) ?_
                refine k_ld hx hb hK hP 13 (by decide) (by decide) (by decide) (by decide) (j := (Int32.ofNat (z1 - 1))) (x_inN (show (z1 - 1) < 72 from by omega) (by decide)) d_Machine_evaluate_103 ?_
                refine W.eq (g2 := F0 m 104 ls [.int (A1 13 ((z1 - 1))), .int (Int32.ofNat (z1 - 1)), .ref (ad 13)]) (by rw [x_nat (a := (z1 - 1)) (by omega)]) ?_
                refine lv_ineg hx hb d_Machine_evaluate_104 ?_
                refine lv_topi (fun d26 _ => ?_)
                refine k_st hx hb hK hP hD hS 13 (by decide) (by decide) (by decide) (by decide) (j := (Int32.ofNat (z1 - 1))) (x := d26) (x_inN (show (z1 - 1) < 72 from by omega) (by decide)) d_Machine_evaluate_105 (fun H locs hP hD hS => ?_)
                generalize m_up A1 13 _ = A27 at hP hD
                refine lv_goto (tgt := 147) hx hb d_Machine_evaluate_106 (by decide) ?_
                refine lv_iinc (v := (Int32.ofNat (i1 + 1))) (lv' := [(3, .int (Int32.ofNat (i1 + 1))), (4, .int ov), (0, .ref (ad 4)), (1, .ref cp), (2, .int (Int32.ofNat z1))]) hx hb d_Machine_evaluate_147 hl (k := 4) rfl (x_incN i1) (by decide) rfl (fun ls hl => ?_)
                refine lv_goto (tgt := 4) hx hb d_Machine_evaluate_150 (by decide) ?_
                exact ih (nc - (i1 + 1)) (by omega) H locs ls ⟨A27, z1, i1 + 1, rfl, by omega, by omega, hP, hD, hS, lv_sub hl [2, 3, 4, 0] rfl⟩
          · refine lv_aload_n hx hb d_Machine_evaluate_65 rfl (lv_at hl 1 rfl) ?_
            refine k_g (C := "ChannelMachine$Machine") (F := F_Machine) (N := 11) hx hb hts i_Machine hown hK hP 4 6 (by decide) (by decide) rfl (by decide) (d := (0, 13)) rfl (hts _ k_162) (fun _ h9 => h9) (v := .ref (ad 13)) rfl d_Machine_evaluate_66 ?_
            refine lv_iload_n hx hb d_Machine_evaluate_69 rfl (lv_at hl 3 rfl) ?_
            refine lv_iload hx hb d_Machine_evaluate_70 (lv_at hl 0 rfl) ?_
            refine k_st hx hb hK hP hD hS 13 (by decide) (by decide) (by decide) (by decide) (j := (Int32.ofNat z1)) (x := ov) (x_inN (show z1 < 72 from by omega) (by decide)) d_Machine_evaluate_72 (fun H locs hP hD hS => ?_)
            generalize m_up A1 13 _ = A28 at hP hD
            refine lv_iinc (v := (Int32.ofNat (z1 + 1))) (lv' := [(2, .int (Int32.ofNat (z1 + 1))), (4, .int ov), (0, .ref (ad 4)), (1, .ref cp), (3, .int (Int32.ofNat i1))]) hx hb d_Machine_evaluate_73 hl (k := 3) rfl (x_incN z1) (by decide) rfl (fun ls hl => ?_)
            refine lv_goto (tgt := 147) hx hb d_Machine_evaluate_76 (by decide) ?_
            refine lv_iinc (v := (Int32.ofNat (i1 + 1))) (lv' := [(3, .int (Int32.ofNat (i1 + 1))), (2, .int (Int32.ofNat (z1 + 1))), (4, .int ov), (0, .ref (ad 4)), (1, .ref cp)]) hx hb d_Machine_evaluate_147 hl (k := 4) rfl (x_incN i1) (by decide) rfl (fun ls hl => ?_)
            refine lv_goto (tgt := 4) hx hb d_Machine_evaluate_150 (by decide) ?_
            exact ih (nc - (i1 + 1)) (by omega) H locs ls ⟨A28, (z1 + 1), i1 + 1, rfl, by omega, by omega, hP, hD, hS, lv_sub hl [3, 4, 1, 0] rfl⟩
        · refine lv_aload_n hx hb d_Machine_evaluate_37 rfl (lv_at hl 1 rfl) ?_
          refine k_g (C := "ChannelMachine$Machine") (F := F_Machine) (N := 11) hx hb hts i_Machine hown hK hP 4 6 (by decide) (by decide) rfl (by decide) (d := (0, 13)) rfl (hts _ k_162) (fun _ h9 => h9) (v := .ref (ad 13)) rfl d_Machine_evaluate_38 ?_
          refine lv_iload_n hx hb d_Machine_evaluate_41 rfl (lv_at hl 3 rfl) ?_
          refine lv_aload_n hx hb d_Machine_evaluate_42 rfl (lv_at hl 1 rfl) ?_
          refine k_g (C := "ChannelMachine$Machine") (F := F_Machine) (N := 11) hx hb hts i_Machine hown hK hP 4 0 (by decide) (by decide) rfl (by decide) (d := (0, 5)) rfl (hts _ k_150) (fun _ h9 => h9) (v := .ref (ad 5)) rfl d_Machine_evaluate_43 ?_
          refine lv_iload hx hb d_Machine_evaluate_46 (lv_at hl 0 rfl) ?_
          refine lv_sipush (v := 1000) hx hb d_Machine_evaluate_48 (by decide) ?_
          refine lv_isub hx hb d_Machine_evaluate_51 ?_
          refine k_ld hx hb hK hP 5 (by decide) (by decide) (by decide) (by decide) (j := (ov - 1000)) (y_v6 (Int32.not_lt.mp c3) c16) d_Machine_evaluate_52 ?_
          refine k_st hx hb hK hP hD hS 13 (by decide) (by decide) (by decide) (by decide) (j := (Int32.ofNat z1)) (x := (A1 5 (Int32.toNatClampNeg (ov - 1000)))) (x_inN (show z1 < 72 from by omega) (by decide)) d_Machine_evaluate_53 (fun H locs hP hD hS => ?_)
          generalize m_up A1 13 _ = A29 at hP hD
          refine lv_iinc (v := (Int32.ofNat (z1 + 1))) (lv' := [(2, .int (Int32.ofNat (z1 + 1))), (4, .int ov), (0, .ref (ad 4)), (1, .ref cp), (3, .int (Int32.ofNat i1))]) hx hb d_Machine_evaluate_54 hl (k := 3) rfl (x_incN z1) (by decide) rfl (fun ls hl => ?_)
          refine lv_goto (tgt := 147) hx hb d_Machine_evaluate_57 (by decide) ?_
          refine lv_iinc (v := (Int32.ofNat (i1 + 1))) (lv' := [(3, .int (Int32.ofNat (i1 + 1))), (2, .int (Int32.ofNat (z1 + 1))), (4, .int ov), (0, .ref (ad 4)), (1, .ref cp)]) hx hb d_Machine_evaluate_147 hl (k := 4) rfl (x_incN i1) (by decide) rfl (fun ls hl => ?_)
          refine lv_goto (tgt := 4) hx hb d_Machine_evaluate_150 (by decide) ?_
          exact ih (nc - (i1 + 1)) (by omega) H locs ls ⟨A29, (z1 + 1), i1 + 1, rfl, by omega, by omega, hP, hD, hS, lv_sub hl [3, 4, 1, 0] rfl⟩
