-- ===== 87.ytime: growTime of the machine, by program =====
theorem k_213 : (Jvm.Cond.selects "java/util/ArrayList" ({ cls := "java/util/List", name := "size", desc := "()I" } : Jvm.MethodName) ({ cls := "java/util/ArrayList", name := "size", desc := "()I" } : Jvm.MethodName)) ∈ x_T := x_at 213 (by decide +kernel) (by decide +kernel)
theorem k_215 : (Jvm.Cond.instanceMethod ({ cls := "java/util/ArrayList", name := "size", desc := "()I" } : Jvm.MethodName)) ∈ x_T := x_at 215 (by decide +kernel) (by decide +kernel)
theorem k_217 : (Jvm.Cond.code ({ cls := "java/util/ArrayList", name := "size", desc := "()I" } : Jvm.MethodName) prog_28_method_8_code (1 : Nat) (Option.some Jvm.ClassFile.FieldType.int)) ∈ x_T := x_at 217 (by decide +kernel) (by decide +kernel)
theorem k_888 : (Jvm.Cond.methodLink "ChannelMachine$Machine" (156 : Nat) ({ cls := "java/util/List", name := "size", desc := "()I" } : Jvm.MethodName)) ∈ x_T := x_at 888 (by decide +kernel) (by decide +kernel)
theorem k_889 : (Jvm.Cond.methodLink "ChannelMachine$Machine" (158 : Nat) ({ cls := "java/lang/Math", name := "min", desc := "(JJ)J" } : Jvm.MethodName)) ∈ x_T := x_at 889 (by decide +kernel) (by decide +kernel)
theorem k_890 : (Jvm.Cond.static ({ cls := "java/lang/Math", name := "min", desc := "(JJ)J" } : Jvm.MethodName)) ∈ x_T := x_at 890 (by decide +kernel) (by decide +kernel)
theorem k_891 : (Jvm.Cond.code ({ cls := "java/lang/Math", name := "min", desc := "(JJ)J" } : Jvm.MethodName) prog_21_method_70_code (4 : Nat) (Option.some Jvm.ClassFile.FieldType.long)) ∈ x_T := x_at 891 (by decide +kernel) (by decide +kernel)
theorem d_Machine_growTime_0 : decode prog_6_method_11_code 0 = .ok (.aload_n 0, 1) := by decide +kernel
theorem d_Machine_growTime_1 : decode prog_6_method_11_code 1 = .ok (.getfield 38, 3) := by decide +kernel
theorem d_Machine_growTime_4 : decode prog_6_method_11_code 4 = .ok (.invokeinterface 110 1, 5) := by decide +kernel
theorem d_Machine_growTime_9 : decode prog_6_method_11_code 9 = .ok (.ifCond .eq 10, 3) := by decide +kernel
theorem d_Machine_growTime_12 : decode prog_6_method_11_code 12 = .ok (.aload_n 0, 1) := by decide +kernel
theorem d_Machine_growTime_13 : decode prog_6_method_11_code 13 = .ok (.getfield 54, 3) := by decide +kernel
theorem d_Machine_growTime_16 : decode prog_6_method_11_code 16 = .ok (.goto 19, 3) := by decide +kernel
theorem d_Machine_growTime_19 : decode prog_6_method_11_code 19 = .ok (.aload_n 0, 1) := by decide +kernel
theorem d_Machine_growTime_20 : decode prog_6_method_11_code 20 = .ok (.getfield 38, 3) := by decide +kernel
theorem d_Machine_growTime_23 : decode prog_6_method_11_code 23 = .ok (.iconst 0, 1) := by decide +kernel
theorem d_Machine_growTime_24 : decode prog_6_method_11_code 24 = .ok (.invokeinterface 114 2, 5) := by decide +kernel
theorem d_Machine_growTime_29 : decode prog_6_method_11_code 29 = .ok (.checkcast 77, 3) := by decide +kernel
theorem d_Machine_growTime_32 : decode prog_6_method_11_code 32 = .ok (.getfield 153, 3) := by decide +kernel
theorem d_Machine_growTime_35 : decode prog_6_method_11_code 35 = .ok (.lstore_n 1, 1) := by decide +kernel
theorem d_Machine_growTime_36 : decode prog_6_method_11_code 36 = .ok (.iconst 0, 1) := by decide +kernel
theorem d_Machine_growTime_37 : decode prog_6_method_11_code 37 = .ok (.istore_n 3, 1) := by decide +kernel
theorem d_Machine_growTime_38 : decode prog_6_method_11_code 38 = .ok (.iload_n 3, 1) := by decide +kernel
theorem d_Machine_growTime_39 : decode prog_6_method_11_code 39 = .ok (.aload_n 0, 1) := by decide +kernel
theorem d_Machine_growTime_40 : decode prog_6_method_11_code 40 = .ok (.getfield 38, 3) := by decide +kernel
theorem d_Machine_growTime_43 : decode prog_6_method_11_code 43 = .ok (.invokeinterface 156 1, 5) := by decide +kernel
theorem d_Machine_growTime_48 : decode prog_6_method_11_code 48 = .ok (.if_icmp .ge 30, 3) := by decide +kernel
theorem d_Machine_growTime_51 : decode prog_6_method_11_code 51 = .ok (.lload_n 1, 1) := by decide +kernel
theorem d_Machine_growTime_52 : decode prog_6_method_11_code 52 = .ok (.aload_n 0, 1) := by decide +kernel
theorem d_Machine_growTime_53 : decode prog_6_method_11_code 53 = .ok (.getfield 38, 3) := by decide +kernel
theorem d_Machine_growTime_56 : decode prog_6_method_11_code 56 = .ok (.iload_n 3, 1) := by decide +kernel
theorem d_Machine_growTime_57 : decode prog_6_method_11_code 57 = .ok (.invokeinterface 114 2, 5) := by decide +kernel
theorem d_Machine_growTime_62 : decode prog_6_method_11_code 62 = .ok (.checkcast 77, 3) := by decide +kernel
theorem d_Machine_growTime_65 : decode prog_6_method_11_code 65 = .ok (.getfield 153, 3) := by decide +kernel
theorem d_Machine_growTime_68 : decode prog_6_method_11_code 68 = .ok (.invokestatic 158, 3) := by decide +kernel
theorem d_Machine_growTime_71 : decode prog_6_method_11_code 71 = .ok (.lstore_n 1, 1) := by decide +kernel
theorem d_Machine_growTime_72 : decode prog_6_method_11_code 72 = .ok (.iinc 3 1, 3) := by decide +kernel
theorem d_Machine_growTime_75 : decode prog_6_method_11_code 75 = .ok (.goto (-37), 3) := by decide +kernel
theorem d_Machine_growTime_78 : decode prog_6_method_11_code 78 = .ok (.aload_n 0, 1) := by decide +kernel
theorem d_Machine_growTime_79 : decode prog_6_method_11_code 79 = .ok (.lload_n 1, 1) := by decide +kernel
theorem d_Machine_growTime_80 : decode prog_6_method_11_code 80 = .ok (.putfield 54, 3) := by decide +kernel
theorem d_Machine_growTime_83 : decode prog_6_method_11_code 83 = .ok (.iconst 0, 1) := by decide +kernel
theorem d_Machine_growTime_84 : decode prog_6_method_11_code 84 = .ok (.istore_n 3, 1) := by decide +kernel
theorem d_Machine_growTime_85 : decode prog_6_method_11_code 85 = .ok (.iload_n 3, 1) := by decide +kernel
theorem d_Machine_growTime_86 : decode prog_6_method_11_code 86 = .ok (.aload_n 0, 1) := by decide +kernel
theorem d_Machine_growTime_87 : decode prog_6_method_11_code 87 = .ok (.getfield 38, 3) := by decide +kernel
theorem d_Machine_growTime_90 : decode prog_6_method_11_code 90 = .ok (.invokeinterface 156 1, 5) := by decide +kernel
theorem d_Machine_growTime_95 : decode prog_6_method_11_code 95 = .ok (.if_icmp .ge 50, 3) := by decide +kernel
theorem d_Machine_growTime_98 : decode prog_6_method_11_code 98 = .ok (.aload_n 0, 1) := by decide +kernel
theorem d_Machine_growTime_99 : decode prog_6_method_11_code 99 = .ok (.getfield 38, 3) := by decide +kernel
theorem d_Machine_growTime_102 : decode prog_6_method_11_code 102 = .ok (.iload_n 3, 1) := by decide +kernel
theorem d_Machine_growTime_103 : decode prog_6_method_11_code 103 = .ok (.invokeinterface 114 2, 5) := by decide +kernel
theorem d_Machine_growTime_108 : decode prog_6_method_11_code 108 = .ok (.checkcast 77, 3) := by decide +kernel
theorem d_Machine_growTime_111 : decode prog_6_method_11_code 111 = .ok (.getfield 153, 3) := by decide +kernel
theorem d_Machine_growTime_114 : decode prog_6_method_11_code 114 = .ok (.aload_n 0, 1) := by decide +kernel
theorem d_Machine_growTime_115 : decode prog_6_method_11_code 115 = .ok (.getfield 54, 3) := by decide +kernel
theorem d_Machine_growTime_118 : decode prog_6_method_11_code 118 = .ok (.lcmp, 1) := by decide +kernel
theorem d_Machine_growTime_119 : decode prog_6_method_11_code 119 = .ok (.ifCond .ne 20, 3) := by decide +kernel
theorem d_Machine_growTime_122 : decode prog_6_method_11_code 122 = .ok (.aload_n 0, 1) := by decide +kernel
theorem d_Machine_growTime_123 : decode prog_6_method_11_code 123 = .ok (.aload_n 0, 1) := by decide +kernel
theorem d_Machine_growTime_124 : decode prog_6_method_11_code 124 = .ok (.getfield 38, 3) := by decide +kernel
theorem d_Machine_growTime_127 : decode prog_6_method_11_code 127 = .ok (.iload_n 3, 1) := by decide +kernel
theorem d_Machine_growTime_128 : decode prog_6_method_11_code 128 = .ok (.invokeinterface 114 2, 5) := by decide +kernel
theorem d_Machine_growTime_133 : decode prog_6_method_11_code 133 = .ok (.checkcast 77, 3) := by decide +kernel
theorem d_Machine_growTime_136 : decode prog_6_method_11_code 136 = .ok (.invokevirtual 147, 3) := by decide +kernel
theorem d_Machine_growTime_139 : decode prog_6_method_11_code 139 = .ok (.iinc 3 1, 3) := by decide +kernel
theorem d_Machine_growTime_142 : decode prog_6_method_11_code 142 = .ok (.goto (-57), 3) := by decide +kernel
theorem d_Machine_growTime_145 : decode prog_6_method_11_code 145 = .ok (.aload_n 0, 1) := by decide +kernel
theorem d_Machine_growTime_146 : decode prog_6_method_11_code 146 = .ok (.getfield 38, 3) := by decide +kernel
theorem d_Machine_growTime_149 : decode prog_6_method_11_code 149 = .ok (.invokeinterface 156 1, 5) := by decide +kernel
theorem d_Machine_growTime_154 : decode prog_6_method_11_code 154 = .ok (.iconst 1, 1) := by decide +kernel
theorem d_Machine_growTime_155 : decode prog_6_method_11_code 155 = .ok (.isub, 1) := by decide +kernel
theorem d_Machine_growTime_156 : decode prog_6_method_11_code 156 = .ok (.istore_n 3, 1) := by decide +kernel
theorem d_Machine_growTime_157 : decode prog_6_method_11_code 157 = .ok (.iload_n 3, 1) := by decide +kernel
theorem d_Machine_growTime_158 : decode prog_6_method_11_code 158 = .ok (.ifCond .lt 44, 3) := by decide +kernel
theorem d_Machine_growTime_161 : decode prog_6_method_11_code 161 = .ok (.aload_n 0, 1) := by decide +kernel
theorem d_Machine_growTime_162 : decode prog_6_method_11_code 162 = .ok (.getfield 38, 3) := by decide +kernel
theorem d_Machine_growTime_165 : decode prog_6_method_11_code 165 = .ok (.iload_n 3, 1) := by decide +kernel
theorem d_Machine_growTime_166 : decode prog_6_method_11_code 166 = .ok (.invokeinterface 114 2, 5) := by decide +kernel
theorem d_Machine_growTime_171 : decode prog_6_method_11_code 171 = .ok (.checkcast 77, 3) := by decide +kernel
theorem d_Machine_growTime_174 : decode prog_6_method_11_code 174 = .ok (.getfield 153, 3) := by decide +kernel
theorem d_Machine_growTime_177 : decode prog_6_method_11_code 177 = .ok (.aload_n 0, 1) := by decide +kernel
theorem d_Machine_growTime_178 : decode prog_6_method_11_code 178 = .ok (.getfield 54, 3) := by decide +kernel
theorem d_Machine_growTime_181 : decode prog_6_method_11_code 181 = .ok (.lcmp, 1) := by decide +kernel
theorem d_Machine_growTime_182 : decode prog_6_method_11_code 182 = .ok (.ifCond .ne 14, 3) := by decide +kernel
theorem d_Machine_growTime_185 : decode prog_6_method_11_code 185 = .ok (.aload_n 0, 1) := by decide +kernel
theorem d_Machine_growTime_186 : decode prog_6_method_11_code 186 = .ok (.getfield 38, 3) := by decide +kernel
theorem d_Machine_growTime_189 : decode prog_6_method_11_code 189 = .ok (.iload_n 3, 1) := by decide +kernel
theorem d_Machine_growTime_190 : decode prog_6_method_11_code 190 = .ok (.invokeinterface 135 2, 5) := by decide +kernel
theorem d_Machine_growTime_195 : decode prog_6_method_11_code 195 = .ok (.pop, 1) := by decide +kernel
theorem d_Machine_growTime_196 : decode prog_6_method_11_code 196 = .ok (.iinc 3 (-1), 3) := by decide +kernel
theorem d_Machine_growTime_199 : decode prog_6_method_11_code 199 = .ok (.goto (-42), 3) := by decide +kernel
theorem d_Machine_growTime_202 : decode prog_6_method_11_code 202 = .ok (.return_, 1) := by decide +kernel
theorem y_rm {cq cs q1 cq1 cs1 Mq Ms : Nat} (h1 : cq1 ≤ Mq) (h2 : cs1 ≤ Ms) (h3 : cq ≤ cq1) (h4 : cs ≤ cs1) (h5 : 2 * (q1 + 1) + 12 ≤ Mq) (h6 : q1 ≤ cq1) : (cq1 + cs1 - (cq + cs)) / 5 + y_gc q1 cq1 ≤ (Mq - cq + (Ms - cs)) / 5 + 5 ∧ 4 * (cq1 + cs1 - (cq + cs)) + y_gs q1 cq1 ≤ 4 * (Mq - cq + (Ms - cs)) + 100 := by
  rcases y_gg q1 cq1 with ⟨e1, e2, e3⟩ | ⟨e1, e2, e3⟩
  · rw [e2, e3]
    constructor <;> omega
  · rw [e2, e3]
    constructor <;> omega
theorem y_dec1 {k : Nat} : Int32.ofNat k + Int32.ofInt (-1) = Int32.ofNat k - 1 := by rw [Int32.sub_eq_add_neg]; rfl
set_option maxHeartbeats 4000000 in
set_option maxRecDepth 100000 in
theorem c_M_growTime (l : Launch) (dC : Nat → ClassId) (dI : Nat → Nat → Nat) (ar : Nat → ClassId) (N0 : Nat) (z : Nat → Nat) (ad : Nat → Nat) (I : Nat → Int32) (T : Int64) (A : Nat → Nat → Int32) (O : Nat → Option Nat) (pl : va_W) (G : Nat → Nat) (C Gs : Nat → List Nat) (qn sn cq cs : Nat) (sz w0 : Nat) (hmi : y_MI z ar G C Gs I O (y_L pl) (qn, sn, cq, cs)) (hlim : qn + sn ≤ 10000000) : Met l ({ cls := "ChannelMachine$Machine", name := "growTime", desc := "()V" } : Jvm.MethodName) ((Jvm.Cond.code ({ cls := "ChannelMachine$Machine", name := "growTime", desc := "()V" } : Jvm.MethodName) prog_6_method_11_code (4 : Nat) (Option.none : Option Jvm.ClassFile.FieldType)) :: x_T) ({ frames := 8, cells := (y_mx cq (2 * (qn + sn) + 12) - cq + (y_mx cs (2 * (sn + 0) + 12) - cs)) / 5 + 5, slots := 4 * (y_mx cq (2 * (qn + sn) + 12) - cq + (y_mx cs (2 * (sn + 0) + 12) - cs)) + 100, locals := 212 }) (y_Pc (dC, dI) ar N0 z (y_W ad ar I T A O pl) sz w0 [.ref (ad 4)]) (va_Qv (fun (u : (Nat → Int32) × Int64 × (Nat → Nat → Int32) × (Nat → Option Nat) × va_W × (Nat × Nat × Nat × Nat)) => y_MI z ar G C Gs u.1 u.2.2.2.1 (y_L u.2.2.2.2.1) u.2.2.2.2.2 ∧ y_bd (qn, sn, cq, cs) u.2.2.2.2.2 sn 0 ∧ m_fr [12, 13, 14, 15] I u.1) (fun u t => va_P (dC, dI) y_cl (y_W ad ar u.1 u.2.1 u.2.2.1 u.2.2.2.1 u.2.2.2.2.1) t.heap ∧ va_D (va_A (y_W ad ar I T A O pl) sz) (y_W ad ar u.1 u.2.1 u.2.2.1 u.2.2.2.1 u.2.2.2.2.1) ∧ y_ac (cq + cs) sz w0 (u.2.2.2.2.2.2.2.1 + u.2.2.2.2.2.2.2.2) t.heap) (va_A (y_W ad ar I T A O pl) sz)) ((y_mx cq (2 * (qn + sn) + 12) - cq + (y_mx cs (2 * (sn + 0) + 12) - cs)) / 5 + 5) (4 * (y_mx cq (2 * (qn + sn) + 12) - cq + (y_mx cs (2 * (sn + 0) + 12) - cs)) + 100) (va_A (y_W ad ar I T A O pl) sz) := by
  refine Met.ofW (cc := prog_6_method_11_code) (maxL := 4) (ret := none) (by decide) rfl ?_
  intro p e s m args below meth c s₁ B hml hv
  obtain ⟨rfl, hsz, hN0, hP, hU, hZ, hD0, hw0⟩ := hv
  have hK := hU.2.1
  have hx := B.exec
  have hb := B.bytes
  have hr := B.returns
  have hts : ∀ w ∈ x_T, w.before ([.ref (ad 4)] : List Value).toArray s = true := fun w h => atoms_spec (ws := (Jvm.Cond.code ({ cls := "ChannelMachine$Machine", name := "growTime", desc := "()V" } : Jvm.MethodName) prog_6_method_11_code (4 : Nat) (Option.none : Option Jvm.ClassFile.FieldType)) :: x_T) B.pre w (List.mem_cons_of_mem _ h)
  have hown : s.vm.findClass "ChannelMachine$Machine" = some m.cls := findClass_of_methodNamed B.named
  have hlocks := B.notSynchronized
  subst hsz
  subst hw0
  have hD := hD0.self (sz := s.heap.size)
  have hAN := x_AN hD0 hN0
  generalize hAe : va_A (y_W ad ar I T A O pl) s.heap.size = Bq at hD hAN ⊢
  have hA : ∀ q : Nat, s.heap.size ≤ q → Bq q := fun q h => by rw [← hAe]; exact Or.inr h
  have hS : va_S Bq s.heap s.heap [] := va_S.rf
  have hl := lv_entry ([.ref (ad 4)]) (n := 4) (Nat.le_of_ble_eq_true rfl)
  rw [lg_entry_eq]
  generalize (lg_sl ([.ref (ad 4)]) ++ List.replicate (4 - (lg_sl ([.ref (ad 4)])).length) Slot.unset).toArray = ls at hl ⊢
  have hl : lv_has ls 4 [(0, .ref (ad 4))] := hl
  have hle := y_LS.le hmi.2.1.2
  have hle2 := y_LS.le hmi.2.2.1.2
  have hcap := hmi.2.2.2.2.1
  dsimp only at hle hle2 hcap
  have hm1 := @y_mx.r cq (2 * (qn + sn) + 12)
  have hm2 := @y_mx.l cq (2 * (qn + sn) + 12)
  have hm3 := @y_mx.l cs (2 * (sn + 0) + 12)
  refine x_cutG (pc1 := 38) (rest1 := []) (k1 := 0) (n1 := 0) (fun H locs ls => ∃ v1 : Int64, va_P (dC, dI) y_cl (y_W ad ar I T A O pl) H ∧ va_D Bq (y_W ad ar I T A O pl) ∧ va_S Bq s.heap H locs ∧ lv_has ls 4 [(0, .ref (ad 4)), (1, .long v1), (3, .int (Int32.ofNat 0))]) (fun H locs ls h9 => ?_) (fun tail => ?_)
  · clear hP hD hS hl
    obtain ⟨v0, hP, hD, hS, hl⟩ := h9
    refine x_while (fun n H locs ls => ∃ (v1 : Int64) (i1 : Nat), n = sn - i1 ∧ i1 ≤ sn ∧ va_P (dC, dI) y_cl (y_W ad ar I T A O pl) H ∧ va_D Bq (y_W ad ar I T A O pl) ∧ va_S Bq s.heap H locs ∧ lv_has ls 4 [(0, .ref (ad 4)), (1, .long v1), (3, .int (Int32.ofNat i1))]) (fun n ih H locs ls h9 => ?_) ⟨v0, 0, rfl, Nat.zero_le _, hP, hD, hS, lv_sub hl [0, 1, 2] rfl⟩
    clear hP hD hS hl
    obtain ⟨v1, i1, hn9, q9, hP, hD, hS, hl⟩ := h9
    refine lv_iload_n hx hb d_Machine_growTime_38 rfl (lv_at hl 2 rfl) ?_
    refine lv_aload_n hx hb d_Machine_growTime_39 rfl (lv_at hl 0 rfl) ?_
    refine k_g (C := "ChannelMachine$Machine") (F := F_Machine) (N := 11) hx hb hts i_Machine hown hK hP 4 5 (by decide) (by decide) rfl (by decide) (d := (0, 12)) rfl (hts _ k_160) (fun _ h9 => h9) (v := .ref (ad 12)) rfl d_Machine_growTime_40 ?_
    have hFc := y_free hD hS hA
    refine va_callFi (va_runF (As := []) (rest := [.int (Int32.ofNat i1)]) (hK.1 0 _ rfl).2 ⟨hx, hb, hml, hown, hts⟩ (c_L_size12 l dC dI ar N0 z ad I T A O pl G C Gs qn sn cq cs H.size (y_hs H) hmi) (va_cwF 0 hts (x_goodF k_888 k_213 k_215 k_7 k_217) rfl rfl rfl hU.1.2.2.2.2.1 (by decide +kernel) ⟨Nat.le_of_ble_eq_true rfl, Nat.le_of_ble_eq_true rfl⟩) ⟨y_blind, va_recv hK hP (ci := 0) (q0 := 12) rfl (y_W_ob (by decide) (by decide)), fun U9 hU9 hW9 => y_pre hU9 hW9 hP hD hU hZ hS hAN hN0⟩ rfl rfl hl.1 rfl (lv_room (Nat.le_of_ble_eq_true rfl)) d_Machine_growTime_43 ⟨(by show 0 + (0) ≤ (y_mx cq (2 * (qn + sn) + 12) - cq + (y_mx cs (2 * (sn + 0) + 12) - cs)) / 5 + 5; omega), (by show 0 + (0) ≤ 4 * (y_mx cq (2 * (qn + sn) + 12) - cq + (y_mx cs (2 * (sn + 0) + 12) - cs)) + 100; omega)⟩) hS (fun q _ h => hFc q h) hFc (fun r_1 u t H1 locs ht hvm hw hB hz1 hk1 hS => ?_)
    obtain ⟨I2, T2, A2, O2, pl2, q2, s2, cq2, cs2⟩ := u
    dsimp only at hw hB
    rw [ht] at hB
    obtain ⟨hP, hD1, hac2⟩ := hB
    have hD : va_D Bq (y_W ad ar I2 T2 A2 O2 pl2) := hD1.weaken (fun _ q _ h => hFc q.1 h)
    generalize H1 = H at hP hS hac2 ⊢
    refine W.widen (k := 0) (n := 0) (by omega) (by omega) ?_
    obtain ⟨h9, hw⟩ := hw
    cases h9
    obtain rfl := hw
    refine lv_icmp_ge (tgt := 78) hx hb d_Machine_growTime_48 (by decide) (fun c_3 => ?_) (fun c_3 => ?_)
    · have c_3 : sn ≤ i1 := (x_leN (a := sn) (b := i1) (by omega) (by omega)).mp c_3
      refine lv_aload_n hx hb d_Machine_growTime_78 rfl (lv_at hl 0 rfl) ?_
      refine lv_lload_n hx hb d_Machine_growTime_79 rfl (lv_at hl 1 rfl) ?_
      refine k_pt (C := "ChannelMachine$Machine") (F := F_Machine) (N := 11) hx hb hts i_Machine hown t_Machine t_Machine_ok n_Machine hK hP hD hS 4 10 (by decide) (by decide) rfl (by decide) (x := v1) rfl (hts _ k_169) (fun _ h9 => h9) rfl (by decide +kernel) d_Machine_growTime_80 (fun H locs hP hD hS => ?_)
      have hmi : y_MI z ar G C Gs I O (y_L pl) (qn, sn, cq, cs) := hmi
      refine lv_iconst (v := 0) hx hb d_Machine_growTime_83 (by decide) ?_
      refine W.eq (g2 := F0 m 84 ls [.int (Int32.ofNat 0)]) rfl ?_
      refine lv_istore_n (lv' := [(3, .int (Int32.ofNat 0)), (0, .ref (ad 4)), (1, .long v1)]) hx hb d_Machine_growTime_84 rfl hl (by decide) rfl (fun ls hl => ?_)
      refine W.widen (k := ((cq + cs) - (cq + cs)) / 5) (n := 4 * ((cq + cs) - (cq + cs))) (by omega) (by omega) ?_
      refine x_whileG (fun X => (X - (cq + cs)) / 5) (fun X => 4 * (X - (cq + cs))) (k := (cq + cs)) (fun n X H locs ls => ∃ (I1 : Nat → Int32) (T1 : Int64) (A1 : Nat → Nat → Int32) (O1 : Nat → Option Nat) (pl1 : va_W) (q1 s1 cq1 cs1 i1 : Nat), X = cq1 + cs1 ∧ n = sn - i1 ∧ i1 ≤ sn ∧ m_fr [12, 13, 14, 15] I I1 ∧ y_MI z ar G C Gs I1 O1 (y_L pl1) (q1, s1, cq1, cs1) ∧ y_bd (qn, sn, cq, cs) (q1, s1, cq1, cs1) i1 0 ∧ va_P (dC, dI) y_cl (y_W ad ar I1 T1 A1 O1 pl1) H ∧ va_D Bq (y_W ad ar I1 T1 A1 O1 pl1) ∧ va_S Bq s.heap H locs ∧ lv_has ls 4 [(0, .ref (ad 4)), (3, .int (Int32.ofNat i1))]) (fun n ih X H locs ls h9 => ?_) ⟨I, v1, A, O, pl, qn, sn, cq, cs, 0, rfl, rfl, Nat.zero_le _, m_fr.rf, hmi, y_bd.rf, hP, hD, hS, lv_sub hl [1, 0] rfl⟩
      obtain ⟨I1, T1, A1, O1, pl1, q1, s1, cq1, cs1, i1, hX, hn9, q9, hfr, hmi, hbd0, hP, hD, hS, hl⟩ := h9
      refine W.cs (cells' := (X - (cq + cs)) / 5) (slots' := 4 * (X - (cq + cs))) rfl rfl ?_
      subst hX
      have hle1 := y_LS.le hmi.2.1.2
      have hle12 := y_LS.le hmi.2.2.1.2
      have hcap1 := hmi.2.2.2.2.1
      dsimp only at hle1 hle12 hcap1
      have hb0c : q1 ≤ qn + i1 := hbd0.1
      have hb0 := (y_bd.mono hbd0 (c := sn) (d := 0) (by omega) (by omega)).lin
      dsimp only at hb0
      refine lv_iload_n hx hb d_Machine_growTime_85 rfl (lv_at hl 1 rfl) ?_
      refine lv_aload_n hx hb d_Machine_growTime_86 rfl (lv_at hl 0 rfl) ?_
      refine k_g (C := "ChannelMachine$Machine") (F := F_Machine) (N := 11) hx hb hts i_Machine hown hK hP 4 5 (by decide) (by decide) rfl (by decide) (d := (0, 12)) rfl (hts _ k_160) (fun _ h9 => h9) (v := .ref (ad 12)) rfl d_Machine_growTime_87 ?_
      have hFc := y_free hD hS hA
      refine va_callFi (va_runF (As := []) (rest := [.int (Int32.ofNat i1)]) (hK.1 0 _ rfl).2 ⟨hx, hb, hml, hown, hts⟩ (c_L_size12 l dC dI ar N0 z ad I1 T1 A1 O1 pl1 G C Gs q1 s1 cq1 cs1 H.size (y_hs H) hmi) (va_cwF 0 hts (x_goodF k_888 k_213 k_215 k_7 k_217) rfl rfl rfl hU.1.2.2.2.2.1 (by decide +kernel) ⟨Nat.le_of_ble_eq_true rfl, Nat.le_of_ble_eq_true rfl⟩) ⟨y_blind, va_recv hK hP (ci := 0) (q0 := 12) rfl (y_W_ob (by decide) (by decide)), fun U9 hU9 hW9 => y_pre hU9 hW9 hP hD hU hZ hS hAN hN0⟩ rfl rfl hl.1 rfl (lv_room (Nat.le_of_ble_eq_true rfl)) d_Machine_growTime_90 ⟨(by show (cq1 + cs1 - (cq + cs)) / 5 + (0) ≤ (y_mx cq (2 * (qn + sn) + 12) - cq + (y_mx cs (2 * (sn + 0) + 12) - cs)) / 5 + 5; omega), (by show 4 * (cq1 + cs1 - (cq + cs)) + (0) ≤ 4 * (y_mx cq (2 * (qn + sn) + 12) - cq + (y_mx cs (2 * (sn + 0) + 12) - cs)) + 100; omega)⟩) hS (fun q _ h => hFc q h) hFc (fun r_4 u t H1 locs ht hvm hw hB hz1 hk1 hS => ?_)
      obtain ⟨I5, T5, A5, O5, pl5, q5, s5, cq5, cs5⟩ := u
      dsimp only at hw hB
      rw [ht] at hB
      obtain ⟨hP, hD1, hac5⟩ := hB
      have hD : va_D Bq (y_W ad ar I5 T5 A5 O5 pl5) := hD1.weaken (fun _ q _ h => hFc q.1 h)
      generalize H1 = H at hP hS hac5 ⊢
      refine W.widen (k := (cq1 + cs1 - (cq + cs)) / 5) (n := 4 * (cq1 + cs1 - (cq + cs))) (by omega) (by omega) ?_
      obtain ⟨h9, hw⟩ := hw
      cases h9
      obtain rfl := hw
      refine lv_icmp_ge (tgt := 145) hx hb d_Machine_growTime_95 (by decide) (fun c_6 => ?_) (fun c_6 => ?_)
      · have c_6 : s1 ≤ i1 := (x_leN (a := s1) (b := i1) (by omega) (by omega)).mp c_6
        refine lv_aload_n hx hb d_Machine_growTime_145 rfl (lv_at hl 0 rfl) ?_
        refine k_g (C := "ChannelMachine$Machine") (F := F_Machine) (N := 11) hx hb hts i_Machine hown hK hP 4 5 (by decide) (by decide) rfl (by decide) (d := (0, 12)) rfl (hts _ k_160) (fun _ h9 => h9) (v := .ref (ad 12)) rfl d_Machine_growTime_146 ?_
        have hFc := y_free hD hS hA
        refine va_callFi (va_runF (As := []) (rest := []) (hK.1 0 _ rfl).2 ⟨hx, hb, hml, hown, hts⟩ (c_L_size12 l dC dI ar N0 z ad I1 T1 A1 O1 pl1 G C Gs q1 s1 cq1 cs1 H.size (y_hs H) hmi) (va_cwF 0 hts (x_goodF k_888 k_213 k_215 k_7 k_217) rfl rfl rfl hU.1.2.2.2.2.1 (by decide +kernel) ⟨Nat.le_of_ble_eq_true rfl, Nat.le_of_ble_eq_true rfl⟩) ⟨y_blind, va_recv hK hP (ci := 0) (q0 := 12) rfl (y_W_ob (by decide) (by decide)), fun U9 hU9 hW9 => y_pre hU9 hW9 hP hD hU hZ hS hAN hN0⟩ rfl rfl hl.1 rfl (lv_room (Nat.le_of_ble_eq_true rfl)) d_Machine_growTime_149 ⟨(by show (cq1 + cs1 - (cq + cs)) / 5 + (0) ≤ (y_mx cq (2 * (qn + sn) + 12) - cq + (y_mx cs (2 * (sn + 0) + 12) - cs)) / 5 + 5; omega), (by show 4 * (cq1 + cs1 - (cq + cs)) + (0) ≤ 4 * (y_mx cq (2 * (qn + sn) + 12) - cq + (y_mx cs (2 * (sn + 0) + 12) - cs)) + 100; omega)⟩) hS (fun q _ h => hFc q h) hFc (fun r_7 u t H1 locs ht hvm hw hB hz1 hk1 hS => ?_)
        obtain ⟨I8, T8, A8, O8, pl8, q8, s8, cq8, cs8⟩ := u
        dsimp only at hw hB
        rw [ht] at hB
        obtain ⟨hP, hD1, hac8⟩ := hB
        have hD : va_D Bq (y_W ad ar I8 T8 A8 O8 pl8) := hD1.weaken (fun _ q _ h => hFc q.1 h)
        generalize H1 = H at hP hS hac8 ⊢
        refine W.widen (k := (cq1 + cs1 - (cq + cs)) / 5) (n := 4 * (cq1 + cs1 - (cq + cs))) (by omega) (by omega) ?_
        obtain ⟨h9, hw⟩ := hw
        cases h9
        obtain rfl := hw
        refine lv_iconst (v := 1) hx hb d_Machine_growTime_154 (by decide) ?_
        refine lv_isub hx hb d_Machine_growTime_155 ?_
        refine lv_istore_n (lv' := [(3, .int ((Int32.ofNat s1) - 1)), (0, .ref (ad 4))]) hx hb d_Machine_growTime_156 rfl hl (by decide) rfl (fun ls hl => ?_)
        refine x_while (fun n H locs ls => ∃ (I2 : Nat → Int32) (pl2 : va_W) (s2 k1 : Nat), n = k1 ∧ k1 ≤ s2 ∧ s2 ≤ s1 ∧ m_fr [12, 13, 14, 15] I I2 ∧ y_MI z ar G C Gs I2 O1 (y_L pl2) (q1, s2, cq1, cs1) ∧ va_P (dC, dI) y_cl (y_W ad ar I2 T1 A1 O1 pl2) H ∧ va_D Bq (y_W ad ar I2 T1 A1 O1 pl2) ∧ va_S Bq s.heap H locs ∧ lv_has ls 4 [(0, .ref (ad 4)), (3, .int (Int32.ofNat k1 - 1))]) (fun n ih H locs ls h9 => ?_) ⟨I1, pl1, s1, s1, rfl, Nat.le_refl _, Nat.le_refl _, hfr, hmi, hP, hD, hS, lv_sub hl [1, 0] rfl⟩
        clear hP hD hS hl hmi hfr
        obtain ⟨I2, pl2, s2, k1, hn9, hk1, hs2, hfr, hmi, hP, hD, hS, hl⟩ := h9
        rcases k1 with _ | k
        · have e9 : Int32.ofNat 0 - 1 = -1 := by decide
          rw [e9] at hl
          refine lv_iload_n hx hb d_Machine_growTime_157 rfl (lv_at hl 1 rfl) ?_
          refine lv_if_lt (tgt := 202) hx hb d_Machine_growTime_158 (by decide) (fun _ => ?_) (fun c9 => absurd (by decide) c9)
          have hbt : y_bd (qn, sn, cq, cs) (q1, s1, cq1, cs1) sn 0 := y_bd.mono hbd0 (by omega) (by omega)
          have hbd9 : y_bd (qn, sn, cq, cs) (q1, s2, cq1, cs1) sn 0 := ⟨hbt.1, Nat.le_trans hs2 hbt.2.1, hbt.2.2.1, hbt.2.2.2⟩
          refine y_know (fun hy91 hy92 hy93 hy94 => ?_)
          have hac9 : y_ac (cq + cs) s.heap.size (y_hs s.heap) (cq1 + cs1) H := ⟨by omega, by omega⟩
          refine W.widen (k := (y_mx cq (2 * (qn + sn) + 12) - cq + (y_mx cs (2 * (sn + 0) + 12) - cs)) / 5 + 5) (n := 4 * (y_mx cq (2 * (qn + sn) + 12) - cq + (y_mx cs (2 * (sn + 0) + 12) - cs)) + 100) (by omega) (by omega) ?_
          exact W.vret hx hb hr (fun t ht hW => ⟨⟨(I2, T1, A1, O1, pl2, (q1, s2, cq1, cs1)), rfl, ⟨hmi, hbd9, hfr⟩, (by dsimp only; rw [ht]; exact ⟨hP, hD, hac9⟩)⟩, hS.F ht⟩) hS.2.2 d_Machine_growTime_202
        · have e9 : Int32.ofNat (k + 1) - 1 = Int32.ofNat k := x_subN (a := k + 1) (b := 1) (by omega)
          rw [e9] at hl
          refine lv_iload_n hx hb d_Machine_growTime_157 rfl (lv_at hl 1 rfl) ?_
          refine lv_if_lt (tgt := 202) hx hb d_Machine_growTime_158 (by decide) (fun c_10 => ?_) (fun c_10 => ?_)
          · have c_10 : k < 0 := (x_ltN (a := k) (b := 0) (by omega) (by omega)).mp c_10
            exfalso; omega
          · have c_10 : ¬ k < 0 := fun h9 => c_10 ((x_ltN (a := k) (b := 0) (by omega) (by omega)).mpr h9)
            refine lv_aload_n hx hb d_Machine_growTime_161 rfl (lv_at hl 0 rfl) ?_
            refine k_g (C := "ChannelMachine$Machine") (F := F_Machine) (N := 11) hx hb hts i_Machine hown hK hP 4 5 (by decide) (by decide) rfl (by decide) (d := (0, 12)) rfl (hts _ k_160) (fun _ h9 => h9) (v := .ref (ad 12)) rfl d_Machine_growTime_162 ?_
            refine lv_iload_n hx hb d_Machine_growTime_165 rfl (lv_at hl 1 rfl) ?_
            have hFc := y_free hD hS hA
            refine va_callFq (va_runF (As := [.int (Int32.ofNat k)]) (rest := []) (hK.1 0 _ rfl).2 ⟨hx, hb, hml, hown, hts⟩ (c_L_get12 l dC dI ar N0 z ad I2 T1 A1 O1 pl2 G C Gs q1 s2 cq1 cs1 k H.size (y_hs H) hmi (by omega)) (va_cwF 1 hts (x_goodF k_736 k_739 k_741 k_7 k_743) rfl rfl rfl hU.2.2.2.2.2.2.1 (by decide +kernel) ⟨Nat.le_of_ble_eq_true rfl, Nat.le_of_ble_eq_true rfl⟩) ⟨y_blind, va_recv hK hP (ci := 0) (q0 := 12) rfl (y_W_ob (by decide) (by decide)), fun U9 hU9 hW9 => y_pre hU9 hW9 hP hD hU hZ hS hAN hN0⟩ rfl rfl hl.1 rfl (lv_room (Nat.le_of_ble_eq_true rfl)) d_Machine_growTime_166 ⟨(by show (cq1 + cs1 - (cq + cs)) / 5 + (0) ≤ (y_mx cq (2 * (qn + sn) + 12) - cq + (y_mx cs (2 * (sn + 0) + 12) - cs)) / 5 + 5; omega), (by show 4 * (cq1 + cs1 - (cq + cs)) + (0) ≤ 4 * (y_mx cq (2 * (qn + sn) + 12) - cq + (y_mx cs (2 * (sn + 0) + 12) - cs)) + 100; omega)⟩) hS (fun q _ h => hFc q h) hFc (fun r_11 u t H1 locs ht hvm hw hB hz1 hk1 hS => ?_)
            obtain ⟨I12, T12, A12, O12, pl12, q12, s12, cq12, cs12⟩ := u
            dsimp only at hw hB
            rw [ht] at hB
            obtain ⟨hP, hD1, hac12⟩ := hB
            have hD : va_D Bq (y_W ad ar I12 T12 A12 O12 pl12) := hD1.weaken (fun _ q _ h => hFc q.1 h)
            generalize H1 = H at hP hS hac12 ⊢
            refine W.widen (k := (cq1 + cs1 - (cq + cs)) / 5) (n := 4 * (cq1 + cs1 - (cq + cs))) (by omega) (by omega) ?_
            obtain ⟨h9, hw⟩ := hw
            cases h9
            obtain ⟨t_13, rfl, ht_13⟩ := hw
            refine W.eq (g2 := F0 m 171 ls [.ref t_13]) rfl ?_
            obtain ⟨w14, m14, a14, b14, r14, v14, u14, hf14, hw14, hm14, ha14⟩ := hmi.1.2.1 t_13 ht_13
            refine va_castY hx hb (C := "ChannelMachine$Task") hown (hts _ k_754) (hU.1.2.1 _ kn_1292) ((by obtain ⟨q9, hq9⟩ := y_L_at hf14; exact va_recv hK hP (ci := 8) (q0 := 20 + q9) rfl (by rw [y_W_pl]; exact hq9))) d_Machine_growTime_171 ?_
            refine d_gN (C := "ChannelMachine$Task") (F := F_Task) (N := 7) hx hb hts i_Task hown hK hP hf14 6 rfl (by decide) (hU.1.2.1 _ kn_461) (fun _ h9 => h9) (v := .long u14) rfl d_Machine_growTime_174 ?_
            refine lv_aload_n hx hb d_Machine_growTime_177 rfl (lv_at hl 0 rfl) ?_
            refine k_g (C := "ChannelMachine$Machine") (F := F_Machine) (N := 11) hx hb hts i_Machine hown hK hP 4 10 (by decide) (by decide) rfl (by decide) (d := (2, 0)) rfl (hts _ k_169) (fun _ h9 => h9) (v := .long T1) rfl d_Machine_growTime_178 ?_
            refine x_lcmp hx hb d_Machine_growTime_181 (fun v15 hv15 => ?_)
            refine lv_if_ne (tgt := 196) hx hb d_Machine_growTime_182 (by decide) (fun c16 => ?_) (fun c16 => ?_)
            · refine lv_iinc (v := (Int32.ofNat k - 1)) (lv' := [(3, .int (Int32.ofNat k - 1)), (0, .ref (ad 4))]) hx hb d_Machine_growTime_196 hl (k := 1) rfl y_dec1 (by decide) rfl (fun ls hl => ?_)
              refine lv_goto (tgt := 157) hx hb d_Machine_growTime_199 (by decide) ?_
              exact ih k (by omega) _ _ ls ⟨I2, pl2, s2, k, rfl, by omega, by omega, hfr, hmi, hP, hD, hS, lv_sub hl [1, 0] rfl⟩
            · refine lv_aload_n hx hb d_Machine_growTime_185 rfl (lv_at hl 0 rfl) ?_
              refine k_g (C := "ChannelMachine$Machine") (F := F_Machine) (N := 11) hx hb hts i_Machine hown hK hP 4 5 (by decide) (by decide) rfl (by decide) (d := (0, 12)) rfl (hts _ k_160) (fun _ h9 => h9) (v := .ref (ad 12)) rfl d_Machine_growTime_186 ?_
              refine lv_iload_n hx hb d_Machine_growTime_189 rfl (lv_at hl 1 rfl) ?_
              have hFc := y_free hD hS hA
              refine va_callFq (va_runF (As := [.int (Int32.ofNat k)]) (rest := []) (hK.1 0 _ rfl).2 ⟨hx, hb, hml, hown, hts⟩ (c_L_rem_12 l dC dI ar N0 z ad I2 T1 A1 O1 pl2 G C Gs q1 s2 cq1 cs1 k H.size (y_hs H) hmi (by omega)) (va_cwF 1 hts (x_goodF k_756 k_759 k_761 k_7 k_763) rfl rfl rfl hU.2.2.2.2.2.2.2.1 (by decide +kernel) ⟨Nat.le_of_ble_eq_true rfl, Nat.le_of_ble_eq_true rfl⟩) ⟨y_blind, va_recv hK hP (ci := 0) (q0 := 12) rfl (y_W_ob (by decide) (by decide)), fun U9 hU9 hW9 => y_pre hU9 hW9 hP hD hU hZ hS hAN hN0⟩ rfl rfl hl.1 rfl (lv_room (Nat.le_of_ble_eq_true rfl)) d_Machine_growTime_190 ⟨(by show (cq1 + cs1 - (cq + cs)) / 5 + (0) ≤ (y_mx cq (2 * (qn + sn) + 12) - cq + (y_mx cs (2 * (sn + 0) + 12) - cs)) / 5 + 5; omega), (by show 4 * (cq1 + cs1 - (cq + cs)) + (0) ≤ 4 * (y_mx cq (2 * (qn + sn) + 12) - cq + (y_mx cs (2 * (sn + 0) + 12) - cs)) + 100; omega)⟩) hS (fun q _ h => hFc q h) hFc (fun r_17 u t H1 locs ht hvm hw hB hz1 hk1 hS => ?_)
              obtain ⟨I18, T18, A18, O18, pl18, q18, s18, cq18, cs18⟩ := u
              dsimp only at hw hB
              rw [ht] at hB
              obtain ⟨hP, hD1, hac18⟩ := hB
              have hD : va_D Bq (y_W ad ar I18 T18 A18 O18 pl18) := hD1.weaken (fun _ q _ h => hFc q.1 h)
              generalize H1 = H at hP hS hac18 ⊢
              refine W.widen (k := (cq1 + cs1 - (cq + cs)) / 5) (n := 4 * (cq1 + cs1 - (cq + cs))) (by omega) (by omega) ?_
              obtain ⟨hr, hmi, e5, fr18, e2, e3, e4⟩ := hw
              cases e5
              rw [e2, e3, e4] at hP hD
              rw [e4] at hmi
              have hP : va_P (dC, dI) y_cl (y_W ad ar I18 T1 A1 O1 pl18) H := hP
              have hD : va_D Bq (y_W ad ar I18 T1 A1 O1 pl18) := hD
              have hmi : y_MI z ar G C Gs I18 O1 (y_L pl18) (q1, s2 - 1, cq1, cs1) := hmi
              have hbdr18 : y_bd (q1, s2, cq1, cs1) (q1, s2 - 1, cq1, cs1) 0 0 := ⟨by dsimp only; omega, by dsimp only; omega, Or.inl rfl, Or.inl rfl⟩
              obtain ⟨t_19, rfl, ht_19⟩ := hr
              refine W.eq (g2 := F0 m 195 ls [.ref t_19]) rfl ?_
              refine lv_pop hx hb d_Machine_growTime_195 rfl ?_
              refine lv_iinc (v := (Int32.ofNat k - 1)) (lv' := [(3, .int (Int32.ofNat k - 1)), (0, .ref (ad 4))]) hx hb d_Machine_growTime_196 hl (k := 1) rfl y_dec1 (by decide) rfl (fun ls hl => ?_)
              refine lv_goto (tgt := 157) hx hb d_Machine_growTime_199 (by decide) ?_
              exact ih k (by omega) _ _ ls ⟨I18, pl18, s2 - 1, k, rfl, by omega, by omega, (hfr.tr fr18 (by decide)), hmi, hP, hD, hS, lv_sub hl [1, 0] rfl⟩
      · have c_6 : ¬ s1 ≤ i1 := fun h9 => c_6 ((x_leN (a := s1) (b := i1) (by omega) (by omega)).mpr h9)
        refine lv_aload_n hx hb d_Machine_growTime_98 rfl (lv_at hl 0 rfl) ?_
        refine k_g (C := "ChannelMachine$Machine") (F := F_Machine) (N := 11) hx hb hts i_Machine hown hK hP 4 5 (by decide) (by decide) rfl (by decide) (d := (0, 12)) rfl (hts _ k_160) (fun _ h9 => h9) (v := .ref (ad 12)) rfl d_Machine_growTime_99 ?_
        refine lv_iload_n hx hb d_Machine_growTime_102 rfl (lv_at hl 1 rfl) ?_
        have hFc := y_free hD hS hA
        refine va_callFq (va_runF (As := [.int (Int32.ofNat i1)]) (rest := []) (hK.1 0 _ rfl).2 ⟨hx, hb, hml, hown, hts⟩ (c_L_get12 l dC dI ar N0 z ad I1 T1 A1 O1 pl1 G C Gs q1 s1 cq1 cs1 i1 H.size (y_hs H) hmi (by omega)) (va_cwF 1 hts (x_goodF k_736 k_739 k_741 k_7 k_743) rfl rfl rfl hU.2.2.2.2.2.2.1 (by decide +kernel) ⟨Nat.le_of_ble_eq_true rfl, Nat.le_of_ble_eq_true rfl⟩) ⟨y_blind, va_recv hK hP (ci := 0) (q0 := 12) rfl (y_W_ob (by decide) (by decide)), fun U9 hU9 hW9 => y_pre hU9 hW9 hP hD hU hZ hS hAN hN0⟩ rfl rfl hl.1 rfl (lv_room (Nat.le_of_ble_eq_true rfl)) d_Machine_growTime_103 ⟨(by show (cq1 + cs1 - (cq + cs)) / 5 + (0) ≤ (y_mx cq (2 * (qn + sn) + 12) - cq + (y_mx cs (2 * (sn + 0) + 12) - cs)) / 5 + 5; omega), (by show 4 * (cq1 + cs1 - (cq + cs)) + (0) ≤ 4 * (y_mx cq (2 * (qn + sn) + 12) - cq + (y_mx cs (2 * (sn + 0) + 12) - cs)) + 100; omega)⟩) hS (fun q _ h => hFc q h) hFc (fun r_20 u t H1 locs ht hvm hw hB hz1 hk1 hS => ?_)
        obtain ⟨I21, T21, A21, O21, pl21, q21, s21, cq21, cs21⟩ := u
        dsimp only at hw hB
        rw [ht] at hB
        obtain ⟨hP, hD1, hac21⟩ := hB
        have hD : va_D Bq (y_W ad ar I21 T21 A21 O21 pl21) := hD1.weaken (fun _ q _ h => hFc q.1 h)
        generalize H1 = H at hP hS hac21 ⊢
        refine W.widen (k := (cq1 + cs1 - (cq + cs)) / 5) (n := 4 * (cq1 + cs1 - (cq + cs))) (by omega) (by omega) ?_
        obtain ⟨h9, hw⟩ := hw
        cases h9
        obtain ⟨t_22, rfl, ht_22⟩ := hw
        refine W.eq (g2 := F0 m 108 ls [.ref t_22]) rfl ?_
        obtain ⟨w23, m23, a23, b23, r23, v23, u23, hf23, hw23, hm23, ha23⟩ := hmi.1.2.1 t_22 ht_22
        refine va_castY hx hb (C := "ChannelMachine$Task") hown (hts _ k_754) (hU.1.2.1 _ kn_1292) ((by obtain ⟨q9, hq9⟩ := y_L_at hf23; exact va_recv hK hP (ci := 8) (q0 := 20 + q9) rfl (by rw [y_W_pl]; exact hq9))) d_Machine_growTime_108 ?_
        refine d_gN (C := "ChannelMachine$Task") (F := F_Task) (N := 7) hx hb hts i_Task hown hK hP hf23 6 rfl (by decide) (hU.1.2.1 _ kn_461) (fun _ h9 => h9) (v := .long u23) rfl d_Machine_growTime_111 ?_
        refine lv_aload_n hx hb d_Machine_growTime_114 rfl (lv_at hl 0 rfl) ?_
        refine k_g (C := "ChannelMachine$Machine") (F := F_Machine) (N := 11) hx hb hts i_Machine hown hK hP 4 10 (by decide) (by decide) rfl (by decide) (d := (2, 0)) rfl (hts _ k_169) (fun _ h9 => h9) (v := .long T1) rfl d_Machine_growTime_115 ?_
        refine x_lcmp hx hb d_Machine_growTime_118 (fun v24 hv24 => ?_)
        refine lv_if_ne (tgt := 139) hx hb d_Machine_growTime_119 (by decide) (fun c25 => ?_) (fun c25 => ?_)
        · refine lv_iinc (v := (Int32.ofNat (i1 + 1))) (lv' := [(3, .int (Int32.ofNat (i1 + 1))), (0, .ref (ad 4))]) hx hb d_Machine_growTime_139 hl (k := 1) rfl (x_incN i1) (by decide) rfl (fun ls hl => ?_)
          refine lv_goto (tgt := 85) hx hb d_Machine_growTime_142 (by decide) ?_
          refine W.widen (k := (cq1 + cs1 - (cq + cs)) / 5) (n := 4 * (cq1 + cs1 - (cq + cs))) (by omega) (by omega) ?_
          exact ih (sn - (i1 + 1)) (by omega) (cq1 + cs1) H locs ls ⟨I1, T1, A1, O1, pl1, q1, s1, cq1, cs1, i1 + 1, rfl, rfl, by omega, hfr, hmi, (y_bd.mono hbd0 (c := i1 + 1) (d := 0) (by omega) (by omega)), hP, hD, hS, lv_sub hl [1, 0] rfl⟩
        · refine lv_aload_n hx hb d_Machine_growTime_122 rfl (lv_at hl 0 rfl) ?_
          refine lv_aload_n hx hb d_Machine_growTime_123 rfl (lv_at hl 0 rfl) ?_
          refine k_g (C := "ChannelMachine$Machine") (F := F_Machine) (N := 11) hx hb hts i_Machine hown hK hP 4 5 (by decide) (by decide) rfl (by decide) (d := (0, 12)) rfl (hts _ k_160) (fun _ h9 => h9) (v := .ref (ad 12)) rfl d_Machine_growTime_124 ?_
          refine lv_iload_n hx hb d_Machine_growTime_127 rfl (lv_at hl 1 rfl) ?_
          have hFc := y_free hD hS hA
          refine va_callFq (va_runF (As := [.int (Int32.ofNat i1)]) (rest := [.ref (ad 4)]) (hK.1 0 _ rfl).2 ⟨hx, hb, hml, hown, hts⟩ (c_L_get12 l dC dI ar N0 z ad I1 T1 A1 O1 pl1 G C Gs q1 s1 cq1 cs1 i1 H.size (y_hs H) hmi (by omega)) (va_cwF 1 hts (x_goodF k_736 k_739 k_741 k_7 k_743) rfl rfl rfl hU.2.2.2.2.2.2.1 (by decide +kernel) ⟨Nat.le_of_ble_eq_true rfl, Nat.le_of_ble_eq_true rfl⟩) ⟨y_blind, va_recv hK hP (ci := 0) (q0 := 12) rfl (y_W_ob (by decide) (by decide)), fun U9 hU9 hW9 => y_pre hU9 hW9 hP hD hU hZ hS hAN hN0⟩ rfl rfl hl.1 rfl (lv_room (Nat.le_of_ble_eq_true rfl)) d_Machine_growTime_128 ⟨(by show (cq1 + cs1 - (cq + cs)) / 5 + (0) ≤ (y_mx cq (2 * (qn + sn) + 12) - cq + (y_mx cs (2 * (sn + 0) + 12) - cs)) / 5 + 5; omega), (by show 4 * (cq1 + cs1 - (cq + cs)) + (0) ≤ 4 * (y_mx cq (2 * (qn + sn) + 12) - cq + (y_mx cs (2 * (sn + 0) + 12) - cs)) + 100; omega)⟩) hS (fun q _ h => hFc q h) hFc (fun r_26 u t H1 locs ht hvm hw hB hz1 hk1 hS => ?_)
          obtain ⟨I27, T27, A27, O27, pl27, q27, s27, cq27, cs27⟩ := u
          dsimp only at hw hB
          rw [ht] at hB
          obtain ⟨hP, hD1, hac27⟩ := hB
          have hD : va_D Bq (y_W ad ar I27 T27 A27 O27 pl27) := hD1.weaken (fun _ q _ h => hFc q.1 h)
          generalize H1 = H at hP hS hac27 ⊢
          refine W.widen (k := (cq1 + cs1 - (cq + cs)) / 5) (n := 4 * (cq1 + cs1 - (cq + cs))) (by omega) (by omega) ?_
          obtain ⟨h9, hw⟩ := hw
          cases h9
          obtain ⟨t_28, rfl, ht_28⟩ := hw
          refine W.eq (g2 := F0 m 133 ls [.ref t_28, .ref (ad 4)]) rfl ?_
          obtain ⟨w29, m29, a29, b29, r29, v29, u29, hf29, hw29, hm29, ha29⟩ := hmi.1.2.1 t_28 ht_28
          refine va_castY hx hb (C := "ChannelMachine$Task") hown (hts _ k_754) (hU.1.2.1 _ kn_1292) ((by obtain ⟨q9, hq9⟩ := y_L_at hf29; exact va_recv hK hP (ci := 8) (q0 := 20 + q9) rfl (by rw [y_W_pl]; exact hq9))) d_Machine_growTime_133 ?_
          have hrm := y_rm (Mq := y_mx cq (2 * (qn + sn) + 12)) (Ms := y_mx cs (2 * (sn + 0) + 12)) (q1 := q1) (cq1 := cq1) (cs1 := cs1) (cq := cq) (cs := cs) hb0.2.2.2.2.1 hb0.2.2.2.2.2 hb0.2.2.1 hb0.2.2.2.1 (by omega) hle1
          have hgg30 := y_gg q1 cq1
          refine y_know (fun hya1 hya2 hya3 hya4 => ?_)
          have hFc := y_free hD hS hA
          refine va_callv (va_runV (As := [.ref t_28]) (rest := []) ⟨hx, hb, hml, hown, hts⟩ (c_M_resume l dC dI ar N0 z ad I1 T1 A1 O1 pl1 G C Gs q1 s1 cq1 cs1 t_28 H.size (y_hs H) hmi ht_28 (by omega)) (cwV 1 hts (x_goodV k_773 k_775 kp_28 k_3 k_776) rfl rfl rfl (by decide +kernel) ⟨Nat.le_of_ble_eq_true rfl, Nat.le_of_ble_eq_true rfl⟩) ⟨y_blind, va_recv hK hP (ci := 2) (q0 := 4) rfl (y_W_ob (by decide) (by decide)), fun U9 hU9 hW9 => y_pre hU9 hW9 hP hD hU hZ hS hAN hN0⟩ rfl rfl hl.1 rfl (lv_room (Nat.le_of_ble_eq_true rfl)) d_Machine_growTime_136 ⟨hrm.1, hrm.2⟩) hS (fun q _ h => hFc q h) hFc (fun u t H1 locs ht hvm hw hB hz1 hk1 hS => ?_)
          obtain ⟨I31, T31, A31, O31, pl31, q31, s31, cq31, cs31⟩ := u
          dsimp only at hw hB
          rw [ht] at hB
          obtain ⟨hP, hD1, hac31⟩ := hB
          have hD : va_D Bq (y_W ad ar I31 T31 A31 O31 pl31) := hD1.weaken (fun _ q _ h => hFc q.1 h)
          generalize H1 = H at hP hS hac31 ⊢
          obtain ⟨hmi, hbd31, fr31⟩ := hw
          unfold y_ac at hac31
          try dsimp only at hac31
          have hb31 := hbd31.lin
          dsimp only at hb31
          have hbo31 : y_bd (qn, sn, cq, cs) (q31, s31, cq31, cs31) sn 0 := (y_bd.mono (y_bd.tr hbd0 hbd31 (e := i1 + 1) (g := 0 + 0) (by omega) (by omega)) (c := sn) (d := 0) (by omega) (by omega))
          have hbo31 := hbo31.lin
          dsimp only at hbo31
          refine y_tight (k := (cq31 + cs31 - (cq + cs)) / 5) (n := 4 * (cq31 + cs31 - (cq + cs))) (by omega) (by omega) ?_
          refine lv_iinc (v := (Int32.ofNat (i1 + 1))) (lv' := [(3, .int (Int32.ofNat (i1 + 1))), (0, .ref (ad 4))]) hx hb d_Machine_growTime_139 hl (k := 1) rfl (x_incN i1) (by decide) rfl (fun ls hl => ?_)
          refine lv_goto (tgt := 85) hx hb d_Machine_growTime_142 (by decide) ?_
          refine W.widen (k := (cq31 + cs31 - (cq + cs)) / 5) (n := 4 * (cq31 + cs31 - (cq + cs))) (by omega) (by omega) ?_
          exact ih (sn - (i1 + 1)) (by omega) (cq31 + cs31) H locs ls ⟨I31, T31, A31, O31, pl31, q31, s31, cq31, cs31, i1 + 1, rfl, rfl, by omega, (hfr.tr fr31 (by decide)), hmi, (y_bd.mono (y_bd.tr hbd0 hbd31 (e := i1 + 1) (g := 0 + 0) (by omega) (by omega)) (c := i1 + 1) (d := 0) (by omega) (by omega)), hP, hD, hS, lv_sub hl [1, 0] rfl⟩
    · have c_3 : ¬ sn ≤ i1 := fun h9 => c_3 ((x_leN (a := sn) (b := i1) (by omega) (by omega)).mpr h9)
      refine lv_lload_n hx hb d_Machine_growTime_51 rfl (lv_at hl 1 rfl) ?_
      refine lv_aload_n hx hb d_Machine_growTime_52 rfl (lv_at hl 0 rfl) ?_
      refine k_g (C := "ChannelMachine$Machine") (F := F_Machine) (N := 11) hx hb hts i_Machine hown hK hP 4 5 (by decide) (by decide) rfl (by decide) (d := (0, 12)) rfl (hts _ k_160) (fun _ h9 => h9) (v := .ref (ad 12)) rfl d_Machine_growTime_53 ?_
      refine lv_iload_n hx hb d_Machine_growTime_56 rfl (lv_at hl 2 rfl) ?_
      have hFc := y_free hD hS hA
      refine va_callFq (va_runF (As := [.int (Int32.ofNat i1)]) (rest := [.long v1]) (hK.1 0 _ rfl).2 ⟨hx, hb, hml, hown, hts⟩ (c_L_get12 l dC dI ar N0 z ad I T A O pl G C Gs qn sn cq cs i1 H.size (y_hs H) hmi (by omega)) (va_cwF 1 hts (x_goodF k_736 k_739 k_741 k_7 k_743) rfl rfl rfl hU.2.2.2.2.2.2.1 (by decide +kernel) ⟨Nat.le_of_ble_eq_true rfl, Nat.le_of_ble_eq_true rfl⟩) ⟨y_blind, va_recv hK hP (ci := 0) (q0 := 12) rfl (y_W_ob (by decide) (by decide)), fun U9 hU9 hW9 => y_pre hU9 hW9 hP hD hU hZ hS hAN hN0⟩ rfl rfl hl.1 rfl (lv_room (Nat.le_of_ble_eq_true rfl)) d_Machine_growTime_57 ⟨(by show 0 + (0) ≤ (y_mx cq (2 * (qn + sn) + 12) - cq + (y_mx cs (2 * (sn + 0) + 12) - cs)) / 5 + 5; omega), (by show 0 + (0) ≤ 4 * (y_mx cq (2 * (qn + sn) + 12) - cq + (y_mx cs (2 * (sn + 0) + 12) - cs)) + 100; omega)⟩) hS (fun q _ h => hFc q h) hFc (fun r_32 u t H1 locs ht hvm hw hB hz1 hk1 hS => ?_)
      obtain ⟨I33, T33, A33, O33, pl33, q33, s33, cq33, cs33⟩ := u
      dsimp only at hw hB
      rw [ht] at hB
      obtain ⟨hP, hD1, hac33⟩ := hB
      have hD : va_D Bq (y_W ad ar I33 T33 A33 O33 pl33) := hD1.weaken (fun _ q _ h => hFc q.1 h)
      generalize H1 = H at hP hS hac33 ⊢
      refine W.widen (k := 0) (n := 0) (by omega) (by omega) ?_
      obtain ⟨h9, hw⟩ := hw
      cases h9
      obtain ⟨t_34, rfl, ht_34⟩ := hw
      refine W.eq (g2 := F0 m 62 ls [.ref t_34, .long v1]) rfl ?_
      obtain ⟨w35, m35, a35, b35, r35, v35, u35, hf35, hw35, hm35, ha35⟩ := hmi.1.2.1 t_34 ht_34
      refine va_castY hx hb (C := "ChannelMachine$Task") hown (hts _ k_754) (hU.1.2.1 _ kn_1292) ((by obtain ⟨q9, hq9⟩ := y_L_at hf35; exact va_recv hK hP (ci := 8) (q0 := 20 + q9) rfl (by rw [y_W_pl]; exact hq9))) d_Machine_growTime_62 ?_
      refine d_gN (C := "ChannelMachine$Task") (F := F_Task) (N := 7) hx hb hts i_Task hown hK hP hf35 6 rfl (by decide) (hU.1.2.1 _ kn_461) (fun _ h9 => h9) (v := .long u35) rfl d_Machine_growTime_65 ?_
      refine va_mmin_long hx hb (by rw [hml]; exact hl.1.symm) hown (hts _ k_889) (hts _ k_890) (hts _ k_19) (hts _ k_891) (Nat.le_of_ble_eq_true rfl) (Nat.le_of_ble_eq_true rfl) (by show 0 ≤ (y_mx cq (2 * (qn + sn) + 12) - cq + (y_mx cs (2 * (sn + 0) + 12) - cs)) / 5 + 5; omega) (by show 0 ≤ 4 * (y_mx cq (2 * (qn + sn) + 12) - cq + (y_mx cs (2 * (sn + 0) + 12) - cs)) + 100; omega) d_Machine_growTime_68 ?_
      refine lv_lstore_n (lv' := [(1, .long (if u35 < v1 then u35 else v1)), (0, .ref (ad 4)), (3, .int (Int32.ofNat i1))]) hx hb d_Machine_growTime_71 rfl hl (by decide) rfl (fun ls hl => ?_)
      refine lv_iinc (v := (Int32.ofNat (i1 + 1))) (lv' := [(3, .int (Int32.ofNat (i1 + 1))), (1, .long (if u35 < v1 then u35 else v1)), (0, .ref (ad 4))]) hx hb d_Machine_growTime_72 hl (k := 2) rfl (x_incN i1) (by decide) rfl (fun ls hl => ?_)
      refine lv_goto (tgt := 38) hx hb d_Machine_growTime_75 (by decide) ?_
      exact ih (sn - (i1 + 1)) (by omega) _ _ ls ⟨(if u35 < v1 then u35 else v1), i1 + 1, rfl, by omega, hP, hD, hS, lv_sub hl [2, 1, 0] rfl⟩
  · refine lv_aload_n hx hb d_Machine_growTime_0 rfl (lv_at hl 0 rfl) ?_
    refine k_g (C := "ChannelMachine$Machine") (F := F_Machine) (N := 11) hx hb hts i_Machine hown hK hP 4 5 (by decide) (by decide) rfl (by decide) (d := (0, 12)) rfl (hts _ k_160) (fun _ h9 => h9) (v := .ref (ad 12)) rfl d_Machine_growTime_1 ?_
    have hFc := y_free hD hS hA
    refine va_callFi (va_runF (As := []) (rest := []) (hK.1 0 _ rfl).2 ⟨hx, hb, hml, hown, hts⟩ (c_L_isEmpty12 l dC dI ar N0 z ad I T A O pl G C Gs qn sn cq cs s.heap.size (y_hs s.heap) hmi) (va_cwF 0 hts (x_goodF k_727 k_730 k_732 k_7 k_734) rfl rfl rfl hU.2.2.2.2.2.1 (by decide +kernel) ⟨Nat.le_of_ble_eq_true rfl, Nat.le_of_ble_eq_true rfl⟩) ⟨y_blind, va_recv hK hP (ci := 0) (q0 := 12) rfl (y_W_ob (by decide) (by decide)), fun U9 hU9 hW9 => y_pre hU9 hW9 hP hD hU hZ hS hAN hN0⟩ rfl rfl hl.1 rfl (lv_room (Nat.le_of_ble_eq_true rfl)) d_Machine_growTime_4 ⟨(by show 0 + (0) ≤ (y_mx cq (2 * (qn + sn) + 12) - cq + (y_mx cs (2 * (sn + 0) + 12) - cs)) / 5 + 5; omega), (by show 0 + (0) ≤ 4 * (y_mx cq (2 * (qn + sn) + 12) - cq + (y_mx cs (2 * (sn + 0) + 12) - cs)) + 100; omega)⟩) hS (fun q _ h => hFc q h) hFc (fun r_36 u t H1 locs ht hvm hw hB hz1 hk1 hS => ?_)
    obtain ⟨I37, T37, A37, O37, pl37, q37, s37, cq37, cs37⟩ := u
    dsimp only at hw hB
    rw [ht] at hB
    obtain ⟨hP, hD1, hac37⟩ := hB
    have hD : va_D Bq (y_W ad ar I37 T37 A37 O37 pl37) := hD1.weaken (fun _ q _ h => hFc q.1 h)
    generalize H1 = H at hP hS hac37 ⊢
    refine W.widen (k := 0) (n := 0) (by omega) (by omega) ?_
    obtain ⟨h9, hw⟩ := hw
    cases h9
    rcases hw with ⟨rfl, hemp⟩ | ⟨rfl, hemp⟩
    · refine lv_if_eq (tgt := 19) hx hb d_Machine_growTime_9 (by decide) (fun c38 => absurd c38 (by decide)) (fun _ => ?_)
      refine lv_aload_n hx hb d_Machine_growTime_12 rfl (lv_at hl 0 rfl) ?_
      refine k_g (C := "ChannelMachine$Machine") (F := F_Machine) (N := 11) hx hb hts i_Machine hown hK hP 4 10 (by decide) (by decide) rfl (by decide) (d := (2, 0)) rfl (hts _ k_169) (fun _ h9 => h9) (v := .long T) rfl d_Machine_growTime_13 ?_
      refine lv_goto (tgt := 35) hx hb d_Machine_growTime_16 (by decide) ?_
      refine lv_lstore_n (lv' := [(1, .long T), (0, .ref (ad 4))]) hx hb d_Machine_growTime_35 rfl hl (by decide) rfl (fun ls hl => ?_)
      refine lv_iconst (v := 0) hx hb d_Machine_growTime_36 (by decide) ?_
      refine W.eq (g2 := F0 m 37 ls [.int (Int32.ofNat 0)]) rfl ?_
      refine lv_istore_n (lv' := [(3, .int (Int32.ofNat 0)), (1, .long T), (0, .ref (ad 4))]) hx hb d_Machine_growTime_37 rfl hl (by decide) rfl (fun ls hl => ?_)
      exact tail _ _ ls ⟨T, hP, hD, hS, lv_sub hl [2, 1, 0] rfl⟩
    · refine lv_if_eq (tgt := 19) hx hb d_Machine_growTime_9 (by decide) (fun _ => ?_) (fun c39 => absurd (by decide) c39)
      refine lv_aload_n hx hb d_Machine_growTime_19 rfl (lv_at hl 0 rfl) ?_
      refine k_g (C := "ChannelMachine$Machine") (F := F_Machine) (N := 11) hx hb hts i_Machine hown hK hP 4 5 (by decide) (by decide) rfl (by decide) (d := (0, 12)) rfl (hts _ k_160) (fun _ h9 => h9) (v := .ref (ad 12)) rfl d_Machine_growTime_20 ?_
      refine lv_iconst (v := 0) hx hb d_Machine_growTime_23 (by decide) ?_
      refine W.eq (g2 := F0 m 24 ls [.int (Int32.ofNat 0), .ref (ad 12)]) rfl ?_
      have hFc := y_free hD hS hA
      refine va_callFq (va_runF (As := [.int (Int32.ofNat 0)]) (rest := []) (hK.1 0 _ rfl).2 ⟨hx, hb, hml, hown, hts⟩ (c_L_get12 l dC dI ar N0 z ad I T A O pl G C Gs qn sn cq cs 0 H.size (y_hs H) hmi (by omega)) (va_cwF 1 hts (x_goodF k_736 k_739 k_741 k_7 k_743) rfl rfl rfl hU.2.2.2.2.2.2.1 (by decide +kernel) ⟨Nat.le_of_ble_eq_true rfl, Nat.le_of_ble_eq_true rfl⟩) ⟨y_blind, va_recv hK hP (ci := 0) (q0 := 12) rfl (y_W_ob (by decide) (by decide)), fun U9 hU9 hW9 => y_pre hU9 hW9 hP hD hU hZ hS hAN hN0⟩ rfl rfl hl.1 rfl (lv_room (Nat.le_of_ble_eq_true rfl)) d_Machine_growTime_24 ⟨(by show 0 + (0) ≤ (y_mx cq (2 * (qn + sn) + 12) - cq + (y_mx cs (2 * (sn + 0) + 12) - cs)) / 5 + 5; omega), (by show 0 + (0) ≤ 4 * (y_mx cq (2 * (qn + sn) + 12) - cq + (y_mx cs (2 * (sn + 0) + 12) - cs)) + 100; omega)⟩) hS (fun q _ h => hFc q h) hFc (fun r_40 u t H1 locs ht hvm hw hB hz1 hk1 hS => ?_)
      obtain ⟨I41, T41, A41, O41, pl41, q41, s41, cq41, cs41⟩ := u
      dsimp only at hw hB
      rw [ht] at hB
      obtain ⟨hP, hD1, hac41⟩ := hB
      have hD : va_D Bq (y_W ad ar I41 T41 A41 O41 pl41) := hD1.weaken (fun _ q _ h => hFc q.1 h)
      generalize H1 = H at hP hS hac41 ⊢
      refine W.widen (k := 0) (n := 0) (by omega) (by omega) ?_
      obtain ⟨h9, hw⟩ := hw
      cases h9
      obtain ⟨t_42, rfl, ht_42⟩ := hw
      refine W.eq (g2 := F0 m 29 ls [.ref t_42]) rfl ?_
      obtain ⟨w43, m43, a43, b43, r43, v43, u43, hf43, hw43, hm43, ha43⟩ := hmi.1.2.1 t_42 ht_42
      refine va_castY hx hb (C := "ChannelMachine$Task") hown (hts _ k_754) (hU.1.2.1 _ kn_1292) ((by obtain ⟨q9, hq9⟩ := y_L_at hf43; exact va_recv hK hP (ci := 8) (q0 := 20 + q9) rfl (by rw [y_W_pl]; exact hq9))) d_Machine_growTime_29 ?_
      refine d_gN (C := "ChannelMachine$Task") (F := F_Task) (N := 7) hx hb hts i_Task hown hK hP hf43 6 rfl (by decide) (hU.1.2.1 _ kn_461) (fun _ h9 => h9) (v := .long u43) rfl d_Machine_growTime_32 ?_
      refine lv_lstore_n (lv' := [(1, .long u43), (0, .ref (ad 4))]) hx hb d_Machine_growTime_35 rfl hl (by decide) rfl (fun ls hl => ?_)
      refine lv_iconst (v := 0) hx hb d_Machine_growTime_36 (by decide) ?_
      refine W.eq (g2 := F0 m 37 ls [.int (Int32.ofNat 0)]) rfl ?_
      refine lv_istore_n (lv' := [(3, .int (Int32.ofNat 0)), (1, .long u43), (0, .ref (ad 4))]) hx hb d_Machine_growTime_37 rfl hl (by decide) rfl (fun ls hl => ?_)
      exact tail _ _ ls ⟨u43, hP, hD, hS, lv_sub hl [2, 1, 0] rfl⟩
