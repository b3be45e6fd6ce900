-- ===== 54.settle: settle of the reference, by program =====
theorem k_997 : (Jvm.Cond.fieldLink "ChannelMachineModel" (79 : Nat) "ChannelMachineModel" "current" "I") ∈ x_T := x_at 997 (by decide +kernel) (by decide +kernel)
theorem k_1210 : (Jvm.Cond.methodLink "ChannelMachineModel" (217 : Nat) ({ cls := "ChannelMachineModel", name := "shift", desc := "([II)I" } : Jvm.MethodName)) ∈ x_T := x_at 1210 (by decide +kernel) (by decide +kernel)
theorem k_1211 : (Jvm.Cond.static ({ cls := "ChannelMachineModel", name := "shift", desc := "([II)I" } : Jvm.MethodName)) ∈ x_T := x_at 1211 (by decide +kernel) (by decide +kernel)
theorem k_1212 : (Jvm.Cond.code ({ cls := "ChannelMachineModel", name := "shift", desc := "([II)I" } : Jvm.MethodName) prog_12_method_26_code (4 : Nat) (Option.some Jvm.ClassFile.FieldType.int)) ∈ x_T := x_at 1212 (by decide +kernel) (by decide +kernel)
theorem k_1213 : (Jvm.Cond.methodLink "ChannelMachineModel" (221 : Nat) ({ cls := "ChannelMachineModel", name := "finish", desc := "(I)V" } : Jvm.MethodName)) ∈ x_T := x_at 1213 (by decide +kernel) (by decide +kernel)
theorem k_1215 : (Jvm.Cond.instanceMethod ({ cls := "ChannelMachineModel", name := "finish", desc := "(I)V" } : Jvm.MethodName)) ∈ x_T := x_at 1215 (by decide +kernel) (by decide +kernel)
theorem k_1216 : (Jvm.Cond.code ({ cls := "ChannelMachineModel", name := "finish", desc := "(I)V" } : Jvm.MethodName) prog_12_method_27_code (3 : Nat) (Option.none : Option Jvm.ClassFile.FieldType)) ∈ x_T := x_at 1216 (by decide +kernel) (by decide +kernel)
theorem kp_68 : (Jvm.Cond.selects "ChannelMachineModel" ({ cls := "ChannelMachineModel", name := "finish", desc := "(I)V" } : Jvm.MethodName) ({ cls := "ChannelMachineModel", name := "finish", desc := "(I)V" } : Jvm.MethodName)) ∈ x_T := x_sel (q := (({ cls := "ChannelMachineModel", name := "finish", desc := "(I)V" } : Jvm.MethodName), 45)) 68 (by decide +kernel) (by decide +kernel)
theorem d_Mo_settle_0 : decode prog_12_method_28_code 0 = .ok (.aload_n 0, 1) := by decide +kernel
theorem d_Mo_settle_1 : decode prog_12_method_28_code 1 = .ok (.getfield 208, 3) := by decide +kernel
theorem d_Mo_settle_4 : decode prog_12_method_28_code 4 = .ok (.iconst 1, 1) := by decide +kernel
theorem d_Mo_settle_5 : decode prog_12_method_28_code 5 = .ok (.if_icmp .ne 140, 3) := by decide +kernel
theorem d_Mo_settle_8 : decode prog_12_method_28_code 8 = .ok (.aload_n 0, 1) := by decide +kernel
theorem d_Mo_settle_9 : decode prog_12_method_28_code 9 = .ok (.getfield 79, 3) := by decide +kernel
theorem d_Mo_settle_12 : decode prog_12_method_28_code 12 = .ok (.ifCond .ge 36, 3) := by decide +kernel
theorem d_Mo_settle_15 : decode prog_12_method_28_code 15 = .ok (.aload_n 0, 1) := by decide +kernel
theorem d_Mo_settle_16 : decode prog_12_method_28_code 16 = .ok (.getfield 201, 3) := by decide +kernel
theorem d_Mo_settle_19 : decode prog_12_method_28_code 19 = .ok (.ifCond .ne 4, 3) := by decide +kernel
theorem d_Mo_settle_22 : decode prog_12_method_28_code 22 = .ok (.return_, 1) := by decide +kernel
theorem d_Mo_settle_23 : decode prog_12_method_28_code 23 = .ok (.aload_n 0, 1) := by decide +kernel
theorem d_Mo_settle_24 : decode prog_12_method_28_code 24 = .ok (.aload_n 0, 1) := by decide +kernel
theorem d_Mo_settle_25 : decode prog_12_method_28_code 25 = .ok (.getfield 63, 3) := by decide +kernel
theorem d_Mo_settle_28 : decode prog_12_method_28_code 28 = .ok (.aload_n 0, 1) := by decide +kernel
theorem d_Mo_settle_29 : decode prog_12_method_28_code 29 = .ok (.getfield 201, 3) := by decide +kernel
theorem d_Mo_settle_32 : decode prog_12_method_28_code 32 = .ok (.invokestatic 217, 3) := by decide +kernel
theorem d_Mo_settle_35 : decode prog_12_method_28_code 35 = .ok (.putfield 79, 3) := by decide +kernel
theorem d_Mo_settle_38 : decode prog_12_method_28_code 38 = .ok (.aload_n 0, 1) := by decide +kernel
theorem d_Mo_settle_39 : decode prog_12_method_28_code 39 = .ok (.dup, 1) := by decide +kernel
theorem d_Mo_settle_40 : decode prog_12_method_28_code 40 = .ok (.getfield 201, 3) := by decide +kernel
theorem d_Mo_settle_43 : decode prog_12_method_28_code 43 = .ok (.iconst 1, 1) := by decide +kernel
theorem d_Mo_settle_44 : decode prog_12_method_28_code 44 = .ok (.isub, 1) := by decide +kernel
theorem d_Mo_settle_45 : decode prog_12_method_28_code 45 = .ok (.putfield 201, 3) := by decide +kernel
theorem d_Mo_settle_48 : decode prog_12_method_28_code 48 = .ok (.aload_n 0, 1) := by decide +kernel
theorem d_Mo_settle_49 : decode prog_12_method_28_code 49 = .ok (.getfield 79, 3) := by decide +kernel
theorem d_Mo_settle_52 : decode prog_12_method_28_code 52 = .ok (.istore_n 1, 1) := by decide +kernel
theorem d_Mo_settle_53 : decode prog_12_method_28_code 53 = .ok (.aload_n 0, 1) := by decide +kernel
theorem d_Mo_settle_54 : decode prog_12_method_28_code 54 = .ok (.getfield 13, 3) := by decide +kernel
theorem d_Mo_settle_57 : decode prog_12_method_28_code 57 = .ok (.aload_n 0, 1) := by decide +kernel
theorem d_Mo_settle_58 : decode prog_12_method_28_code 58 = .ok (.getfield 51, 3) := by decide +kernel
theorem d_Mo_settle_61 : decode prog_12_method_28_code 61 = .ok (.iload_n 1, 1) := by decide +kernel
theorem d_Mo_settle_62 : decode prog_12_method_28_code 62 = .ok (.iaload, 1) := by decide +kernel
theorem d_Mo_settle_63 : decode prog_12_method_28_code 63 = .ok (.iaload, 1) := by decide +kernel
theorem d_Mo_settle_64 : decode prog_12_method_28_code 64 = .ok (.istore_n 2, 1) := by decide +kernel
theorem d_Mo_settle_65 : decode prog_12_method_28_code 65 = .ok (.iload_n 2, 1) := by decide +kernel
theorem d_Mo_settle_66 : decode prog_12_method_28_code 66 = .ok (.bipush 10, 2) := by decide +kernel
theorem d_Mo_settle_68 : decode prog_12_method_28_code 68 = .ok (.if_icmp .ne 25, 3) := by decide +kernel
theorem d_Mo_settle_71 : decode prog_12_method_28_code 71 = .ok (.aload_n 0, 1) := by decide +kernel
theorem d_Mo_settle_72 : decode prog_12_method_28_code 72 = .ok (.getfield 51, 3) := by decide +kernel
theorem d_Mo_settle_75 : decode prog_12_method_28_code 75 = .ok (.iload_n 1, 1) := by decide +kernel
theorem d_Mo_settle_76 : decode prog_12_method_28_code 76 = .ok (.aload_n 0, 1) := by decide +kernel
theorem d_Mo_settle_77 : decode prog_12_method_28_code 77 = .ok (.getfield 13, 3) := by decide +kernel
theorem d_Mo_settle_80 : decode prog_12_method_28_code 80 = .ok (.aload_n 0, 1) := by decide +kernel
theorem d_Mo_settle_81 : decode prog_12_method_28_code 81 = .ok (.getfield 51, 3) := by decide +kernel
theorem d_Mo_settle_84 : decode prog_12_method_28_code 84 = .ok (.iload_n 1, 1) := by decide +kernel
theorem d_Mo_settle_85 : decode prog_12_method_28_code 85 = .ok (.iaload, 1) := by decide +kernel
theorem d_Mo_settle_86 : decode prog_12_method_28_code 86 = .ok (.iconst 1, 1) := by decide +kernel
theorem d_Mo_settle_87 : decode prog_12_method_28_code 87 = .ok (.iadd, 1) := by decide +kernel
theorem d_Mo_settle_88 : decode prog_12_method_28_code 88 = .ok (.iaload, 1) := by decide +kernel
theorem d_Mo_settle_89 : decode prog_12_method_28_code 89 = .ok (.iastore, 1) := by decide +kernel
theorem d_Mo_settle_90 : decode prog_12_method_28_code 90 = .ok (.goto 52, 3) := by decide +kernel
theorem d_Mo_settle_93 : decode prog_12_method_28_code 93 = .ok (.iload_n 2, 1) := by decide +kernel
theorem d_Mo_settle_94 : decode prog_12_method_28_code 94 = .ok (.bipush 11, 2) := by decide +kernel
theorem d_Mo_settle_96 : decode prog_12_method_28_code 96 = .ok (.if_icmp .ne 26, 3) := by decide +kernel
theorem d_Mo_settle_99 : decode prog_12_method_28_code 99 = .ok (.aload_n 0, 1) := by decide +kernel
theorem d_Mo_settle_100 : decode prog_12_method_28_code 100 = .ok (.getfield 51, 3) := by decide +kernel
theorem d_Mo_settle_103 : decode prog_12_method_28_code 103 = .ok (.iload_n 1, 1) := by decide +kernel
theorem d_Mo_settle_104 : decode prog_12_method_28_code 104 = .ok (.dup2, 1) := by decide +kernel
theorem d_Mo_settle_105 : decode prog_12_method_28_code 105 = .ok (.iaload, 1) := by decide +kernel
theorem d_Mo_settle_106 : decode prog_12_method_28_code 106 = .ok (.iconst 1, 1) := by decide +kernel
theorem d_Mo_settle_107 : decode prog_12_method_28_code 107 = .ok (.iadd, 1) := by decide +kernel
theorem d_Mo_settle_108 : decode prog_12_method_28_code 108 = .ok (.iastore, 1) := by decide +kernel
theorem d_Mo_settle_109 : decode prog_12_method_28_code 109 = .ok (.aload_n 0, 1) := by decide +kernel
theorem d_Mo_settle_110 : decode prog_12_method_28_code 110 = .ok (.iload_n 1, 1) := by decide +kernel
theorem d_Mo_settle_111 : decode prog_12_method_28_code 111 = .ok (.invokevirtual 214, 3) := by decide +kernel
theorem d_Mo_settle_114 : decode prog_12_method_28_code 114 = .ok (.aload_n 0, 1) := by decide +kernel
theorem d_Mo_settle_115 : decode prog_12_method_28_code 115 = .ok (.iconst (-1), 1) := by decide +kernel
theorem d_Mo_settle_116 : decode prog_12_method_28_code 116 = .ok (.putfield 79, 3) := by decide +kernel
theorem d_Mo_settle_119 : decode prog_12_method_28_code 119 = .ok (.goto 23, 3) := by decide +kernel
theorem d_Mo_settle_122 : decode prog_12_method_28_code 122 = .ok (.iload_n 2, 1) := by decide +kernel
theorem d_Mo_settle_123 : decode prog_12_method_28_code 123 = .ok (.bipush 12, 2) := by decide +kernel
theorem d_Mo_settle_125 : decode prog_12_method_28_code 125 = .ok (.if_icmp .ne 16, 3) := by decide +kernel
theorem d_Mo_settle_128 : decode prog_12_method_28_code 128 = .ok (.aload_n 0, 1) := by decide +kernel
theorem d_Mo_settle_129 : decode prog_12_method_28_code 129 = .ok (.iconst (-1), 1) := by decide +kernel
theorem d_Mo_settle_130 : decode prog_12_method_28_code 130 = .ok (.putfield 79, 3) := by decide +kernel
theorem d_Mo_settle_133 : decode prog_12_method_28_code 133 = .ok (.aload_n 0, 1) := by decide +kernel
theorem d_Mo_settle_134 : decode prog_12_method_28_code 134 = .ok (.iload_n 1, 1) := by decide +kernel
theorem d_Mo_settle_135 : decode prog_12_method_28_code 135 = .ok (.invokevirtual 221, 3) := by decide +kernel
theorem d_Mo_settle_138 : decode prog_12_method_28_code 138 = .ok (.goto 4, 3) := by decide +kernel
theorem d_Mo_settle_141 : decode prog_12_method_28_code 141 = .ok (.return_, 1) := by decide +kernel
theorem d_Mo_settle_142 : decode prog_12_method_28_code 142 = .ok (.goto (-142), 3) := by decide +kernel
theorem d_Mo_settle_145 : decode prog_12_method_28_code 145 = .ok (.return_, 1) := by decide +kernel
set_option maxHeartbeats 4000000 in
set_option maxRecDepth 100000 in
theorem m_settle (l : Launch) (dC : Nat → ClassId) (dI : Nat → Nat → Nat) (ar : Nat → ClassId) (N0 : Nat) (z : Nat → Nat) (h0 : Nat) (ad : Nat → Nat) (I : Nat → Int32) (T : Int64) (A : Nat → Nat → Int32) (U : Nat → Int64)  (sz : Nat) (h9 : I 9 = 1) (hrun : m_RUN I A) : Met l ({ cls := "ChannelMachineModel", name := "settle", desc := "()V" } : Jvm.MethodName) ((Jvm.Cond.code ({ cls := "ChannelMachineModel", name := "settle", desc := "()V" } : Jvm.MethodName) prog_12_method_28_code (3 : Nat) (Option.none : Option Jvm.ClassFile.FieldType)) :: x_T) ({ frames := 2, cells := 0, slots := 0, locals := 43 }) (x_Pc (dC, dI) ar N0 z (m_W h0 ad ar I T A U) sz [.ref h0]) (va_Qv (fun (u : (Nat → Int32) × Int64 × (Nat → Nat → Int32) × (Nat → Int64)) => m_fr [9, 29, 30] I u.1 ∧ m_fa [20, 22, 24, 27] A u.2.2.1 ∧ u.2.1 = T ∧ u.2.2.2 = U ∧ (∀ x, ¬ u.2.2.1 27 x = 0 → ¬ A 27 x = 0) ∧ (u.1 9 = 2 ∨ (u.1 9 = 1 ∧ m_SET u.1 u.2.2.1))) (fun u t => va_P (dC, dI) x_cl (m_W h0 ad ar u.1 u.2.1 u.2.2.1 u.2.2.2) t.heap) (va_A (m_W h0 ad ar I T A U) sz)) 0 0 (va_A (m_W h0 ad ar I T A U) sz) := by
  refine Met.ofW (cc := prog_12_method_28_code) (maxL := 3) (ret := none) (by decide) rfl ?_
  intro p e s m args below meth c s₁ B hml hv
  obtain ⟨rfl, hsz, hN0, hP, hU, hZ, hD0⟩ := hv
  have hK := hU.1
  have hx := B.exec
  have hb := B.bytes
  have hr := B.returns
  have hts : ∀ w ∈ x_T, w.before ([.ref h0] : List Value).toArray s = true := fun w h => atoms_spec (ws := (Jvm.Cond.code ({ cls := "ChannelMachineModel", name := "settle", desc := "()V" } : Jvm.MethodName) prog_12_method_28_code (3 : Nat) (Option.none : Option Jvm.ClassFile.FieldType)) :: x_T) B.pre w (List.mem_cons_of_mem _ h)
  have hown : s.vm.findClass "ChannelMachineModel" = some m.cls := findClass_of_methodNamed B.named
  have hlocks := B.notSynchronized
  subst hsz
  have hD := hD0.self (sz := s.heap.size)
  have hAN := x_AN hD0 hN0
  generalize hAe : va_A (m_W h0 ad ar I T A U) s.heap.size = Bq at hD hAN ⊢
  have hA : ∀ q : Nat, s.heap.size ≤ q → Bq q := fun q h => by rw [← hAe]; exact Or.inr h
  have hS : va_S Bq s.heap s.heap [] := va_S.rf
  have hl := lv_entry ([.ref h0]) (n := 3) (Nat.le_of_ble_eq_true rfl)
  rw [lg_entry_eq]
  generalize (lg_sl ([.ref h0]) ++ List.replicate (3 - (lg_sl ([.ref h0])).length) Slot.unset).toArray = ls at hl ⊢
  have hl : lv_has ls 3 [(0, .ref h0)] := hl
  obtain ⟨V, own, pown, bl, role, k9, q, pn, br, st, i29, hri, hcu⟩ := hrun
  refine x_while (fun n H locs ls => ∃ (I1 : Nat → Int32) (A1 : Nat → Nat → Int32), m_fr [9, 29, 30] I I1 ∧ m_fa [20, 22, 24, 27] A A1 ∧ (∀ x, ¬ A1 27 x = 0 → ¬ A 27 x = 0) ∧ (I1 9 = 2 ∨ (I1 9 = 1 ∧ ∃ (V : Nat → Prop) (own pown : Nat → Nat) (bl : List Nat) (role : Nat → Nat) (k9 q : Nat) (pn br st : Nat → Nat), n = m_ms (A1 1) (A1 27) pn 90 ∧ I1 29 = Int32.ofNat q ∧ m_RI A1 q V own pown bl role k9 pn br st ∧ m_CU I1 A1 st)) ∧ va_P (dC, dI) x_cl (m_W h0 ad ar I1 T A1 U) H ∧ va_D Bq (m_W h0 ad ar I1 T A1 U) ∧ va_S Bq s.heap H locs ∧ lv_has ls 3 [(0, .ref h0)]) (fun n ih H locs ls h9 => ?_) ⟨I, A, m_fr.rf, m_fa.rf, fun _ h => h, Or.inr ⟨h9, V, own, pown, bl, role, k9, q, pn, br, st, rfl, i29, hri, hcu⟩, hP, hD, hS, hl⟩
  obtain ⟨I1, A1, hfr, hfa, hal0, hs9, hP, hD, hS, hl⟩ := h9
  rcases hs9 with h2 | ⟨h1, V, own, pown, bl, role, k9, q, pn, br, st, hms, i29, hri, hcu⟩
  · refine lv_aload_n hx hb d_Mo_settle_0 rfl (lv_at hl 0 rfl) ?_
    refine m_g hx hb hts hown hK hP 9 (by decide) rfl (hts _ k_976) (v := .int 2) (congrArg Value.int h2) d_Mo_settle_1 ?_
    refine lv_iconst (v := 1) hx hb d_Mo_settle_4 (by decide) ?_
    refine lv_icmp_ne (tgt := 145) hx hb d_Mo_settle_5 (by decide) (fun _ => ?_) (fun c1 => absurd c1 (by decide))
    refine W.widen (k := 0) (n := 0) (Nat.le_of_ble_eq_true rfl) (Nat.le_of_ble_eq_true rfl) ?_
    exact W.vret hx hb hr (fun t ht hW => ⟨⟨(I1, T, A1, U), rfl, ⟨hfr, hfa, rfl, rfl, hal0, Or.inl h2⟩, by dsimp only; rw [ht]; exact hP⟩, hS.F ht⟩) hS.2.2 d_Mo_settle_145
  · have hq90 := hri.2.2.1.1
    rcases hcu with c30 | ⟨t1, ht1, c30, hal, hst⟩
    · refine lv_aload_n hx hb d_Mo_settle_0 rfl (lv_at hl 0 rfl) ?_
      refine m_g hx hb hts hown hK hP 9 (by decide) rfl (hts _ k_976) (v := .int 1) (congrArg Value.int h1) d_Mo_settle_1 ?_
      refine lv_iconst (v := 1) hx hb d_Mo_settle_4 (by decide) ?_
      refine lv_icmp_ne (tgt := 145) hx hb d_Mo_settle_5 (by decide) (fun c2 => absurd rfl c2) (fun _ => ?_)
      refine lv_aload_n hx hb d_Mo_settle_8 rfl (lv_at hl 0 rfl) ?_
      refine m_g hx hb hts hown hK hP 30 (by decide) rfl (hts _ k_997) (v := .int (-1)) (congrArg Value.int c30) d_Mo_settle_9 ?_
      refine lv_if_ge (tgt := 48) hx hb d_Mo_settle_12 (by decide) (fun c3 => absurd c3 (by decide)) (fun _ => ?_)
      refine lv_aload_n hx hb d_Mo_settle_15 rfl (lv_at hl 0 rfl) ?_
      refine m_g hx hb hts hown hK hP 29 (by decide) rfl (hts _ k_996) (v := .int (Int32.ofNat q)) (congrArg Value.int i29) d_Mo_settle_16 ?_
      refine lv_if_ne (tgt := 23) hx hb d_Mo_settle_19 (by decide) (fun c4 => ?_) (fun c4 => ?_)
      · have c4 : ¬ q = 0 := fun h9 => c4 ((x_eqN (a := q) (b := 0) (by omega) (by omega)).mpr h9)
        refine lv_aload_n hx hb d_Mo_settle_23 rfl (lv_at hl 0 rfl) ?_
        refine lv_aload_n hx hb d_Mo_settle_24 rfl (lv_at hl 0 rfl) ?_
        refine m_g hx hb hts hown hK hP 24 (by decide) rfl (hts _ k_991) (v := .ref (ad 24)) rfl d_Mo_settle_25 ?_
        refine lv_aload_n hx hb d_Mo_settle_28 rfl (lv_at hl 0 rfl) ?_
        refine m_g hx hb hts hown hK hP 29 (by decide) rfl (hts _ k_996) (v := .int (Int32.ofNat q)) (congrArg Value.int i29) d_Mo_settle_29 ?_
        have hFc := m_free hD hS hA
        refine va_calli (va_runS (As := [.ref (ad 24), .int (Int32.ofNat q)]) (rest := [.ref h0]) ⟨hx, hb, hml, hown, hts⟩ (m_shift24 l dC dI ar N0 z h0 ad I1 T A1 U q H.size (by omega)) (cwS 2 hts (x_goodS k_1210 k_1211 k_9 k_1212) rfl rfl rfl (by decide +kernel) ⟨Nat.le_of_ble_eq_true rfl, Nat.le_of_ble_eq_true rfl⟩) ⟨x_blind, fun U9 hU9 hW9 => x_pre hU9 hW9 hP hD hU hZ hS hAN hN0⟩ rfl rfl hl.1 rfl (lv_room (Nat.le_of_ble_eq_true rfl)) d_Mo_settle_32 ⟨Nat.le_of_ble_eq_true rfl, Nat.le_of_ble_eq_true rfl⟩) hS (fun q _ h => hFc q h) hFc (fun r5 u t H1 locs ht hvm hw hB hz1 hk1 hS => ?_)
        obtain ⟨I7, T7, A7, U7⟩ := u
        dsimp only at hw hB
        rw [ht] at hB
        have hP : va_P (dC, dI) x_cl (m_W h0 ad ar I7 T7 A7 U7) H1 := hB
        have hD : va_D Bq (m_W h0 ad ar I7 T7 A7 U7) := m_D hD
        generalize H1 = H at hP hS ⊢
        refine W.widen (k := 0) (n := 0) (Nat.le_of_ble_eq_true rfl) (Nat.le_of_ble_eq_true rfl) ?_
        obtain ⟨rfl, e1, e2, e3, fa7, g17, _⟩ := hw
        rw [e1, e2, e3] at hP hD
        obtain ⟨t1, ht1, et1, hal, hst1, hri⟩ := hri.pop (by omega) fa7 g17
        have hal : m_al A7 t1 := by unfold m_al; rw [fa7 27 (by decide)]; exact hal
        have hst : (fun x => if x = t1 then 2 else st x) t1 = 2 := if_pos rfl
        have hms : n = m_ms (A7 1) (A7 27) pn 90 := by rw [fa7 1 (by decide), fa7 27 (by decide)]; exact hms
        refine W.eq (g2 := F0 m 35 ls [.int (Int32.ofNat t1), .ref h0]) (by rw [et1]) ?_
        have hal0 : ∀ x, ¬ A7 27 x = 0 → ¬ A 27 x = 0 := fun x hx => hal0 x (by rw [fa7 27 (by decide)] at hx; exact hx)
        refine m_p hx hb hts hown hK hP hD hS 30 (by decide) rfl (hts _ k_997) rfl (by decide +kernel) rfl (by decide) (x := (Int32.ofNat t1)) d_Mo_settle_35 (fun H locs hP hD hS => ?_)
        refine lv_aload_n hx hb d_Mo_settle_38 rfl (lv_at hl 0 rfl) ?_
        refine lv_dup hx hb d_Mo_settle_39 rfl ?_
        refine m_g hx hb hts hown hK hP 29 (by decide) rfl (hts _ k_996) (v := .int (Int32.ofNat q)) (congrArg Value.int i29) d_Mo_settle_40 ?_
        refine lv_iconst (v := 1) hx hb d_Mo_settle_43 (by decide) ?_
        refine lv_isub hx hb d_Mo_settle_44 ?_
        refine W.eq (g2 := F0 m 45 ls [.int (Int32.ofNat (q - 1)), .ref h0]) (by rw [← x_subN (a := q) (b := 1) (by omega)] <;> rfl) ?_
        refine m_p hx hb hts hown hK hP hD hS 29 (by decide) rfl (hts _ k_996) rfl (by decide +kernel) rfl (by decide) (x := (Int32.ofNat (q - 1))) d_Mo_settle_45 (fun H locs hP hD hS => ?_)
        obtain ⟨p20, p1001, pV, pown9, pin⟩ := hri.at ht1 hal
        refine lv_aload_n hx hb d_Mo_settle_48 rfl (lv_at hl 0 rfl) ?_
        refine m_g hx hb hts hown hK hP 30 (by decide) rfl (hts _ k_997) (v := .int (Int32.ofNat t1)) rfl d_Mo_settle_49 ?_
        refine lv_istore_n (lv' := [(1, .int (Int32.ofNat t1)), (0, .ref h0)]) hx hb d_Mo_settle_52 rfl hl (by decide) rfl (fun ls hl => ?_)
        refine lv_aload_n hx hb d_Mo_settle_53 rfl (lv_at hl 1 rfl) ?_
        refine m_g hx hb hts hown hK hP 1 (by decide) rfl (hts _ k_968) (v := .ref (ad 1)) rfl d_Mo_settle_54 ?_
        refine lv_aload_n hx hb d_Mo_settle_57 rfl (lv_at hl 1 rfl) ?_
        refine m_g hx hb hts hown hK hP 20 (by decide) rfl (hts _ k_987) (v := .ref (ad 20)) rfl d_Mo_settle_58 ?_
        refine lv_iload_n hx hb d_Mo_settle_61 rfl (lv_at hl 0 rfl) ?_
        refine m_ld hx hb hK hP 12 rfl (by decide) (j := (Int32.ofNat t1)) (x_inN (by omega) (by decide)) d_Mo_settle_62 ?_
        refine W.eq (g2 := F0 m 63 ls [.int (Int32.ofNat (pn t1)), .ref (ad 1)]) (by rw [x_nat (a := t1) (by omega), show A7 20 t1 = (Int32.ofNat (pn t1)) from p20]) ?_
        refine m_ld hx hb hK hP 1 rfl (by decide) (j := (Int32.ofNat (pn t1))) (x_inN (by omega) (by decide)) d_Mo_settle_63 ?_
        refine W.eq (g2 := F0 m 64 ls [.int (A7 1 ((pn t1)))]) (by rw [x_nat (a := (pn t1)) (by omega)]) ?_
        refine lv_istore_n (lv' := [(2, .int (A7 1 ((pn t1)))), (1, .int (Int32.ofNat t1)), (0, .ref h0)]) hx hb d_Mo_settle_64 rfl hl (by decide) rfl (fun ls hl => ?_)
        refine lv_iload_n hx hb d_Mo_settle_65 rfl (lv_at hl 0 rfl) ?_
        refine lv_bipush (v := 10) hx hb d_Mo_settle_66 (by decide) ?_
        refine lv_icmp_ne (tgt := 93) hx hb d_Mo_settle_68 (by decide) (fun c8 => ?_) (fun c8 => ?_)
        · refine lv_iload_n hx hb d_Mo_settle_93 rfl (lv_at hl 0 rfl) ?_
          refine lv_bipush (v := 11) hx hb d_Mo_settle_94 (by decide) ?_
          refine lv_icmp_ne (tgt := 122) hx hb d_Mo_settle_96 (by decide) (fun c9 => ?_) (fun c9 => ?_)
          · refine lv_iload_n hx hb d_Mo_settle_122 rfl (lv_at hl 0 rfl) ?_
            refine lv_bipush (v := 12) hx hb d_Mo_settle_123 (by decide) ?_
            refine lv_icmp_ne (tgt := 141) hx hb d_Mo_settle_125 (by decide) (fun c10 => ?_) (fun c10 => ?_)
            · refine W.widen (k := 0) (n := 0) (Nat.le_of_ble_eq_true rfl) (Nat.le_of_ble_eq_true rfl) ?_
              exact W.vret hx hb hr (fun t ht hW => ⟨⟨((upd (upd I1 30 (Int32.ofNat t1)) 29 (Int32.ofNat (q - 1))), T, A7, U), rfl, ⟨((hfr.up (by decide) _).up (by decide) _), (hfa.tr fa7 (by decide)), rfl, rfl, hal0, Or.inr ⟨h1, V, own, pown, bl, role, k9, (q - 1), pn, br, (fun x => if x = t1 then 2 else st x), rfl, hri, Or.inr ⟨t1, ht1, rfl, hal, hst, c8, c9, c10⟩⟩⟩, by dsimp only; rw [ht]; exact hP⟩, hS.F ht⟩) hS.2.2 d_Mo_settle_141
            · have hend := m_set_end hri ht1 hal hst c10
              refine lv_aload_n hx hb d_Mo_settle_128 rfl (lv_at hl 2 rfl) ?_
              refine lv_iconst (v := (-1)) hx hb d_Mo_settle_129 (by decide) ?_
              refine m_p hx hb hts hown hK hP hD hS 30 (by decide) rfl (hts _ k_997) rfl (by decide +kernel) rfl (by decide) (x := (-1)) d_Mo_settle_130 (fun H locs hP hD hS => ?_)
              refine lv_aload_n hx hb d_Mo_settle_133 rfl (lv_at hl 2 rfl) ?_
              refine lv_iload_n hx hb d_Mo_settle_134 rfl (lv_at hl 1 rfl) ?_
              have hFc := m_free hD hS hA
              refine va_callv (va_runV (As := [.int (Int32.ofNat t1)]) (rest := []) ⟨hx, hb, hml, hown, hts⟩ (m_finish l dC dI ar N0 z h0 ad (upd (upd (upd I1 30 (Int32.ofNat t1)) 29 (Int32.ofNat (q - 1))) 30 (-1)) T A7 U (q - 1) t1 H.size rfl ht1 hend.1) (cwV 1 hts (x_goodV k_1213 k_1215 kp_68 k_9 k_1216) rfl rfl rfl (by decide +kernel) ⟨Nat.le_of_ble_eq_true rfl, Nat.le_of_ble_eq_true rfl⟩) ⟨x_blind, va_recv hK hP (ci := 6) (q0 := 0) rfl rfl, fun U9 hU9 hW9 => x_pre hU9 hW9 hP hD hU hZ hS hAN hN0⟩ rfl rfl hl.1 rfl (lv_room (Nat.le_of_ble_eq_true rfl)) d_Mo_settle_135 ⟨Nat.le_of_ble_eq_true rfl, Nat.le_of_ble_eq_true rfl⟩) hS (fun q _ h => hFc q h) hFc (fun u t H1 locs ht hvm hw hB hz1 hk1 hS => ?_)
              obtain ⟨I12, T12, A12, U12⟩ := u
              dsimp only at hw hB
              rw [ht] at hB
              have hP : va_P (dC, dI) x_cl (m_W h0 ad ar I12 T12 A12 U12) H1 := hB
              have hD : va_D Bq (m_W h0 ad ar I12 T12 A12 U12) := m_D hD
              generalize H1 = H at hP hS ⊢
              refine W.widen (k := 0) (n := 0) (Nat.le_of_ble_eq_true rfl) (Nat.le_of_ble_eq_true rfl) ?_
              rcases hw with ⟨h8, h9⟩ | ⟨p9, k8, hp9, h21, h22, hk81, hk90, ⟨e8, h9⟩ | ⟨e8, h9⟩⟩
              · cases h9
                refine lv_goto (tgt := 142) hx hb d_Mo_settle_138 (by decide) ?_
                refine lv_goto (tgt := 0) hx hb d_Mo_settle_142 (by decide) ?_
                exact ih (n - 1) (by have := hend.2.2; omega) H locs ls ⟨(upd (upd (upd (upd I1 30 (Int32.ofNat t1)) 29 (Int32.ofNat (q - 1))) 30 (-1)) 9 2), (m_up A7 27 (upd (A7 27) t1 0)), ((((hfr.up (by decide) _).up (by decide) _).up (by decide) _).up (by decide) _), ((hfa.tr fa7 (by decide)).up (by decide) _), (fun x hx => hal0 x (fun h9 => hx (if e : x = t1 then (by show upd (A7 27) t1 0 x = 0; rw [e, upd_s]) else (by show upd (A7 27) t1 0 x = 0; rw [upd_n e]; exact h9)))), Or.inl rfl, hP, hD, hS, lv_sub hl [2] rfl⟩
              · cases h9
                refine lv_goto (tgt := 142) hx hb d_Mo_settle_138 (by decide) ?_
                refine lv_goto (tgt := 0) hx hb d_Mo_settle_142 (by decide) ?_
                exact ih (m_ms (A7 1) (upd (A7 27) t1 0) pn 90) (by rw [hms]; exact hend.2.2) H locs ls ⟨(upd (upd (upd (upd I1 30 (Int32.ofNat t1)) 29 (Int32.ofNat (q - 1))) 30 (-1)) 29 (Int32.ofNat ((q - 1) + 1))), (m_up (m_up (m_up A7 27 (upd (A7 27) t1 0)) 22 (upd (A7 22) p9 (Int32.ofNat (k8 - 1)))) 24 (upd (A7 24) (q - 1) (Int32.ofNat p9))), ((((hfr.up (by decide) _).up (by decide) _).up (by decide) _).up (by decide) _), ((((hfa.tr fa7 (by decide)).up (by decide) _).up (by decide) _).up (by decide) _), (fun x hx => hal0 x (fun h9 => hx (if e : x = t1 then (by show upd (A7 27) t1 0 x = 0; rw [e, upd_s]) else (by show upd (A7 27) t1 0 x = 0; rw [upd_n e]; exact h9)))), Or.inr ⟨h1, V, own, pown, bl, role, k9, (q - 1) + 1, pn, br, _, rfl, rfl, (hend.2.1 p9 k8 hp9 h21 h22 hk90).1 e8, Or.inl rfl⟩, hP, hD, hS, lv_sub hl [2] rfl⟩
              · cases h9
                refine lv_goto (tgt := 142) hx hb d_Mo_settle_138 (by decide) ?_
                refine lv_goto (tgt := 0) hx hb d_Mo_settle_142 (by decide) ?_
                exact ih (m_ms (A7 1) (upd (A7 27) t1 0) pn 90) (by rw [hms]; exact hend.2.2) H locs ls ⟨(upd (upd (upd I1 30 (Int32.ofNat t1)) 29 (Int32.ofNat (q - 1))) 30 (-1)), (m_up (m_up A7 27 (upd (A7 27) t1 0)) 22 (upd (A7 22) p9 (Int32.ofNat (k8 - 1)))), (((hfr.up (by decide) _).up (by decide) _).up (by decide) _), (((hfa.tr fa7 (by decide)).up (by decide) _).up (by decide) _), (fun x hx => hal0 x (fun h9 => hx (if e : x = t1 then (by show upd (A7 27) t1 0 x = 0; rw [e, upd_s]) else (by show upd (A7 27) t1 0 x = 0; rw [upd_n e]; exact h9)))), Or.inr ⟨h1, V, own, pown, bl, role, k9, (q - 1), pn, br, _, rfl, rfl, (hend.2.1 p9 k8 hp9 h21 h22 hk90).2 e8, Or.inl rfl⟩, hP, hD, hS, lv_sub hl [2] rfl⟩
          · obtain ⟨hq9, hri2, hms2⟩ := m_set_yield hri ht1 hal hst c9
            refine lv_aload_n hx hb d_Mo_settle_99 rfl (lv_at hl 2 rfl) ?_
            refine m_g hx hb hts hown hK hP 20 (by decide) rfl (hts _ k_987) (v := .ref (ad 20)) rfl d_Mo_settle_100 ?_
            refine lv_iload_n hx hb d_Mo_settle_103 rfl (lv_at hl 1 rfl) ?_
            refine lv_dup2_11 hx hb d_Mo_settle_104 rfl rfl ?_
            refine m_ld hx hb hK hP 12 rfl (by decide) (j := (Int32.ofNat t1)) (x_inN (by omega) (by decide)) d_Mo_settle_105 ?_
            refine W.eq (g2 := F0 m 106 ls [.int (Int32.ofNat (pn t1)), .int (Int32.ofNat t1), .ref (ad 20)]) (by rw [x_nat (a := t1) (by omega), show A7 20 t1 = (Int32.ofNat (pn t1)) from p20]) ?_
            refine lv_iconst (v := 1) hx hb d_Mo_settle_106 (by decide) ?_
            refine lv_iadd hx hb d_Mo_settle_107 ?_
            refine W.eq (g2 := F0 m 108 ls [.int (Int32.ofNat ((pn t1) + 1)), .int (Int32.ofNat t1), .ref (ad 20)]) (by rw [← x_addN (a := (pn t1)) (b := 1)] <;> rfl) ?_
            refine m_st hx hb hK hP hD hS 12 rfl (by decide) (j := (Int32.ofNat t1)) (x := (Int32.ofNat ((pn t1) + 1))) (x_inN (by omega) (by decide)) d_Mo_settle_108 (fun H locs hP hD hS => ?_)
            rw [x_nat (a := t1) (by omega)] at hP hD
            have hP : va_P (dC, dI) x_cl (m_W h0 ad ar (upd (upd I1 30 (Int32.ofNat t1)) 29 (Int32.ofNat (q - 1))) T (m_up A7 20 (upd (A7 20) t1 (Int32.ofNat ((pn t1) + 1)))) U) H := hP
            have hD : va_D Bq (m_W h0 ad ar (upd (upd I1 30 (Int32.ofNat t1)) 29 (Int32.ofNat (q - 1))) T (m_up A7 20 (upd (A7 20) t1 (Int32.ofNat ((pn t1) + 1)))) U) := hD
            refine lv_aload_n hx hb d_Mo_settle_109 rfl (lv_at hl 2 rfl) ?_
            refine lv_iload_n hx hb d_Mo_settle_110 rfl (lv_at hl 1 rfl) ?_
            have hFc := m_free hD hS hA
            refine va_callv (va_runV (As := [.int (Int32.ofNat t1)]) (rest := []) ⟨hx, hb, hml, hown, hts⟩ (m_put l dC dI ar N0 z h0 ad (upd (upd I1 30 (Int32.ofNat t1)) 29 (Int32.ofNat (q - 1))) T (m_up A7 20 (upd (A7 20) t1 (Int32.ofNat ((pn t1) + 1)))) U ((q - 1)) ((Int32.ofNat t1)) H.size rfl (by omega)) (cwV 1 hts (x_goodV k_1194 k_1196 kp_65 k_9 k_1197) rfl rfl rfl (by decide +kernel) ⟨Nat.le_of_ble_eq_true rfl, Nat.le_of_ble_eq_true rfl⟩) ⟨x_blind, va_recv hK hP (ci := 6) (q0 := 0) rfl rfl, fun U9 hU9 hW9 => x_pre hU9 hW9 hP hD hU hZ hS hAN hN0⟩ rfl rfl hl.1 rfl (lv_room (Nat.le_of_ble_eq_true rfl)) d_Mo_settle_111 ⟨Nat.le_of_ble_eq_true rfl, Nat.le_of_ble_eq_true rfl⟩) hS (fun q _ h => hFc q h) hFc (fun u t H1 locs ht hvm hw hB hz1 hk1 hS => ?_)
            obtain ⟨I14, T14, A14, U14⟩ := u
            dsimp only at hw hB
            rw [ht] at hB
            have hP : va_P (dC, dI) x_cl (m_W h0 ad ar I14 T14 A14 U14) H1 := hB
            have hD : va_D Bq (m_W h0 ad ar I14 T14 A14 U14) := m_D hD
            generalize H1 = H at hP hS ⊢
            refine W.widen (k := 0) (n := 0) (Nat.le_of_ble_eq_true rfl) (Nat.le_of_ble_eq_true rfl) ?_
            cases hw
            have hP : va_P (dC, dI) x_cl (m_W h0 ad ar (upd (upd (upd I1 30 (Int32.ofNat t1)) 29 (Int32.ofNat (q - 1))) 29 (Int32.ofNat (((q - 1)) + 1))) T (m_up (m_up A7 20 (upd (A7 20) t1 (Int32.ofNat ((pn t1) + 1)))) 24 (upd (A7 24) ((q - 1)) (Int32.ofNat t1))) U) H := hP
            have hD : va_D Bq (m_W h0 ad ar (upd (upd (upd I1 30 (Int32.ofNat t1)) 29 (Int32.ofNat (q - 1))) 29 (Int32.ofNat (((q - 1)) + 1))) T (m_up (m_up A7 20 (upd (A7 20) t1 (Int32.ofNat ((pn t1) + 1)))) 24 (upd (A7 24) ((q - 1)) (Int32.ofNat t1))) U) := hD
            refine lv_aload_n hx hb d_Mo_settle_114 rfl (lv_at hl 2 rfl) ?_
            refine lv_iconst (v := (-1)) hx hb d_Mo_settle_115 (by decide) ?_
            refine m_p hx hb hts hown hK hP hD hS 30 (by decide) rfl (hts _ k_997) rfl (by decide +kernel) rfl (by decide) (x := (-1)) d_Mo_settle_116 (fun H locs hP hD hS => ?_)
            refine lv_goto (tgt := 142) hx hb d_Mo_settle_119 (by decide) ?_
            refine lv_goto (tgt := 0) hx hb d_Mo_settle_142 (by decide) ?_
            exact ih (m_ms (A7 1) (A7 27) (fun y => if y = t1 then pn t1 + 1 else pn y) 90) (by rw [hms]; exact hms2) H locs ls ⟨(upd (upd (upd (upd I1 30 (Int32.ofNat t1)) 29 (Int32.ofNat (q - 1))) 29 (Int32.ofNat (((q - 1)) + 1))) 30 (-1)), (m_up (m_up A7 20 (upd (A7 20) t1 (Int32.ofNat ((pn t1) + 1)))) 24 (upd (A7 24) ((q - 1)) (Int32.ofNat t1))), ((((hfr.up (by decide) _).up (by decide) _).up (by decide) _).up (by decide) _), (((hfa.tr fa7 (by decide)).up (by decide) _).up (by decide) _), hal0, Or.inr ⟨h1, V, own, pown, bl, role, k9, (q - 1) + 1, _, br, _, rfl, rfl, hri2, Or.inl rfl⟩, hP, hD, hS, lv_sub hl [2] rfl⟩
        · obtain ⟨x9, hx9, ex9, hri2, hms2⟩ := m_set_jump hri ht1 hal c8
          refine lv_aload_n hx hb d_Mo_settle_71 rfl (lv_at hl 2 rfl) ?_
          refine m_g hx hb hts hown hK hP 20 (by decide) rfl (hts _ k_987) (v := .ref (ad 20)) rfl d_Mo_settle_72 ?_
          refine lv_iload_n hx hb d_Mo_settle_75 rfl (lv_at hl 1 rfl) ?_
          refine lv_aload_n hx hb d_Mo_settle_76 rfl (lv_at hl 2 rfl) ?_
          refine m_g hx hb hts hown hK hP 1 (by decide) rfl (hts _ k_968) (v := .ref (ad 1)) rfl d_Mo_settle_77 ?_
          refine lv_aload_n hx hb d_Mo_settle_80 rfl (lv_at hl 2 rfl) ?_
          refine m_g hx hb hts hown hK hP 20 (by decide) rfl (hts _ k_987) (v := .ref (ad 20)) rfl d_Mo_settle_81 ?_
          refine lv_iload_n hx hb d_Mo_settle_84 rfl (lv_at hl 1 rfl) ?_
          refine m_ld hx hb hK hP 12 rfl (by decide) (j := (Int32.ofNat t1)) (x_inN (by omega) (by decide)) d_Mo_settle_85 ?_
          refine W.eq (g2 := F0 m 86 ls [.int (Int32.ofNat (pn t1)), .ref (ad 1), .int (Int32.ofNat t1), .ref (ad 20)]) (by rw [x_nat (a := t1) (by omega), show A7 20 t1 = (Int32.ofNat (pn t1)) from p20]) ?_
          refine lv_iconst (v := 1) hx hb d_Mo_settle_86 (by decide) ?_
          refine lv_iadd hx hb d_Mo_settle_87 ?_
          refine W.eq (g2 := F0 m 88 ls [.int (Int32.ofNat ((pn t1) + 1)), .ref (ad 1), .int (Int32.ofNat t1), .ref (ad 20)]) (by rw [← x_addN (a := (pn t1)) (b := 1)] <;> rfl) ?_
          refine m_ld hx hb hK hP 1 rfl (by decide) (j := (Int32.ofNat ((pn t1) + 1))) (x_inN (by omega) (by decide)) d_Mo_settle_88 ?_
          refine W.eq (g2 := F0 m 89 ls [.int (Int32.ofNat x9), .int (Int32.ofNat t1), .ref (ad 20)]) (by rw [x_nat (a := ((pn t1) + 1)) (by omega), show A7 1 (((pn t1) + 1)) = (Int32.ofNat x9) from ex9]) ?_
          refine m_st hx hb hK hP hD hS 12 rfl (by decide) (j := (Int32.ofNat t1)) (x := (Int32.ofNat x9)) (x_inN (by omega) (by decide)) d_Mo_settle_89 (fun H locs hP hD hS => ?_)
          rw [x_nat (a := t1) (by omega)] at hP hD
          have hP : va_P (dC, dI) x_cl (m_W h0 ad ar (upd (upd I1 30 (Int32.ofNat t1)) 29 (Int32.ofNat (q - 1))) T (m_up A7 20 (upd (A7 20) t1 (Int32.ofNat x9))) U) H := hP
          have hD : va_D Bq (m_W h0 ad ar (upd (upd I1 30 (Int32.ofNat t1)) 29 (Int32.ofNat (q - 1))) T (m_up A7 20 (upd (A7 20) t1 (Int32.ofNat x9))) U) := hD
          refine lv_goto (tgt := 142) hx hb d_Mo_settle_90 (by decide) ?_
          refine lv_goto (tgt := 0) hx hb d_Mo_settle_142 (by decide) ?_
          exact ih (m_ms (A7 1) (A7 27) (fun y => if y = t1 then x9 else pn y) 90) (by rw [hms]; exact hms2) H locs ls ⟨(upd (upd I1 30 (Int32.ofNat t1)) 29 (Int32.ofNat (q - 1))), (m_up A7 20 (upd (A7 20) t1 (Int32.ofNat x9))), ((hfr.up (by decide) _).up (by decide) _), ((hfa.tr fa7 (by decide)).up (by decide) _), hal0, Or.inr ⟨h1, V, own, pown, bl, role, k9, (q - 1), _, br, (fun x => if x = t1 then 2 else st x), rfl, rfl, hri2, Or.inr ⟨t1, ht1, rfl, hal, hst⟩⟩, hP, hD, hS, lv_sub hl [2] rfl⟩
      · have c4 : q = 0 := (x_eqN (a := q) (b := 0) (by omega) (by omega)).mp c4
        refine W.widen (k := 0) (n := 0) (Nat.le_of_ble_eq_true rfl) (Nat.le_of_ble_eq_true rfl) ?_
        exact W.vret hx hb hr (fun t ht hW => ⟨⟨(I1, T, A1, U), rfl, ⟨hfr, hfa, rfl, rfl, hal0, Or.inr ⟨h1, V, own, pown, bl, role, k9, q, pn, br, st, i29, hri, Or.inl ⟨c30, c4⟩⟩⟩, by dsimp only; rw [ht]; exact hP⟩, hS.F ht⟩) hS.2.2 d_Mo_settle_22
    · have hst : st t1 = 2 := hst
      refine lv_aload_n hx hb d_Mo_settle_0 rfl (lv_at hl 0 rfl) ?_
      refine m_g hx hb hts hown hK hP 9 (by decide) rfl (hts _ k_976) (v := .int 1) (congrArg Value.int h1) d_Mo_settle_1 ?_
      refine lv_iconst (v := 1) hx hb d_Mo_settle_4 (by decide) ?_
      refine lv_icmp_ne (tgt := 145) hx hb d_Mo_settle_5 (by decide) (fun c15 => absurd rfl c15) (fun _ => ?_)
      refine lv_aload_n hx hb d_Mo_settle_8 rfl (lv_at hl 0 rfl) ?_
      refine m_g hx hb hts hown hK hP 30 (by decide) rfl (hts _ k_997) (v := .int (Int32.ofNat t1)) (congrArg Value.int c30) d_Mo_settle_9 ?_
      refine lv_if_ge (tgt := 48) hx hb d_Mo_settle_12 (by decide) (fun c16 => ?_) (fun c16 => ?_)
      · have c16 : 0 ≤ t1 := (x_leN (a := 0) (b := t1) (by omega) (by omega)).mp c16
        obtain ⟨p20, p1001, pV, pown9, pin⟩ := hri.at ht1 hal
        refine lv_aload_n hx hb d_Mo_settle_48 rfl (lv_at hl 0 rfl) ?_
        refine m_g hx hb hts hown hK hP 30 (by decide) rfl (hts _ k_997) (v := .int (Int32.ofNat t1)) (congrArg Value.int c30) d_Mo_settle_49 ?_
        refine lv_istore_n (lv' := [(1, .int (Int32.ofNat t1)), (0, .ref h0)]) hx hb d_Mo_settle_52 rfl hl (by decide) rfl (fun ls hl => ?_)
        refine lv_aload_n hx hb d_Mo_settle_53 rfl (lv_at hl 1 rfl) ?_
        refine m_g hx hb hts hown hK hP 1 (by decide) rfl (hts _ k_968) (v := .ref (ad 1)) rfl d_Mo_settle_54 ?_
        refine lv_aload_n hx hb d_Mo_settle_57 rfl (lv_at hl 1 rfl) ?_
        refine m_g hx hb hts hown hK hP 20 (by decide) rfl (hts _ k_987) (v := .ref (ad 20)) rfl d_Mo_settle_58 ?_
        refine lv_iload_n hx hb d_Mo_settle_61 rfl (lv_at hl 0 rfl) ?_
        refine m_ld hx hb hK hP 12 rfl (by decide) (j := (Int32.ofNat t1)) (x_inN (by omega) (by decide)) d_Mo_settle_62 ?_
        refine W.eq (g2 := F0 m 63 ls [.int (Int32.ofNat (pn t1)), .ref (ad 1)]) (by rw [x_nat (a := t1) (by omega), show A1 20 t1 = (Int32.ofNat (pn t1)) from p20]) ?_
        refine m_ld hx hb hK hP 1 rfl (by decide) (j := (Int32.ofNat (pn t1))) (x_inN (by omega) (by decide)) d_Mo_settle_63 ?_
        refine W.eq (g2 := F0 m 64 ls [.int (A1 1 ((pn t1)))]) (by rw [x_nat (a := (pn t1)) (by omega)]) ?_
        refine lv_istore_n (lv' := [(2, .int (A1 1 ((pn t1)))), (1, .int (Int32.ofNat t1)), (0, .ref h0)]) hx hb d_Mo_settle_64 rfl hl (by decide) rfl (fun ls hl => ?_)
        refine lv_iload_n hx hb d_Mo_settle_65 rfl (lv_at hl 0 rfl) ?_
        refine lv_bipush (v := 10) hx hb d_Mo_settle_66 (by decide) ?_
        refine lv_icmp_ne (tgt := 93) hx hb d_Mo_settle_68 (by decide) (fun c17 => ?_) (fun c17 => ?_)
        · refine lv_iload_n hx hb d_Mo_settle_93 rfl (lv_at hl 0 rfl) ?_
          refine lv_bipush (v := 11) hx hb d_Mo_settle_94 (by decide) ?_
          refine lv_icmp_ne (tgt := 122) hx hb d_Mo_settle_96 (by decide) (fun c18 => ?_) (fun c18 => ?_)
          · refine lv_iload_n hx hb d_Mo_settle_122 rfl (lv_at hl 0 rfl) ?_
            refine lv_bipush (v := 12) hx hb d_Mo_settle_123 (by decide) ?_
            refine lv_icmp_ne (tgt := 141) hx hb d_Mo_settle_125 (by decide) (fun c19 => ?_) (fun c19 => ?_)
            · refine W.widen (k := 0) (n := 0) (Nat.le_of_ble_eq_true rfl) (Nat.le_of_ble_eq_true rfl) ?_
              exact W.vret hx hb hr (fun t ht hW => ⟨⟨(I1, T, A1, U), rfl, ⟨hfr, hfa, rfl, rfl, hal0, Or.inr ⟨h1, V, own, pown, bl, role, k9, q, pn, br, st, i29, hri, Or.inr ⟨t1, ht1, c30, hal, hst, c17, c18, c19⟩⟩⟩, by dsimp only; rw [ht]; exact hP⟩, hS.F ht⟩) hS.2.2 d_Mo_settle_141
            · have hend := m_set_end hri ht1 hal hst c19
              refine lv_aload_n hx hb d_Mo_settle_128 rfl (lv_at hl 2 rfl) ?_
              refine lv_iconst (v := (-1)) hx hb d_Mo_settle_129 (by decide) ?_
              refine m_p hx hb hts hown hK hP hD hS 30 (by decide) rfl (hts _ k_997) rfl (by decide +kernel) rfl (by decide) (x := (-1)) d_Mo_settle_130 (fun H locs hP hD hS => ?_)
              refine lv_aload_n hx hb d_Mo_settle_133 rfl (lv_at hl 2 rfl) ?_
              refine lv_iload_n hx hb d_Mo_settle_134 rfl (lv_at hl 1 rfl) ?_
              have hFc := m_free hD hS hA
              refine va_callv (va_runV (As := [.int (Int32.ofNat t1)]) (rest := []) ⟨hx, hb, hml, hown, hts⟩ (m_finish l dC dI ar N0 z h0 ad (upd I1 30 (-1)) T A1 U q t1 H.size i29 ht1 hend.1) (cwV 1 hts (x_goodV k_1213 k_1215 kp_68 k_9 k_1216) rfl rfl rfl (by decide +kernel) ⟨Nat.le_of_ble_eq_true rfl, Nat.le_of_ble_eq_true rfl⟩) ⟨x_blind, va_recv hK hP (ci := 6) (q0 := 0) rfl rfl, fun U9 hU9 hW9 => x_pre hU9 hW9 hP hD hU hZ hS hAN hN0⟩ rfl rfl hl.1 rfl (lv_room (Nat.le_of_ble_eq_true rfl)) d_Mo_settle_135 ⟨Nat.le_of_ble_eq_true rfl, Nat.le_of_ble_eq_true rfl⟩) hS (fun q _ h => hFc q h) hFc (fun u t H1 locs ht hvm hw hB hz1 hk1 hS => ?_)
              obtain ⟨I21, T21, A21, U21⟩ := u
              dsimp only at hw hB
              rw [ht] at hB
              have hP : va_P (dC, dI) x_cl (m_W h0 ad ar I21 T21 A21 U21) H1 := hB
              have hD : va_D Bq (m_W h0 ad ar I21 T21 A21 U21) := m_D hD
              generalize H1 = H at hP hS ⊢
              refine W.widen (k := 0) (n := 0) (Nat.le_of_ble_eq_true rfl) (Nat.le_of_ble_eq_true rfl) ?_
              rcases hw with ⟨h8, h9⟩ | ⟨p9, k8, hp9, h21, h22, hk81, hk90, ⟨e8, h9⟩ | ⟨e8, h9⟩⟩
              · cases h9
                refine lv_goto (tgt := 142) hx hb d_Mo_settle_138 (by decide) ?_
                refine lv_goto (tgt := 0) hx hb d_Mo_settle_142 (by decide) ?_
                exact ih (n - 1) (by have := hend.2.2; omega) H locs ls ⟨(upd (upd I1 30 (-1)) 9 2), (m_up A1 27 (upd (A1 27) t1 0)), ((hfr.up (by decide) _).up (by decide) _), (hfa.up (by decide) _), (fun x hx => hal0 x (fun h9 => hx (if e : x = t1 then (by show upd (A1 27) t1 0 x = 0; rw [e, upd_s]) else (by show upd (A1 27) t1 0 x = 0; rw [upd_n e]; exact h9)))), Or.inl rfl, hP, hD, hS, lv_sub hl [2] rfl⟩
              · cases h9
                refine lv_goto (tgt := 142) hx hb d_Mo_settle_138 (by decide) ?_
                refine lv_goto (tgt := 0) hx hb d_Mo_settle_142 (by decide) ?_
                exact ih (m_ms (A1 1) (upd (A1 27) t1 0) pn 90) (by rw [hms]; exact hend.2.2) H locs ls ⟨(upd (upd I1 30 (-1)) 29 (Int32.ofNat (q + 1))), (m_up (m_up (m_up A1 27 (upd (A1 27) t1 0)) 22 (upd (A1 22) p9 (Int32.ofNat (k8 - 1)))) 24 (upd (A1 24) q (Int32.ofNat p9))), ((hfr.up (by decide) _).up (by decide) _), (((hfa.up (by decide) _).up (by decide) _).up (by decide) _), (fun x hx => hal0 x (fun h9 => hx (if e : x = t1 then (by show upd (A1 27) t1 0 x = 0; rw [e, upd_s]) else (by show upd (A1 27) t1 0 x = 0; rw [upd_n e]; exact h9)))), Or.inr ⟨h1, V, own, pown, bl, role, k9, q + 1, pn, br, _, rfl, rfl, (hend.2.1 p9 k8 hp9 h21 h22 hk90).1 e8, Or.inl rfl⟩, hP, hD, hS, lv_sub hl [2] rfl⟩
              · cases h9
                refine lv_goto (tgt := 142) hx hb d_Mo_settle_138 (by decide) ?_
                refine lv_goto (tgt := 0) hx hb d_Mo_settle_142 (by decide) ?_
                exact ih (m_ms (A1 1) (upd (A1 27) t1 0) pn 90) (by rw [hms]; exact hend.2.2) H locs ls ⟨(upd I1 30 (-1)), (m_up (m_up A1 27 (upd (A1 27) t1 0)) 22 (upd (A1 22) p9 (Int32.ofNat (k8 - 1)))), (hfr.up (by decide) _), ((hfa.up (by decide) _).up (by decide) _), (fun x hx => hal0 x (fun h9 => hx (if e : x = t1 then (by show upd (A1 27) t1 0 x = 0; rw [e, upd_s]) else (by show upd (A1 27) t1 0 x = 0; rw [upd_n e]; exact h9)))), Or.inr ⟨h1, V, own, pown, bl, role, k9, q, pn, br, _, rfl, i29, (hend.2.1 p9 k8 hp9 h21 h22 hk90).2 e8, Or.inl rfl⟩, hP, hD, hS, lv_sub hl [2] rfl⟩
          · obtain ⟨hq9, hri2, hms2⟩ := m_set_yield hri ht1 hal hst c18
            refine lv_aload_n hx hb d_Mo_settle_99 rfl (lv_at hl 2 rfl) ?_
            refine m_g hx hb hts hown hK hP 20 (by decide) rfl (hts _ k_987) (v := .ref (ad 20)) rfl d_Mo_settle_100 ?_
            refine lv_iload_n hx hb d_Mo_settle_103 rfl (lv_at hl 1 rfl) ?_
            refine lv_dup2_11 hx hb d_Mo_settle_104 rfl rfl ?_
            refine m_ld hx hb hK hP 12 rfl (by decide) (j := (Int32.ofNat t1)) (x_inN (by omega) (by decide)) d_Mo_settle_105 ?_
            refine W.eq (g2 := F0 m 106 ls [.int (Int32.ofNat (pn t1)), .int (Int32.ofNat t1), .ref (ad 20)]) (by rw [x_nat (a := t1) (by omega), show A1 20 t1 = (Int32.ofNat (pn t1)) from p20]) ?_
            refine lv_iconst (v := 1) hx hb d_Mo_settle_106 (by decide) ?_
            refine lv_iadd hx hb d_Mo_settle_107 ?_
            refine W.eq (g2 := F0 m 108 ls [.int (Int32.ofNat ((pn t1) + 1)), .int (Int32.ofNat t1), .ref (ad 20)]) (by rw [← x_addN (a := (pn t1)) (b := 1)] <;> rfl) ?_
            refine m_st hx hb hK hP hD hS 12 rfl (by decide) (j := (Int32.ofNat t1)) (x := (Int32.ofNat ((pn t1) + 1))) (x_inN (by omega) (by decide)) d_Mo_settle_108 (fun H locs hP hD hS => ?_)
            rw [x_nat (a := t1) (by omega)] at hP hD
            have hP : va_P (dC, dI) x_cl (m_W h0 ad ar I1 T (m_up A1 20 (upd (A1 20) t1 (Int32.ofNat ((pn t1) + 1)))) U) H := hP
            have hD : va_D Bq (m_W h0 ad ar I1 T (m_up A1 20 (upd (A1 20) t1 (Int32.ofNat ((pn t1) + 1)))) U) := hD
            refine lv_aload_n hx hb d_Mo_settle_109 rfl (lv_at hl 2 rfl) ?_
            refine lv_iload_n hx hb d_Mo_settle_110 rfl (lv_at hl 1 rfl) ?_
            have hFc := m_free hD hS hA
            refine va_callv (va_runV (As := [.int (Int32.ofNat t1)]) (rest := []) ⟨hx, hb, hml, hown, hts⟩ (m_put l dC dI ar N0 z h0 ad I1 T (m_up A1 20 (upd (A1 20) t1 (Int32.ofNat ((pn t1) + 1)))) U q ((Int32.ofNat t1)) H.size i29 (by omega)) (cwV 1 hts (x_goodV k_1194 k_1196 kp_65 k_9 k_1197) rfl rfl rfl (by decide +kernel) ⟨Nat.le_of_ble_eq_true rfl, Nat.le_of_ble_eq_true rfl⟩) ⟨x_blind, va_recv hK hP (ci := 6) (q0 := 0) rfl rfl, fun U9 hU9 hW9 => x_pre hU9 hW9 hP hD hU hZ hS hAN hN0⟩ rfl rfl hl.1 rfl (lv_room (Nat.le_of_ble_eq_true rfl)) d_Mo_settle_111 ⟨Nat.le_of_ble_eq_true rfl, Nat.le_of_ble_eq_true rfl⟩) hS (fun q _ h => hFc q h) hFc (fun u t H1 locs ht hvm hw hB hz1 hk1 hS => ?_)
            obtain ⟨I23, T23, A23, U23⟩ := u
            dsimp only at hw hB
            rw [ht] at hB
            have hP : va_P (dC, dI) x_cl (m_W h0 ad ar I23 T23 A23 U23) H1 := hB
            have hD : va_D Bq (m_W h0 ad ar I23 T23 A23 U23) := m_D hD
            generalize H1 = H at hP hS ⊢
            refine W.widen (k := 0) (n := 0) (Nat.le_of_ble_eq_true rfl) (Nat.le_of_ble_eq_true rfl) ?_
            cases hw
            have hP : va_P (dC, dI) x_cl (m_W h0 ad ar (upd I1 29 (Int32.ofNat (q + 1))) T (m_up (m_up A1 20 (upd (A1 20) t1 (Int32.ofNat ((pn t1) + 1)))) 24 (upd (A1 24) q (Int32.ofNat t1))) U) H := hP
            have hD : va_D Bq (m_W h0 ad ar (upd I1 29 (Int32.ofNat (q + 1))) T (m_up (m_up A1 20 (upd (A1 20) t1 (Int32.ofNat ((pn t1) + 1)))) 24 (upd (A1 24) q (Int32.ofNat t1))) U) := hD
            refine lv_aload_n hx hb d_Mo_settle_114 rfl (lv_at hl 2 rfl) ?_
            refine lv_iconst (v := (-1)) hx hb d_Mo_settle_115 (by decide) ?_
            refine m_p hx hb hts hown hK hP hD hS 30 (by decide) rfl (hts _ k_997) rfl (by decide +kernel) rfl (by decide) (x := (-1)) d_Mo_settle_116 (fun H locs hP hD hS => ?_)
            refine lv_goto (tgt := 142) hx hb d_Mo_settle_119 (by decide) ?_
            refine lv_goto (tgt := 0) hx hb d_Mo_settle_142 (by decide) ?_
            exact ih (m_ms (A1 1) (A1 27) (fun y => if y = t1 then pn t1 + 1 else pn y) 90) (by rw [hms]; exact hms2) H locs ls ⟨(upd (upd I1 29 (Int32.ofNat (q + 1))) 30 (-1)), (m_up (m_up A1 20 (upd (A1 20) t1 (Int32.ofNat ((pn t1) + 1)))) 24 (upd (A1 24) q (Int32.ofNat t1))), ((hfr.up (by decide) _).up (by decide) _), ((hfa.up (by decide) _).up (by decide) _), hal0, Or.inr ⟨h1, V, own, pown, bl, role, k9, q + 1, _, br, _, rfl, rfl, hri2, Or.inl rfl⟩, hP, hD, hS, lv_sub hl [2] rfl⟩
        · obtain ⟨x9, hx9, ex9, hri2, hms2⟩ := m_set_jump hri ht1 hal c17
          refine lv_aload_n hx hb d_Mo_settle_71 rfl (lv_at hl 2 rfl) ?_
          refine m_g hx hb hts hown hK hP 20 (by decide) rfl (hts _ k_987) (v := .ref (ad 20)) rfl d_Mo_settle_72 ?_
          refine lv_iload_n hx hb d_Mo_settle_75 rfl (lv_at hl 1 rfl) ?_
          refine lv_aload_n hx hb d_Mo_settle_76 rfl (lv_at hl 2 rfl) ?_
          refine m_g hx hb hts hown hK hP 1 (by decide) rfl (hts _ k_968) (v := .ref (ad 1)) rfl d_Mo_settle_77 ?_
          refine lv_aload_n hx hb d_Mo_settle_80 rfl (lv_at hl 2 rfl) ?_
          refine m_g hx hb hts hown hK hP 20 (by decide) rfl (hts _ k_987) (v := .ref (ad 20)) rfl d_Mo_settle_81 ?_
          refine lv_iload_n hx hb d_Mo_settle_84 rfl (lv_at hl 1 rfl) ?_
          refine m_ld hx hb hK hP 12 rfl (by decide) (j := (Int32.ofNat t1)) (x_inN (by omega) (by decide)) d_Mo_settle_85 ?_
          refine W.eq (g2 := F0 m 86 ls [.int (Int32.ofNat (pn t1)), .ref (ad 1), .int (Int32.ofNat t1), .ref (ad 20)]) (by rw [x_nat (a := t1) (by omega), show A1 20 t1 = (Int32.ofNat (pn t1)) from p20]) ?_
          refine lv_iconst (v := 1) hx hb d_Mo_settle_86 (by decide) ?_
          refine lv_iadd hx hb d_Mo_settle_87 ?_
          refine W.eq (g2 := F0 m 88 ls [.int (Int32.ofNat ((pn t1) + 1)), .ref (ad 1), .int (Int32.ofNat t1), .ref (ad 20)]) (by rw [← x_addN (a := (pn t1)) (b := 1)] <;> rfl) ?_
          refine m_ld hx hb hK hP 1 rfl (by decide) (j := (Int32.ofNat ((pn t1) + 1))) (x_inN (by omega) (by decide)) d_Mo_settle_88 ?_
          refine W.eq (g2 := F0 m 89 ls [.int (Int32.ofNat x9), .int (Int32.ofNat t1), .ref (ad 20)]) (by rw [x_nat (a := ((pn t1) + 1)) (by omega), show A1 1 (((pn t1) + 1)) = (Int32.ofNat x9) from ex9]) ?_
          refine m_st hx hb hK hP hD hS 12 rfl (by decide) (j := (Int32.ofNat t1)) (x := (Int32.ofNat x9)) (x_inN (by omega) (by decide)) d_Mo_settle_89 (fun H locs hP hD hS => ?_)
          rw [x_nat (a := t1) (by omega)] at hP hD
          have hP : va_P (dC, dI) x_cl (m_W h0 ad ar I1 T (m_up A1 20 (upd (A1 20) t1 (Int32.ofNat x9))) U) H := hP
          have hD : va_D Bq (m_W h0 ad ar I1 T (m_up A1 20 (upd (A1 20) t1 (Int32.ofNat x9))) U) := hD
          refine lv_goto (tgt := 142) hx hb d_Mo_settle_90 (by decide) ?_
          refine lv_goto (tgt := 0) hx hb d_Mo_settle_142 (by decide) ?_
          exact ih (m_ms (A1 1) (A1 27) (fun y => if y = t1 then x9 else pn y) 90) (by rw [hms]; exact hms2) H locs ls ⟨I1, (m_up A1 20 (upd (A1 20) t1 (Int32.ofNat x9))), hfr, (hfa.up (by decide) _), hal0, Or.inr ⟨h1, V, own, pown, bl, role, k9, q, _, br, st, rfl, i29, hri2, Or.inr ⟨t1, ht1, c30, hal, hst⟩⟩, hP, hD, hS, lv_sub hl [2] rfl⟩
      · have c16 : ¬ 0 ≤ t1 := fun h9 => c16 ((x_leN (a := 0) (b := t1) (by omega) (by omega)).mpr h9)
        exact absurd (Nat.zero_le _) c16
