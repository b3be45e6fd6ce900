-- ===== 58.par: parallel of the reference, by program =====
theorem k_1190 : (Jvm.Cond.methodLink "ChannelMachineModel" (211 : Nat) ({ cls := "ChannelMachineModel", name := "make", desc := "(II)V" } : Jvm.MethodName)) ∈ x_T := x_at 1190 (by decide +kernel) (by decide +kernel)
theorem k_1192 : (Jvm.Cond.instanceMethod ({ cls := "ChannelMachineModel", name := "make", desc := "(II)V" } : Jvm.MethodName)) ∈ x_T := x_at 1192 (by decide +kernel) (by decide +kernel)
theorem k_1193 : (Jvm.Cond.code ({ cls := "ChannelMachineModel", name := "make", desc := "(II)V" } : Jvm.MethodName) prog_12_method_25_code (4 : Nat) (Option.none : Option Jvm.ClassFile.FieldType)) ∈ x_T := x_at 1193 (by decide +kernel) (by decide +kernel)
theorem kp_64 : (Jvm.Cond.selects "ChannelMachineModel" ({ cls := "ChannelMachineModel", name := "make", desc := "(II)V" } : Jvm.MethodName) ({ cls := "ChannelMachineModel", name := "make", desc := "(II)V" } : Jvm.MethodName)) ∈ x_T := x_sel (q := (({ cls := "ChannelMachineModel", name := "make", desc := "(II)V" } : Jvm.MethodName), 45)) 64 (by decide +kernel) (by decide +kernel)
theorem d_Mo_parallel_0 : decode prog_12_method_39_code 0 = .ok (.aload_n 0, 1) := by decide +kernel
theorem d_Mo_parallel_1 : decode prog_12_method_39_code 1 = .ok (.getfield 13, 3) := by decide +kernel
theorem d_Mo_parallel_4 : decode prog_12_method_39_code 4 = .ok (.iload_n 2, 1) := by decide +kernel
theorem d_Mo_parallel_5 : decode prog_12_method_39_code 5 = .ok (.iconst 1, 1) := by decide +kernel
theorem d_Mo_parallel_6 : decode prog_12_method_39_code 6 = .ok (.iadd, 1) := by decide +kernel
theorem d_Mo_parallel_7 : decode prog_12_method_39_code 7 = .ok (.iaload, 1) := by decide +kernel
theorem d_Mo_parallel_8 : decode prog_12_method_39_code 8 = .ok (.istore_n 3, 1) := by decide +kernel
theorem d_Mo_parallel_9 : decode prog_12_method_39_code 9 = .ok (.aload_n 0, 1) := by decide +kernel
theorem d_Mo_parallel_10 : decode prog_12_method_39_code 10 = .ok (.getfield 51, 3) := by decide +kernel
theorem d_Mo_parallel_13 : decode prog_12_method_39_code 13 = .ok (.iload_n 1, 1) := by decide +kernel
theorem d_Mo_parallel_14 : decode prog_12_method_39_code 14 = .ok (.aload_n 0, 1) := by decide +kernel
theorem d_Mo_parallel_15 : decode prog_12_method_39_code 15 = .ok (.getfield 13, 3) := by decide +kernel
theorem d_Mo_parallel_18 : decode prog_12_method_39_code 18 = .ok (.iload_n 2, 1) := by decide +kernel
theorem d_Mo_parallel_19 : decode prog_12_method_39_code 19 = .ok (.bipush 6, 2) := by decide +kernel
theorem d_Mo_parallel_21 : decode prog_12_method_39_code 21 = .ok (.iadd, 1) := by decide +kernel
theorem d_Mo_parallel_22 : decode prog_12_method_39_code 22 = .ok (.iaload, 1) := by decide +kernel
theorem d_Mo_parallel_23 : decode prog_12_method_39_code 23 = .ok (.iastore, 1) := by decide +kernel
theorem d_Mo_parallel_24 : decode prog_12_method_39_code 24 = .ok (.iconst 0, 1) := by decide +kernel
theorem d_Mo_parallel_25 : decode prog_12_method_39_code 25 = .ok (.istore 4, 2) := by decide +kernel
theorem d_Mo_parallel_27 : decode prog_12_method_39_code 27 = .ok (.iload 4, 2) := by decide +kernel
theorem d_Mo_parallel_29 : decode prog_12_method_39_code 29 = .ok (.iload_n 3, 1) := by decide +kernel
theorem d_Mo_parallel_30 : decode prog_12_method_39_code 30 = .ok (.if_icmp .ge 59, 3) := by decide +kernel
theorem d_Mo_parallel_33 : decode prog_12_method_39_code 33 = .ok (.aload_n 0, 1) := by decide +kernel
theorem d_Mo_parallel_34 : decode prog_12_method_39_code 34 = .ok (.getfield 13, 3) := by decide +kernel
theorem d_Mo_parallel_37 : decode prog_12_method_39_code 37 = .ok (.aload_n 0, 1) := by decide +kernel
theorem d_Mo_parallel_38 : decode prog_12_method_39_code 38 = .ok (.getfield 13, 3) := by decide +kernel
theorem d_Mo_parallel_41 : decode prog_12_method_39_code 41 = .ok (.iload_n 2, 1) := by decide +kernel
theorem d_Mo_parallel_42 : decode prog_12_method_39_code 42 = .ok (.iconst 2, 1) := by decide +kernel
theorem d_Mo_parallel_43 : decode prog_12_method_39_code 43 = .ok (.iadd, 1) := by decide +kernel
theorem d_Mo_parallel_44 : decode prog_12_method_39_code 44 = .ok (.iload 4, 2) := by decide +kernel
theorem d_Mo_parallel_46 : decode prog_12_method_39_code 46 = .ok (.iadd, 1) := by decide +kernel
theorem d_Mo_parallel_47 : decode prog_12_method_39_code 47 = .ok (.iaload, 1) := by decide +kernel
theorem d_Mo_parallel_48 : decode prog_12_method_39_code 48 = .ok (.iaload, 1) := by decide +kernel
theorem d_Mo_parallel_49 : decode prog_12_method_39_code 49 = .ok (.bipush 12, 2) := by decide +kernel
theorem d_Mo_parallel_51 : decode prog_12_method_39_code 51 = .ok (.if_icmp .ne 6, 3) := by decide +kernel
theorem d_Mo_parallel_54 : decode prog_12_method_39_code 54 = .ok (.goto 29, 3) := by decide +kernel
theorem d_Mo_parallel_57 : decode prog_12_method_39_code 57 = .ok (.aload_n 0, 1) := by decide +kernel
theorem d_Mo_parallel_58 : decode prog_12_method_39_code 58 = .ok (.getfield 57, 3) := by decide +kernel
theorem d_Mo_parallel_61 : decode prog_12_method_39_code 61 = .ok (.iload_n 1, 1) := by decide +kernel
theorem d_Mo_parallel_62 : decode prog_12_method_39_code 62 = .ok (.dup2, 1) := by decide +kernel
theorem d_Mo_parallel_63 : decode prog_12_method_39_code 63 = .ok (.iaload, 1) := by decide +kernel
theorem d_Mo_parallel_64 : decode prog_12_method_39_code 64 = .ok (.iconst 1, 1) := by decide +kernel
theorem d_Mo_parallel_65 : decode prog_12_method_39_code 65 = .ok (.iadd, 1) := by decide +kernel
theorem d_Mo_parallel_66 : decode prog_12_method_39_code 66 = .ok (.iastore, 1) := by decide +kernel
theorem d_Mo_parallel_67 : decode prog_12_method_39_code 67 = .ok (.aload_n 0, 1) := by decide +kernel
theorem d_Mo_parallel_68 : decode prog_12_method_39_code 68 = .ok (.aload_n 0, 1) := by decide +kernel
theorem d_Mo_parallel_69 : decode prog_12_method_39_code 69 = .ok (.getfield 13, 3) := by decide +kernel
theorem d_Mo_parallel_72 : decode prog_12_method_39_code 72 = .ok (.iload_n 2, 1) := by decide +kernel
theorem d_Mo_parallel_73 : decode prog_12_method_39_code 73 = .ok (.iconst 2, 1) := by decide +kernel
theorem d_Mo_parallel_74 : decode prog_12_method_39_code 74 = .ok (.iadd, 1) := by decide +kernel
theorem d_Mo_parallel_75 : decode prog_12_method_39_code 75 = .ok (.iload 4, 2) := by decide +kernel
theorem d_Mo_parallel_77 : decode prog_12_method_39_code 77 = .ok (.iadd, 1) := by decide +kernel
theorem d_Mo_parallel_78 : decode prog_12_method_39_code 78 = .ok (.iaload, 1) := by decide +kernel
theorem d_Mo_parallel_79 : decode prog_12_method_39_code 79 = .ok (.iload_n 1, 1) := by decide +kernel
theorem d_Mo_parallel_80 : decode prog_12_method_39_code 80 = .ok (.invokevirtual 211, 3) := by decide +kernel
theorem d_Mo_parallel_83 : decode prog_12_method_39_code 83 = .ok (.iinc 4 1, 3) := by decide +kernel
theorem d_Mo_parallel_86 : decode prog_12_method_39_code 86 = .ok (.goto (-59), 3) := by decide +kernel
theorem d_Mo_parallel_89 : decode prog_12_method_39_code 89 = .ok (.aload_n 0, 1) := by decide +kernel
theorem d_Mo_parallel_90 : decode prog_12_method_39_code 90 = .ok (.getfield 57, 3) := by decide +kernel
theorem d_Mo_parallel_93 : decode prog_12_method_39_code 93 = .ok (.iload_n 1, 1) := by decide +kernel
theorem d_Mo_parallel_94 : decode prog_12_method_39_code 94 = .ok (.iaload, 1) := by decide +kernel
theorem d_Mo_parallel_95 : decode prog_12_method_39_code 95 = .ok (.ifCond .le 8, 3) := by decide +kernel
theorem d_Mo_parallel_98 : decode prog_12_method_39_code 98 = .ok (.aload_n 0, 1) := by decide +kernel
theorem d_Mo_parallel_99 : decode prog_12_method_39_code 99 = .ok (.iconst (-1), 1) := by decide +kernel
theorem d_Mo_parallel_100 : decode prog_12_method_39_code 100 = .ok (.putfield 79, 3) := by decide +kernel
theorem d_Mo_parallel_103 : decode prog_12_method_39_code 103 = .ok (.return_, 1) := by decide +kernel
set_option maxHeartbeats 4000000 in
set_option maxRecDepth 100000 in
theorem m_parallel (l : Launch) (dC : Nat → ClassId) (dI : Nat → Nat → Nat) (ar : Nat → ClassId) (N0 : Nat) (z : Nat → Nat) (h0 : Nat) (ad : Nat → Nat) (I : Nat → Int32) (T : Int64) (A : Nat → Nat → Int32) (U : Nat → Int64) (V : Nat → Prop) (own pown : Nat → Nat) (bl : List Nat) (role : Nat → Nat) (k9 q : Nat) (pn br st : Nat → Nat) (tt pp nn x6 : Nat) (ys : Nat → Nat) (sz : Nat) (h29 : I 29 = Int32.ofNat q) (h30 : I 30 = Int32.ofNat tt) (hri : m_RI A q V own pown bl role k9 pn br st) (htt : tt < 90) (hal : m_al A tt) (hst : st tt = 0) (hk : m_kc (A 27) (A 21) tt 90 = 0) (hp9 : pp < 1001) (hn : A 1 (pp + 1) = Int32.ofNat nn) (hnn : nn ≤ 4) (hys : ∀ k, k < nn → A 1 (pp + 2 + k) = Int32.ofNat (ys k) ∧ V (ys k) ∧ own (ys k) = ys k ∧ pown (ys k) = br tt ∧ ys k ∈ bl ∧ 0 < ys k ∧ ys k < 1001) (hdis : ∀ k k', k < nn → k' < nn → k ≠ k' → ys k ≠ ys k') (h6x : A 1 (pp + 6) = Int32.ofNat x6) (hV6 : V x6) (ho6 : own x6 = br tt) : Met l ({ cls := "ChannelMachineModel", name := "parallel", desc := "(II)V" } : Jvm.MethodName) ((Jvm.Cond.code ({ cls := "ChannelMachineModel", name := "parallel", desc := "(II)V" } : Jvm.MethodName) prog_12_method_39_code (5 : Nat) (Option.none : Option Jvm.ClassFile.FieldType)) :: x_T) ({ frames := 2, cells := 0, slots := 0, locals := 44 }) (x_Pc (dC, dI) ar N0 z (m_W h0 ad ar I T A U) sz [.ref h0, .int (Int32.ofNat tt), .int (Int32.ofNat pp)]) (va_Qv (fun (u : (Nat → Int32) × Int64 × (Nat → Nat → Int32) × (Nat → Int64)) => m_fr [29, 30] I u.1 ∧ m_fa [20, 21, 22, 24, 27, 28] A u.2.2.1 ∧ u.2.1 = T ∧ u.2.2.2 = U ∧ m_RUN u.1 u.2.2.1) (fun u t => va_P (dC, dI) x_cl (m_W h0 ad ar u.1 u.2.1 u.2.2.1 u.2.2.2) t.heap) (va_A (m_W h0 ad ar I T A U) sz)) 0 0 (va_A (m_W h0 ad ar I T A U) sz) := by
  refine Met.ofW (cc := prog_12_method_39_code) (maxL := 5) (ret := none) (by decide) rfl ?_
  intro p e s m args below meth c s₁ B hml hv
  obtain ⟨rfl, hsz, hN0, hP, hU, hZ, hD0⟩ := hv
  have hK := hU.1
  have hx := B.exec
  have hb := B.bytes
  have hr := B.returns
  have hts : ∀ w ∈ x_T, w.before ([.ref h0, .int (Int32.ofNat tt), .int (Int32.ofNat pp)] : List Value).toArray s = true := fun w h => atoms_spec (ws := (Jvm.Cond.code ({ cls := "ChannelMachineModel", name := "parallel", desc := "(II)V" } : Jvm.MethodName) prog_12_method_39_code (5 : Nat) (Option.none : Option Jvm.ClassFile.FieldType)) :: x_T) B.pre w (List.mem_cons_of_mem _ h)
  have hown : s.vm.findClass "ChannelMachineModel" = some m.cls := findClass_of_methodNamed B.named
  have hlocks := B.notSynchronized
  subst hsz
  have hD := hD0.self (sz := s.heap.size)
  have hAN := x_AN hD0 hN0
  generalize hAe : va_A (m_W h0 ad ar I T A U) s.heap.size = Bq at hD hAN ⊢
  have hA : ∀ q : Nat, s.heap.size ≤ q → Bq q := fun q h => by rw [← hAe]; exact Or.inr h
  have hS : va_S Bq s.heap s.heap [] := va_S.rf
  have hl := lv_entry ([.ref h0, .int (Int32.ofNat tt), .int (Int32.ofNat pp)]) (n := 5) (Nat.le_of_ble_eq_true rfl)
  rw [lg_entry_eq]
  generalize (lg_sl ([.ref h0, .int (Int32.ofNat tt), .int (Int32.ofNat pp)]) ++ List.replicate (5 - (lg_sl ([.ref h0, .int (Int32.ofNat tt), .int (Int32.ofNat pp)])).length) Slot.unset).toArray = ls at hl ⊢
  have hl : lv_has ls 5 [(0, .ref h0), (1, .int (Int32.ofNat tt)), (2, .int (Int32.ofNat pp))] := hl
  refine lv_aload_n hx hb d_Mo_parallel_0 rfl (lv_at hl 0 rfl) ?_
  refine m_g hx hb hts hown hK hP 1 (by decide) rfl (hts _ k_968) (v := .ref (ad 1)) rfl d_Mo_parallel_1 ?_
  refine lv_iload_n hx hb d_Mo_parallel_4 rfl (lv_at hl 2 rfl) ?_
  refine lv_iconst (v := 1) hx hb d_Mo_parallel_5 (by decide) ?_
  refine lv_iadd hx hb d_Mo_parallel_6 ?_
  refine W.eq (g2 := F0 m 7 ls [.int (Int32.ofNat (pp + 1)), .ref (ad 1)]) (by rw [← x_addN (a := pp) (b := 1)] <;> rfl) ?_
  refine m_ld hx hb hK hP 1 rfl (by decide) (j := (Int32.ofNat (pp + 1))) (x_inN (by omega) (by decide)) d_Mo_parallel_7 ?_
  refine W.eq (g2 := F0 m 8 ls [.int (Int32.ofNat nn)]) (by rw [x_nat (a := (pp + 1)) (by omega), show A 1 ((pp + 1)) = (Int32.ofNat nn) from hn]) ?_
  refine lv_istore_n (lv' := [(3, .int (Int32.ofNat nn)), (0, .ref h0), (1, .int (Int32.ofNat tt)), (2, .int (Int32.ofNat pp))]) hx hb d_Mo_parallel_8 rfl hl (by decide) rfl (fun ls hl => ?_)
  refine lv_aload_n hx hb d_Mo_parallel_9 rfl (lv_at hl 1 rfl) ?_
  refine m_g hx hb hts hown hK hP 20 (by decide) rfl (hts _ k_987) (v := .ref (ad 20)) rfl d_Mo_parallel_10 ?_
  refine lv_iload_n hx hb d_Mo_parallel_13 rfl (lv_at hl 2 rfl) ?_
  refine lv_aload_n hx hb d_Mo_parallel_14 rfl (lv_at hl 1 rfl) ?_
  refine m_g hx hb hts hown hK hP 1 (by decide) rfl (hts _ k_968) (v := .ref (ad 1)) rfl d_Mo_parallel_15 ?_
  refine lv_iload_n hx hb d_Mo_parallel_18 rfl (lv_at hl 3 rfl) ?_
  refine lv_bipush (v := 6) hx hb d_Mo_parallel_19 (by decide) ?_
  refine lv_iadd hx hb d_Mo_parallel_21 ?_
  refine W.eq (g2 := F0 m 22 ls [.int (Int32.ofNat (pp + 6)), .ref (ad 1), .int (Int32.ofNat tt), .ref (ad 20)]) (by rw [← x_addN (a := pp) (b := 6)] <;> rfl) ?_
  refine m_ld hx hb hK hP 1 rfl (by decide) (j := (Int32.ofNat (pp + 6))) (x_inN (by omega) (by decide)) d_Mo_parallel_22 ?_
  refine W.eq (g2 := F0 m 23 ls [.int (Int32.ofNat x6), .int (Int32.ofNat tt), .ref (ad 20)]) (by rw [x_nat (a := (pp + 6)) (by omega), show A 1 ((pp + 6)) = (Int32.ofNat x6) from h6x]) ?_
  refine m_st hx hb hK hP hD hS 12 rfl (by decide) (j := (Int32.ofNat tt)) (x := (Int32.ofNat x6)) (x_inN (by omega) (by decide)) d_Mo_parallel_23 (fun H locs hP hD hS => ?_)
  rw [x_nat (a := tt) (by omega)] at hP hD
  have hP : va_P (dC, dI) x_cl (m_W h0 ad ar I T (m_up A 20 (upd (A 20) tt (Int32.ofNat x6))) U) H := hP
  have hD : va_D Bq (m_W h0 ad ar I T (m_up A 20 (upd (A 20) tt (Int32.ofNat x6))) U) := hD
  refine lv_iconst (v := 0) hx hb d_Mo_parallel_24 (by decide) ?_
  refine W.eq (g2 := F0 m 25 ls [.int (Int32.ofNat 0)]) rfl ?_
  refine lv_istore (lv' := [(4, .int (Int32.ofNat 0)), (3, .int (Int32.ofNat nn)), (0, .ref h0), (1, .int (Int32.ofNat tt)), (2, .int (Int32.ofNat pp))]) hx hb d_Mo_parallel_25 hl (by decide) rfl (fun ls hl => ?_)
  refine x_while (fun n H locs ls => ∃ (I1 : Nat → Int32) (A1 : Nat → Nat → Int32) (i1 q : Nat) (pn br1 st : Nat → Nat), n = nn - i1 ∧ i1 ≤ nn ∧ m_fr [29] I I1 ∧ m_fa [20, 21, 22, 24, 27, 28] A A1 ∧ I1 29 = Int32.ofNat q ∧ m_RI A1 q V own pown bl role k9 pn br1 st ∧ m_al A1 tt ∧ st tt = 0 ∧ br1 tt = br tt ∧ (∀ k, i1 ≤ k → k < nn → ∀ x, x < 90 → m_al A1 x → br1 x ≠ ys k) ∧ va_P (dC, dI) x_cl (m_W h0 ad ar I1 T A1 U) H ∧ va_D Bq (m_W h0 ad ar I1 T A1 U) ∧ va_S Bq s.heap H locs ∧ lv_has ls 5 [(0, .ref h0), (1, .int (Int32.ofNat tt)), (2, .int (Int32.ofNat pp)), (3, .int (Int32.ofNat nn)), (4, .int (Int32.ofNat i1))]) (fun n ih H locs ls h9 => ?_) ⟨I, (m_up A 20 (upd (A 20) tt (Int32.ofNat x6))), 0, q, _, br, st, rfl, Nat.zero_le _, m_fr.rf, (m_fa.rf.up (by decide) _), h29, hri.pc (t := tt) hV6 ho6, hal, hst, rfl, fun k _ hk2 x hx hax => hri.nobr htt hal hk (hys k hk2).2.2.2.2.2.1 (hys k hk2).2.2.2.1 x hx hax, hP, hD, hS, lv_sub hl [2, 3, 4, 1, 0] rfl⟩
  obtain ⟨I1, A1, i1, q, pn, br1, st, hn9, q1, hfr, hfa, i29, hri, hal, hst, hbr, hno, hP, hD, hS, hl⟩ := h9
  refine lv_iload hx hb d_Mo_parallel_27 (lv_at hl 4 rfl) ?_
  refine lv_iload_n hx hb d_Mo_parallel_29 rfl (lv_at hl 3 rfl) ?_
  refine lv_icmp_ge (tgt := 89) hx hb d_Mo_parallel_30 (by decide) (fun c_1 => ?_) (fun c_1 => ?_)
  · have c_1 : nn ≤ i1 := (x_leN (a := nn) (b := i1) (by omega) (by omega)).mp c_1
    refine lv_aload_n hx hb d_Mo_parallel_89 rfl (lv_at hl 0 rfl) ?_
    have hkle : (m_kc (A1 27) (A1 21) tt 90) ≤ 90 := m_kc_le 90
    refine m_g hx hb hts hown hK hP 22 (by decide) rfl (hts _ k_989) (v := .ref (ad 22)) rfl d_Mo_parallel_90 ?_
    refine lv_iload_n hx hb d_Mo_parallel_93 rfl (lv_at hl 1 rfl) ?_
    refine m_ld hx hb hK hP 14 rfl (by decide) (j := (Int32.ofNat tt)) (x_inN (by omega) (by decide)) d_Mo_parallel_94 ?_
    refine W.eq (g2 := F0 m 95 ls [.int (Int32.ofNat (m_kc (A1 27) (A1 21) tt 90))]) (by rw [x_nat (a := tt) (by omega), show A1 22 tt = (Int32.ofNat (m_kc (A1 27) (A1 21) tt 90)) from hri.2.1.2.2.2.1 tt htt hal]) ?_
    refine lv_if_le (tgt := 103) hx hb d_Mo_parallel_95 (by decide) (fun c_2 => ?_) (fun c_2 => ?_)
    · have c_2 : (m_kc (A1 27) (A1 21) tt 90) ≤ 0 := (x_leN (a := (m_kc (A1 27) (A1 21) tt 90)) (b := 0) (by omega) (by omega)).mp c_2
      refine W.widen (k := 0) (n := 0) (Nat.le_of_ble_eq_true rfl) (Nat.le_of_ble_eq_true rfl) ?_
      exact W.vret hx hb hr (fun t ht hW => ⟨⟨(I1, T, A1, U), rfl, ⟨(m_fr.rf.tr hfr (by decide)), hfa, rfl, rfl, V, own, pown, bl, role, k9, q, pn, br1, _, i29, hri.st02 (t := tt) hst (by omega), Or.inr ⟨tt, htt, (hfr 30 (by decide)).trans h30, hal, if_pos rfl⟩⟩, by dsimp only; rw [ht]; exact hP⟩, hS.F ht⟩) hS.2.2 d_Mo_parallel_103
    · have c_2 : ¬ (m_kc (A1 27) (A1 21) tt 90) ≤ 0 := fun h9 => c_2 ((x_leN (a := (m_kc (A1 27) (A1 21) tt 90)) (b := 0) (by omega) (by omega)).mpr h9)
      refine lv_aload_n hx hb d_Mo_parallel_98 rfl (lv_at hl 0 rfl) ?_
      refine lv_iconst (v := (-1)) hx hb d_Mo_parallel_99 (by decide) ?_
      refine m_p hx hb hts hown hK hP hD hS 30 (by decide) rfl (hts _ k_997) rfl (by decide +kernel) rfl (by decide) (x := (-1)) d_Mo_parallel_100 (fun H locs hP hD hS => ?_)
      refine W.widen (k := 0) (n := 0) (Nat.le_of_ble_eq_true rfl) (Nat.le_of_ble_eq_true rfl) ?_
      exact W.vret hx hb hr (fun t ht hW => ⟨⟨((upd I1 30 (-1)), T, A1, U), rfl, ⟨((m_fr.rf.tr hfr (by decide)).up (by decide) _), hfa, rfl, rfl, V, own, pown, bl, role, k9, q, pn, br1, st, i29, hri, Or.inl rfl⟩, by dsimp only; rw [ht]; exact hP⟩, hS.F ht⟩) hS.2.2 d_Mo_parallel_103
  · have c_1 : ¬ nn ≤ i1 := fun h9 => c_1 ((x_leN (a := nn) (b := i1) (by omega) (by omega)).mpr h9)
    obtain ⟨hy0, hy1, hy2, hy3, hy4, hy5, hy6⟩ := hys i1 (by omega)
    refine lv_aload_n hx hb d_Mo_parallel_33 rfl (lv_at hl 0 rfl) ?_
    refine m_g hx hb hts hown hK hP 1 (by decide) rfl (hts _ k_968) (v := .ref (ad 1)) rfl d_Mo_parallel_34 ?_
    refine lv_aload_n hx hb d_Mo_parallel_37 rfl (lv_at hl 0 rfl) ?_
    refine m_g hx hb hts hown hK hP 1 (by decide) rfl (hts _ k_968) (v := .ref (ad 1)) rfl d_Mo_parallel_38 ?_
    refine lv_iload_n hx hb d_Mo_parallel_41 rfl (lv_at hl 2 rfl) ?_
    refine lv_iconst (v := 2) hx hb d_Mo_parallel_42 (by decide) ?_
    refine lv_iadd hx hb d_Mo_parallel_43 ?_
    refine W.eq (g2 := F0 m 44 ls [.int (Int32.ofNat (pp + 2)), .ref (ad 1), .ref (ad 1)]) (by rw [← x_addN (a := pp) (b := 2)] <;> rfl) ?_
    refine lv_iload hx hb d_Mo_parallel_44 (lv_at hl 4 rfl) ?_
    refine lv_iadd hx hb d_Mo_parallel_46 ?_
    refine W.eq (g2 := F0 m 47 ls [.int (Int32.ofNat ((pp + 2) + i1)), .ref (ad 1), .ref (ad 1)]) (by rw [← x_addN (a := (pp + 2)) (b := i1)] <;> rfl) ?_
    refine m_ld hx hb hK hP 1 rfl (by decide) (j := (Int32.ofNat ((pp + 2) + i1))) (x_inN (by omega) (by decide)) d_Mo_parallel_47 ?_
    refine W.eq (g2 := F0 m 48 ls [.int (Int32.ofNat (ys i1)), .ref (ad 1)]) (by rw [x_nat (a := ((pp + 2) + i1)) (by omega), show A1 1 (((pp + 2) + i1)) = (Int32.ofNat (ys i1)) from (by show A1 1 (pp + 2 + i1) = _; rw [hfa 1 (by decide)]; exact hy0)]) ?_
    refine m_ld hx hb hK hP 1 rfl (by decide) (j := (Int32.ofNat (ys i1))) (x_inN (by omega) (by decide)) d_Mo_parallel_48 ?_
    refine W.eq (g2 := F0 m 49 ls [.int (A1 1 ((ys i1)))]) (by rw [x_nat (a := (ys i1)) (by omega)]) ?_
    refine lv_bipush (v := 12) hx hb d_Mo_parallel_49 (by decide) ?_
    refine lv_icmp_ne (tgt := 57) hx hb d_Mo_parallel_51 (by decide) (fun c_3 => ?_) (fun c_3 => ?_)
    · refine lv_aload_n hx hb d_Mo_parallel_57 rfl (lv_at hl 0 rfl) ?_
      have hkle : (m_kc (A1 27) (A1 21) tt 90) ≤ 90 := m_kc_le 90
      refine m_g hx hb hts hown hK hP 22 (by decide) rfl (hts _ k_989) (v := .ref (ad 22)) rfl d_Mo_parallel_58 ?_
      refine lv_iload_n hx hb d_Mo_parallel_61 rfl (lv_at hl 1 rfl) ?_
      refine lv_dup2_11 hx hb d_Mo_parallel_62 rfl rfl ?_
      refine m_ld hx hb hK hP 14 rfl (by decide) (j := (Int32.ofNat tt)) (x_inN (by omega) (by decide)) d_Mo_parallel_63 ?_
      refine W.eq (g2 := F0 m 64 ls [.int (Int32.ofNat (m_kc (A1 27) (A1 21) tt 90)), .int (Int32.ofNat tt), .ref (ad 22)]) (by rw [x_nat (a := tt) (by omega), show A1 22 tt = (Int32.ofNat (m_kc (A1 27) (A1 21) tt 90)) from hri.2.1.2.2.2.1 tt htt hal]) ?_
      refine lv_iconst (v := 1) hx hb d_Mo_parallel_64 (by decide) ?_
      refine lv_iadd hx hb d_Mo_parallel_65 ?_
      refine W.eq (g2 := F0 m 66 ls [.int (Int32.ofNat ((m_kc (A1 27) (A1 21) tt 90) + 1)), .int (Int32.ofNat tt), .ref (ad 22)]) (by rw [← x_addN (a := (m_kc (A1 27) (A1 21) tt 90)) (b := 1)] <;> rfl) ?_
      refine m_st hx hb hK hP hD hS 14 rfl (by decide) (j := (Int32.ofNat tt)) (x := (Int32.ofNat ((m_kc (A1 27) (A1 21) tt 90) + 1))) (x_inN (by omega) (by decide)) d_Mo_parallel_66 (fun H locs hP hD hS => ?_)
      rw [x_nat (a := tt) (by omega)] at hP hD
      have hP : va_P (dC, dI) x_cl (m_W h0 ad ar I1 T (m_up A1 22 (upd (A1 22) tt (Int32.ofNat ((m_kc (A1 27) (A1 21) tt 90) + 1)))) U) H := hP
      have hD : va_D Bq (m_W h0 ad ar I1 T (m_up A1 22 (upd (A1 22) tt (Int32.ofNat ((m_kc (A1 27) (A1 21) tt 90) + 1)))) U) := hD
      refine lv_aload_n hx hb d_Mo_parallel_67 rfl (lv_at hl 0 rfl) ?_
      refine lv_aload_n hx hb d_Mo_parallel_68 rfl (lv_at hl 0 rfl) ?_
      refine m_g hx hb hts hown hK hP 1 (by decide) rfl (hts _ k_968) (v := .ref (ad 1)) rfl d_Mo_parallel_69 ?_
      refine lv_iload_n hx hb d_Mo_parallel_72 rfl (lv_at hl 2 rfl) ?_
      refine lv_iconst (v := 2) hx hb d_Mo_parallel_73 (by decide) ?_
      refine lv_iadd hx hb d_Mo_parallel_74 ?_
      refine W.eq (g2 := F0 m 75 ls [.int (Int32.ofNat (pp + 2)), .ref (ad 1), .ref h0]) (by rw [← x_addN (a := pp) (b := 2)] <;> rfl) ?_
      refine lv_iload hx hb d_Mo_parallel_75 (lv_at hl 4 rfl) ?_
      refine lv_iadd hx hb d_Mo_parallel_77 ?_
      refine W.eq (g2 := F0 m 78 ls [.int (Int32.ofNat ((pp + 2) + i1)), .ref (ad 1), .ref h0]) (by rw [← x_addN (a := (pp + 2)) (b := i1)] <;> rfl) ?_
      refine m_ld hx hb hK hP 1 rfl (by decide) (j := (Int32.ofNat ((pp + 2) + i1))) (x_inN (by omega) (by decide)) d_Mo_parallel_78 ?_
      refine W.eq (g2 := F0 m 79 ls [.int (Int32.ofNat (ys i1)), .ref h0]) (by rw [x_nat (a := ((pp + 2) + i1)) (by omega), show (m_up A1 22 (upd (A1 22) tt (Int32.ofNat ((m_kc (A1 27) (A1 21) tt 90) + 1)))) 1 (((pp + 2) + i1)) = (Int32.ofNat (ys i1)) from (by show A1 1 (pp + 2 + i1) = _; rw [hfa 1 (by decide)]; exact hy0)]) ?_
      refine lv_iload_n hx hb d_Mo_parallel_79 rfl (lv_at hl 1 rfl) ?_
      have hFc := m_free hD hS hA
      refine va_callv (va_runV (As := [.int (Int32.ofNat (ys i1)), .int (Int32.ofNat tt)]) (rest := []) ⟨hx, hb, hml, hown, hts⟩ (m_make l dC dI ar N0 z h0 ad I1 T (m_up A1 22 (upd (A1 22) tt (Int32.ofNat ((m_kc (A1 27) (A1 21) tt 90) + 1)))) U q ((Int32.ofNat (ys i1))) ((Int32.ofNat tt)) H.size i29 hri.qlt hri.place) (cwV 2 hts (x_goodV k_1190 k_1192 kp_64 k_9 k_1193) rfl rfl rfl (by decide +kernel) ⟨Nat.le_of_ble_eq_true rfl, Nat.le_of_ble_eq_true rfl⟩) ⟨x_blind, va_recv hK hP (ci := 6) (q0 := 0) rfl rfl, fun U9 hU9 hW9 => x_pre hU9 hW9 hP hD hU hZ hS hAN hN0⟩ rfl rfl hl.1 rfl (lv_room (Nat.le_of_ble_eq_true rfl)) d_Mo_parallel_80 ⟨Nat.le_of_ble_eq_true rfl, Nat.le_of_ble_eq_true rfl⟩) hS (fun q _ h => hFc q h) hFc (fun u t H1 locs ht hvm hw hB hz1 hk1 hS => ?_)
      obtain ⟨I5, T5, A5, U5⟩ := u
      dsimp only at hw hB
      rw [ht] at hB
      have hP : va_P (dC, dI) x_cl (m_W h0 ad ar I5 T5 A5 U5) H1 := hB
      have hD : va_D Bq (m_W h0 ad ar I5 T5 A5 U5) := m_D hD
      generalize H1 = H at hP hS ⊢
      refine W.widen (k := 0) (n := 0) (Nat.le_of_ble_eq_true rfl) (Nat.le_of_ble_eq_true rfl) ?_
      obtain ⟨t0, ht0, hn0, e1, e2, e3, e4⟩ := hw
      rw [e1, e2, e3, e4] at hP hD
      have hP : va_P (dC, dI) x_cl (m_W h0 ad ar (upd I1 29 (Int32.ofNat (q + 1))) T (m_up (m_up (m_up (m_up (m_up (m_up (m_up A1 22 (upd (A1 22) tt (Int32.ofNat ((m_kc (A1 27) (A1 21) tt 90) + 1)))) 27 (upd (A1 27) t0 1)) 28 (upd (A1 28) t0 0)) 20 (upd (A1 20) t0 (Int32.ofNat (ys i1)))) 21 (upd (A1 21) t0 (Int32.ofNat tt))) 22 (upd (upd (A1 22) tt (Int32.ofNat ((m_kc (A1 27) (A1 21) tt 90) + 1))) t0 0)) 24 (upd (A1 24) q (Int32.ofNat t0))) U) H := hP
      have hD : va_D Bq (m_W h0 ad ar (upd I1 29 (Int32.ofNat (q + 1))) T (m_up (m_up (m_up (m_up (m_up (m_up (m_up A1 22 (upd (A1 22) tt (Int32.ofNat ((m_kc (A1 27) (A1 21) tt 90) + 1)))) 27 (upd (A1 27) t0 1)) 28 (upd (A1 28) t0 0)) 20 (upd (A1 20) t0 (Int32.ofNat (ys i1)))) 21 (upd (A1 21) t0 (Int32.ofNat tt))) 22 (upd (upd (A1 22) tt (Int32.ofNat ((m_kc (A1 27) (A1 21) tt 90) + 1))) t0 0)) 24 (upd (A1 24) q (Int32.ofNat t0))) U) := hD
      refine lv_iinc (v := (Int32.ofNat (i1 + 1))) (lv' := [(4, .int (Int32.ofNat (i1 + 1))), (0, .ref h0), (1, .int (Int32.ofNat tt)), (2, .int (Int32.ofNat pp)), (3, .int (Int32.ofNat nn))]) hx hb d_Mo_parallel_83 hl (k := 4) rfl (x_incN i1) (by decide) rfl (fun ls hl => ?_)
      refine lv_goto (tgt := 27) hx hb d_Mo_parallel_86 (by decide) ?_
      have hsp := hri.spawn (A' := (m_up (m_up (m_up (m_up (m_up (m_up (m_up A1 22 (upd (A1 22) tt (Int32.ofNat ((m_kc (A1 27) (A1 21) tt 90) + 1)))) 27 (upd (A1 27) t0 1)) 28 (upd (A1 28) t0 0)) 20 (upd (A1 20) t0 (Int32.ofNat (ys i1)))) 21 (upd (A1 21) t0 (Int32.ofNat tt))) 22 (upd (upd (A1 22) tt (Int32.ofNat ((m_kc (A1 27) (A1 21) tt 90) + 1))) t0 0)) 24 (upd (A1 24) q (Int32.ofNat t0)))) htt hal hst ht0 hn0 hy1 hy2 (hy3.trans hbr.symm) hy4 (hno i1 (Nat.le_refl _) (by omega)) rfl rfl rfl rfl rfl rfl rfl rfl rfl rfl rfl
      obtain ⟨hsp, hne, hal2, _⟩ := hsp
      exact ih (nn - (i1 + 1)) (by omega) H locs ls ⟨(upd I1 29 (Int32.ofNat (q + 1))), (m_up (m_up (m_up (m_up (m_up (m_up (m_up A1 22 (upd (A1 22) tt (Int32.ofNat ((m_kc (A1 27) (A1 21) tt 90) + 1)))) 27 (upd (A1 27) t0 1)) 28 (upd (A1 28) t0 0)) 20 (upd (A1 20) t0 (Int32.ofNat (ys i1)))) 21 (upd (A1 21) t0 (Int32.ofNat tt))) 22 (upd (upd (A1 22) tt (Int32.ofNat ((m_kc (A1 27) (A1 21) tt 90) + 1))) t0 0)) 24 (upd (A1 24) q (Int32.ofNat t0))), i1 + 1, q + 1, _, _, _, rfl, by omega, (hfr.up (by decide) _), (((((((hfa.up (by decide) _).up (by decide) _).up (by decide) _).up (by decide) _).up (by decide) _).up (by decide) _).up (by decide) _), rfl, hsp, hal2, (show (if tt = t0 then 1 else (if tt = t0 then 0 else st tt)) = 0 from by rw [if_neg hne, if_neg hne]; exact hst), (show (if tt = t0 then ys i1 else br1 tt) = br tt from by rw [if_neg hne]; exact hbr), fun k hk1 hk2 x hx hax => (if e : x = t0 then (by show (if x = t0 then ys i1 else br1 x) ≠ ys k; rw [if_pos e]; exact hdis i1 k (by omega) hk2 (by omega)) else (by show (if x = t0 then ys i1 else br1 x) ≠ ys k; rw [if_neg e]; exact hno k (by omega) hk2 x hx (by have h9 : ¬ upd (A1 27) t0 1 x = 0 := hax; rw [upd_n e] at h9; exact h9))), hP, hD, hS, lv_sub hl [1, 2, 3, 4, 0] rfl⟩
    · refine lv_goto (tgt := 83) hx hb d_Mo_parallel_54 (by decide) ?_
      refine lv_iinc (v := (Int32.ofNat (i1 + 1))) (lv' := [(4, .int (Int32.ofNat (i1 + 1))), (0, .ref h0), (1, .int (Int32.ofNat tt)), (2, .int (Int32.ofNat pp)), (3, .int (Int32.ofNat nn))]) hx hb d_Mo_parallel_83 hl (k := 4) rfl (x_incN i1) (by decide) rfl (fun ls hl => ?_)
      refine lv_goto (tgt := 27) hx hb d_Mo_parallel_86 (by decide) ?_
      exact ih (nn - (i1 + 1)) (by omega) H locs ls ⟨I1, A1, i1 + 1, q, pn, br1, st, rfl, by omega, hfr, hfa, i29, hri, hal, hst, hbr, fun k hk1 hk2 => hno k (by omega) hk2, hP, hD, hS, lv_sub hl [1, 2, 3, 4, 0] rfl⟩
