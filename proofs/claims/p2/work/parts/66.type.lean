-- ===== 66.type: type of the reference, by program =====
theorem d_Mo_type_0 : decode prog_12_method_6_code 0 = .ok (.iconst 0, 1) := by decide +kernel
theorem d_Mo_type_1 : decode prog_12_method_6_code 1 = .ok (.istore_n 3, 1) := by decide +kernel
theorem d_Mo_type_2 : decode prog_12_method_6_code 2 = .ok (.iconst 1, 1) := by decide +kernel
theorem d_Mo_type_3 : decode prog_12_method_6_code 3 = .ok (.istore 4, 2) := by decide +kernel
theorem d_Mo_type_5 : decode prog_12_method_6_code 5 = .ok (.bipush 56, 2) := by decide +kernel
theorem d_Mo_type_7 : decode prog_12_method_6_code 7 = .ok (.istore 5, 2) := by decide +kernel
theorem d_Mo_type_9 : decode prog_12_method_6_code 9 = .ok (.iload 5, 2) := by decide +kernel
theorem d_Mo_type_11 : decode prog_12_method_6_code 11 = .ok (.ifCond .lt 48, 3) := by decide +kernel
theorem d_Mo_type_14 : decode prog_12_method_6_code 14 = .ok (.lload_n 1, 1) := by decide +kernel
theorem d_Mo_type_15 : decode prog_12_method_6_code 15 = .ok (.iload 5, 2) := by decide +kernel
theorem d_Mo_type_17 : decode prog_12_method_6_code 17 = .ok (.lushr, 1) := by decide +kernel
theorem d_Mo_type_18 : decode prog_12_method_6_code 18 = .ok (.l2i, 1) := by decide +kernel
theorem d_Mo_type_19 : decode prog_12_method_6_code 19 = .ok (.sipush 255, 3) := by decide +kernel
theorem d_Mo_type_22 : decode prog_12_method_6_code 22 = .ok (.iand, 1) := by decide +kernel
theorem d_Mo_type_23 : decode prog_12_method_6_code 23 = .ok (.istore 6, 2) := by decide +kernel
theorem d_Mo_type_25 : decode prog_12_method_6_code 25 = .ok (.iload 6, 2) := by decide +kernel
theorem d_Mo_type_27 : decode prog_12_method_6_code 27 = .ok (.ifCond .eq 6, 3) := by decide +kernel
theorem d_Mo_type_30 : decode prog_12_method_6_code 30 = .ok (.iinc 3 1, 3) := by decide +kernel
theorem d_Mo_type_33 : decode prog_12_method_6_code 33 = .ok (.iload 6, 2) := by decide +kernel
theorem d_Mo_type_35 : decode prog_12_method_6_code 35 = .ok (.ifCond .eq 18, 3) := by decide +kernel
theorem d_Mo_type_38 : decode prog_12_method_6_code 38 = .ok (.iload 6, 2) := by decide +kernel
theorem d_Mo_type_40 : decode prog_12_method_6_code 40 = .ok (.bipush 33, 2) := by decide +kernel
theorem d_Mo_type_42 : decode prog_12_method_6_code 42 = .ok (.bipush 126, 2) := by decide +kernel
theorem d_Mo_type_44 : decode prog_12_method_6_code 44 = .ok (.invokestatic 106, 3) := by decide +kernel
theorem d_Mo_type_47 : decode prog_12_method_6_code 47 = .ok (.ifCond .ne 6, 3) := by decide +kernel
theorem d_Mo_type_50 : decode prog_12_method_6_code 50 = .ok (.iconst 0, 1) := by decide +kernel
theorem d_Mo_type_51 : decode prog_12_method_6_code 51 = .ok (.istore 4, 2) := by decide +kernel
theorem d_Mo_type_53 : decode prog_12_method_6_code 53 = .ok (.iinc 5 (-8), 3) := by decide +kernel
theorem d_Mo_type_56 : decode prog_12_method_6_code 56 = .ok (.goto (-47), 3) := by decide +kernel
theorem d_Mo_type_59 : decode prog_12_method_6_code 59 = .ok (.aload_n 0, 1) := by decide +kernel
theorem d_Mo_type_60 : decode prog_12_method_6_code 60 = .ok (.iload 4, 2) := by decide +kernel
theorem d_Mo_type_62 : decode prog_12_method_6_code 62 = .ok (.invokevirtual 110, 3) := by decide +kernel
theorem d_Mo_type_65 : decode prog_12_method_6_code 65 = .ok (.ifCond .eq 5, 3) := by decide +kernel
theorem d_Mo_type_68 : decode prog_12_method_6_code 68 = .ok (.iconst 0, 1) := by decide +kernel
theorem d_Mo_type_69 : decode prog_12_method_6_code 69 = .ok (.ireturn, 1) := by decide +kernel
theorem d_Mo_type_70 : decode prog_12_method_6_code 70 = .ok (.aload_n 0, 1) := by decide +kernel
theorem d_Mo_type_71 : decode prog_12_method_6_code 71 = .ok (.getfield 114, 3) := by decide +kernel
theorem d_Mo_type_74 : decode prog_12_method_6_code 74 = .ok (.iload_n 3, 1) := by decide +kernel
theorem d_Mo_type_75 : decode prog_12_method_6_code 75 = .ok (.iadd, 1) := by decide +kernel
theorem d_Mo_type_76 : decode prog_12_method_6_code 76 = .ok (.bipush 72, 2) := by decide +kernel
theorem d_Mo_type_78 : decode prog_12_method_6_code 78 = .ok (.if_icmp .le 9, 3) := by decide +kernel
theorem d_Mo_type_81 : decode prog_12_method_6_code 81 = .ok (.aload_n 0, 1) := by decide +kernel
theorem d_Mo_type_82 : decode prog_12_method_6_code 82 = .ok (.iconst 2, 1) := by decide +kernel
theorem d_Mo_type_83 : decode prog_12_method_6_code 83 = .ok (.invokevirtual 117, 3) := by decide +kernel
theorem d_Mo_type_86 : decode prog_12_method_6_code 86 = .ok (.ireturn, 1) := by decide +kernel
theorem d_Mo_type_87 : decode prog_12_method_6_code 87 = .ok (.bipush 56, 2) := by decide +kernel
theorem d_Mo_type_89 : decode prog_12_method_6_code 89 = .ok (.istore 5, 2) := by decide +kernel
theorem d_Mo_type_91 : decode prog_12_method_6_code 91 = .ok (.iload 5, 2) := by decide +kernel
theorem d_Mo_type_93 : decode prog_12_method_6_code 93 = .ok (.ifCond .lt 49, 3) := by decide +kernel
theorem d_Mo_type_96 : decode prog_12_method_6_code 96 = .ok (.lload_n 1, 1) := by decide +kernel
theorem d_Mo_type_97 : decode prog_12_method_6_code 97 = .ok (.iload 5, 2) := by decide +kernel
theorem d_Mo_type_99 : decode prog_12_method_6_code 99 = .ok (.lushr, 1) := by decide +kernel
theorem d_Mo_type_100 : decode prog_12_method_6_code 100 = .ok (.l2i, 1) := by decide +kernel
theorem d_Mo_type_101 : decode prog_12_method_6_code 101 = .ok (.sipush 255, 3) := by decide +kernel
theorem d_Mo_type_104 : decode prog_12_method_6_code 104 = .ok (.iand, 1) := by decide +kernel
theorem d_Mo_type_105 : decode prog_12_method_6_code 105 = .ok (.istore 6, 2) := by decide +kernel
theorem d_Mo_type_107 : decode prog_12_method_6_code 107 = .ok (.iload 6, 2) := by decide +kernel
theorem d_Mo_type_109 : decode prog_12_method_6_code 109 = .ok (.ifCond .ne 6, 3) := by decide +kernel
theorem d_Mo_type_112 : decode prog_12_method_6_code 112 = .ok (.goto 24, 3) := by decide +kernel
theorem d_Mo_type_115 : decode prog_12_method_6_code 115 = .ok (.aload_n 0, 1) := by decide +kernel
theorem d_Mo_type_116 : decode prog_12_method_6_code 116 = .ok (.getfield 7, 3) := by decide +kernel
theorem d_Mo_type_119 : decode prog_12_method_6_code 119 = .ok (.aload_n 0, 1) := by decide +kernel
theorem d_Mo_type_120 : decode prog_12_method_6_code 120 = .ok (.getfield 114, 3) := by decide +kernel
theorem d_Mo_type_123 : decode prog_12_method_6_code 123 = .ok (.iload 6, 2) := by decide +kernel
theorem d_Mo_type_125 : decode prog_12_method_6_code 125 = .ok (.iastore, 1) := by decide +kernel
theorem d_Mo_type_126 : decode prog_12_method_6_code 126 = .ok (.aload_n 0, 1) := by decide +kernel
theorem d_Mo_type_127 : decode prog_12_method_6_code 127 = .ok (.dup, 1) := by decide +kernel
theorem d_Mo_type_128 : decode prog_12_method_6_code 128 = .ok (.getfield 114, 3) := by decide +kernel
theorem d_Mo_type_131 : decode prog_12_method_6_code 131 = .ok (.iconst 1, 1) := by decide +kernel
theorem d_Mo_type_132 : decode prog_12_method_6_code 132 = .ok (.iadd, 1) := by decide +kernel
theorem d_Mo_type_133 : decode prog_12_method_6_code 133 = .ok (.putfield 114, 3) := by decide +kernel
theorem d_Mo_type_136 : decode prog_12_method_6_code 136 = .ok (.iinc 5 (-8), 3) := by decide +kernel
theorem d_Mo_type_139 : decode prog_12_method_6_code 139 = .ok (.goto (-48), 3) := by decide +kernel
theorem d_Mo_type_142 : decode prog_12_method_6_code 142 = .ok (.aload_n 0, 1) := by decide +kernel
theorem d_Mo_type_143 : decode prog_12_method_6_code 143 = .ok (.getfield 114, 3) := by decide +kernel
theorem d_Mo_type_146 : decode prog_12_method_6_code 146 = .ok (.ireturn, 1) := by decide +kernel
theorem m_OK.len {S S' : Nat} {I I' : Nat → Int32} {A A' : Nat → Nat → Int32} {L LA : List Nat} (h : m_OK S I A) (hf : m_fr L I I') (ha : m_fa LA A A') (h4 : I' 4 = Int32.ofNat S') (hS : S' ≤ 72) (hL : ∀ k ∈ [9, 29, 30, 42, 43], k ∉ L) (hA : ∀ k, k ∈ [1, 20, 21, 22, 24, 27, 28, 35, 36, 37, 38] → k ∉ LA) : m_OK S' I' A' := by
  obtain ⟨⟨h1, h2⟩, h3, h5⟩ := h
  have e9 := hf 9 (hL 9 (by decide))
  refine ⟨⟨hS, h4⟩, h3.fr hf (hL 42 (by decide)) (hL 43 (by decide)), ?_⟩
  rcases h5 with h5 | h5 | h5 | ⟨h5, h6⟩
  · exact Or.inl (e9.trans h5)
  · exact Or.inr (Or.inl (e9.trans h5))
  · exact Or.inr (Or.inr (Or.inl (e9.trans h5)))
  · exact Or.inr (Or.inr (Or.inr ⟨e9.trans h5, h6.to hf ha (fun k hk => hL k (by simp at hk ⊢; omega)) hA⟩))
set_option maxHeartbeats 4000000 in
set_option maxRecDepth 100000 in
theorem m_type (l : Launch) (dC : Nat → ClassId) (dI : Nat → Nat → Nat) (ar : Nat → ClassId) (N0 : Nat) (z : Nat → Nat) (h0 : Nat) (ad : Nat → Nat) (I : Nat → Int32) (T : Int64) (A : Nat → Nat → Int32) (U : Nat → Int64) (S : Nat) (eg : Int64) (sz : Nat) (hok : m_OK S I A) : Met l ({ cls := "ChannelMachineModel", name := "type", desc := "(J)I" } : Jvm.MethodName) ((Jvm.Cond.code ({ cls := "ChannelMachineModel", name := "type", desc := "(J)I" } : Jvm.MethodName) prog_12_method_6_code (7 : Nat) (Option.some Jvm.ClassFile.FieldType.int)) :: x_T) ({ frames := 1, cells := 0, slots := 0, locals := 22 }) (x_Pc (dC, dI) ar N0 z (m_W h0 ad ar I T A U) sz [.ref h0, .long eg]) (va_Qi (fun (r : Int32) (u : (Nat → Int32) × Int64 × (Nat → Nat → Int32) × (Nat → Int64)) => (x_okk eg 8 ∧ S + x_cN eg 8 ≤ 72 ∧ r = Int32.ofNat (S + x_cN eg 8) ∧ u.1 33 = 0 ∧ m_OK (S + x_cN eg 8) u.1 u.2.2.1) ∨ (¬ x_okk eg 8 ∧ u.1 33 = 1 ∧ m_OK S u.1 u.2.2.1) ∨ (x_okk eg 8 ∧ 72 < S + x_cN eg 8 ∧ u.1 33 = 2 ∧ m_OK S u.1 u.2.2.1)) (fun u t => va_P (dC, dI) x_cl (m_W h0 ad ar u.1 u.2.1 u.2.2.1 u.2.2.2) t.heap) (va_A (m_W h0 ad ar I T A U) sz)) 0 0 (va_A (m_W h0 ad ar I T A U) sz) := by
  refine Met.ofW (cc := prog_12_method_6_code) (maxL := 7) (ret := (some .int)) (by decide) rfl ?_
  intro p e s m args below meth c s₁ B hml hv
  obtain ⟨rfl, hsz, hN0, hP, hU, hZ, hD0⟩ := hv
  have hK := hU.1
  have hx := B.exec
  have hb := B.bytes
  have hr := B.returns
  have hts : ∀ w ∈ x_T, w.before ([.ref h0, .long eg] : List Value).toArray s = true := fun w h => atoms_spec (ws := (Jvm.Cond.code ({ cls := "ChannelMachineModel", name := "type", desc := "(J)I" } : Jvm.MethodName) prog_12_method_6_code (7 : Nat) (Option.some Jvm.ClassFile.FieldType.int)) :: x_T) B.pre w (List.mem_cons_of_mem _ h)
  have hown : s.vm.findClass "ChannelMachineModel" = some m.cls := findClass_of_methodNamed B.named
  have hlocks := B.notSynchronized
  subst hsz
  have hD := hD0.self (sz := s.heap.size)
  have hAN := x_AN hD0 hN0
  generalize hAe : va_A (m_W h0 ad ar I T A U) s.heap.size = Bq at hD hAN ⊢
  have hA : ∀ q : Nat, s.heap.size ≤ q → Bq q := fun q h => by rw [← hAe]; exact Or.inr h
  have hS : va_S Bq s.heap s.heap [] := va_S.rf
  have hl := lv_entry ([.ref h0, .long eg]) (n := 7) (Nat.le_of_ble_eq_true rfl)
  rw [lg_entry_eq]
  generalize (lg_sl ([.ref h0, .long eg]) ++ List.replicate (7 - (lg_sl ([.ref h0, .long eg])).length) Slot.unset).toArray = ls at hl ⊢
  have hl : lv_has ls 7 [(0, .ref h0), (1, .long eg)] := hl
  have hcn8 := x_cN_le eg 8
  have h72 := hok.1.1
  have h4 := hok.1.2
  refine lv_iconst (v := 0) hx hb d_Mo_type_0 (by decide) ?_
  refine lv_istore_n (lv' := [(3, .int 0), (0, .ref h0), (1, .long eg)]) hx hb d_Mo_type_1 rfl hl (by decide) rfl (fun ls hl => ?_)
  refine lv_iconst (v := 1) hx hb d_Mo_type_2 (by decide) ?_
  refine lv_istore (lv' := [(4, .int 1), (3, .int 0), (0, .ref h0), (1, .long eg)]) hx hb d_Mo_type_3 hl (by decide) rfl (fun ls hl => ?_)
  refine lv_bipush (v := 56) hx hb d_Mo_type_5 (by decide) ?_
  refine lv_istore (lv' := [(5, .int 56), (4, .int 1), (3, .int 0), (0, .ref h0), (1, .long eg)]) hx hb d_Mo_type_7 hl (by decide) rfl (fun ls hl => ?_)
  refine x_down (fun k H locs ls => ∃ fi : Int32, va_P (dC, dI) x_cl (m_W h0 ad ar I T A U) H ∧ va_D Bq (m_W h0 ad ar I T A U) ∧ va_S Bq s.heap H locs ∧ lv_has ls 7 [(5, .int (x_sh k)), (4, .int fi), (3, .int (Int32.ofNat (x_cN eg k))), (0, .ref h0), (1, .long eg)] ∧ x_fine eg k fi) 8 (fun H locs ls h9 => ?_) (fun k hk ih H locs ls h9 => ?_) ⟨1, hP, hD, hS, by rw [show x_sh 0 = 56 from by decide]; exact lv_sub hl [0, 1, 2, 3, 4] rfl, Or.inl ⟨x_ok0, rfl⟩⟩
  · obtain ⟨fi, hP, hD, hS, hl, hf⟩ := h9
    rw [show x_sh 8 = -8 from by decide] at hl
    rcases hf with ⟨hok8, rfl⟩ | ⟨hok8, rfl⟩
    · refine lv_iload hx hb d_Mo_type_9 (lv_at hl 0 rfl) ?_
      refine lv_if_lt (tgt := 59) hx hb d_Mo_type_11 (by decide) (fun _ => ?_) (fun c_1 => absurd (by decide) c_1)
      refine lv_aload_n hx hb d_Mo_type_59 rfl (lv_at hl 3 rfl) ?_
      refine lv_iload hx hb d_Mo_type_60 (lv_at hl 1 rfl) ?_
      have hFc := m_free hD hS hA
      refine va_calli (va_runV (As := [.int 1]) (rest := []) ⟨hx, hb, hml, hown, hts⟩ (m_bad l dC dI ar N0 z h0 ad I T A U (1) H.size ) (cwV 1 hts (x_goodV k_1116 k_1118 kp_48 k_9 k_1119) rfl rfl rfl (by decide +kernel) ⟨Nat.le_of_ble_eq_true rfl, Nat.le_of_ble_eq_true rfl⟩) ⟨x_blind, va_recv hK hP (ci := 6) (q0 := 0) rfl rfl, fun U9 hU9 hW9 => x_pre hU9 hW9 hP hD hU hZ hS hAN hN0⟩ rfl rfl hl.1 rfl (lv_room (Nat.le_of_ble_eq_true rfl)) d_Mo_type_62 ⟨Nat.le_of_ble_eq_true rfl, Nat.le_of_ble_eq_true rfl⟩) hS (fun q _ h => hFc q h) hFc (fun r_2 u t H1 locs ht hvm hw hB hz1 hk1 hS => ?_)
      obtain ⟨I4, T4, A4, U4⟩ := u
      dsimp only at hw hB
      rw [ht] at hB
      have hP : va_P (dC, dI) x_cl (m_W h0 ad ar I4 T4 A4 U4) H1 := hB
      have hD : va_D Bq (m_W h0 ad ar I4 T4 A4 U4) := m_D hD
      generalize H1 = H at hP hS ⊢
      refine W.widen (k := 0) (n := 0) (Nat.le_of_ble_eq_true rfl) (Nat.le_of_ble_eq_true rfl) ?_
      rcases hw with ⟨b_5, rfl, h9⟩ | ⟨b_5, rfl, h9⟩
      · exact absurd b_5 (by decide)
      · cases h9
        refine lv_if_eq (tgt := 70) hx hb d_Mo_type_65 (by decide) (fun _ => ?_) (fun c_6 => absurd (by decide) c_6)
        refine lv_aload_n hx hb d_Mo_type_70 rfl (lv_at hl 3 rfl) ?_
        refine m_g hx hb hts hown hK hP 4 (by decide) rfl (hts _ k_971) (v := .int (Int32.ofNat S)) (congrArg Value.int h4) d_Mo_type_71 ?_
        refine lv_iload_n hx hb d_Mo_type_74 rfl (lv_at hl 2 rfl) ?_
        refine lv_iadd hx hb d_Mo_type_75 ?_
        refine W.eq (g2 := F0 m 76 ls [.int (Int32.ofNat (S + (x_cN eg 8)))]) (by rw [← x_addN (a := S) (b := (x_cN eg 8))] <;> rfl) ?_
        refine lv_bipush (v := 72) hx hb d_Mo_type_76 (by decide) ?_
        refine lv_icmp_le (tgt := 87) hx hb d_Mo_type_78 (by decide) (fun c_7 => ?_) (fun c_7 => ?_)
        · have c_7 : (S + (x_cN eg 8)) ≤ 72 := (x_leN (a := (S + (x_cN eg 8))) (b := 72) (by omega) (by omega)).mp c_7
          refine lv_bipush (v := 56) hx hb d_Mo_type_87 (by decide) ?_
          refine lv_istore (lv' := [(5, .int 56), (4, .int 1), (3, .int (Int32.ofNat (x_cN eg 8))), (0, .ref h0), (1, .long eg)]) hx hb d_Mo_type_89 hl (by decide) rfl (fun ls hl => ?_)
          have hle : S + x_cN eg 8 ≤ 72 := c_7
          refine x_down (fun k H locs ls => ∃ (I1 : Nat → Int32) (A1 : Nat → Nat → Int32), m_fr [4, 33] I I1 ∧ m_fa [0] A A1 ∧ I1 4 = Int32.ofNat (S + x_cN eg k) ∧ I1 33 = 0 ∧ va_P (dC, dI) x_cl (m_W h0 ad ar I1 T A1 U) H ∧ va_D Bq (m_W h0 ad ar I1 T A1 U) ∧ va_S Bq s.heap H locs ∧ lv_has ls 7 [(5, .int (x_sh k)), (0, .ref h0), (1, .long eg)]) 8 (fun H locs ls h9 => ?_) (fun k hk ih H locs ls h9 => ?_) ⟨(upd I 33 0), A, (m_fr.rf.up (by decide) _), m_fa.rf, h4, rfl, hP, hD, hS, by rw [show x_sh 0 = 56 from by decide]; exact lv_sub hl [0, 3, 4] rfl⟩
          · obtain ⟨I1, A1, hfr, hfa, i4, i33, hP, hD, hS, hl⟩ := h9
            rw [show x_sh 8 = -8 from by decide] at hl
            refine lv_iload hx hb d_Mo_type_91 (lv_at hl 0 rfl) ?_
            refine lv_if_lt (tgt := 142) hx hb d_Mo_type_93 (by decide) (fun _ => ?_) (fun c_8 => absurd (by decide) c_8)
            refine lv_aload_n hx hb d_Mo_type_142 rfl (lv_at hl 1 rfl) ?_
            refine m_g hx hb hts hown hK hP 4 (by decide) rfl (hts _ k_971) (v := .int (Int32.ofNat (S + x_cN eg 8))) (congrArg Value.int i4) d_Mo_type_143 ?_
            refine W.widen (k := 0) (n := 0) (Nat.le_of_ble_eq_true rfl) (Nat.le_of_ble_eq_true rfl) ?_
            exact W.iret (v := (Int32.ofNat (S + x_cN eg 8))) hx hb hr (fun t ht hW => ⟨⟨(Int32.ofNat (S + x_cN eg 8)), (I1, T, A1, U), rfl, Or.inl ⟨hok8, hle, rfl, i33, m_OK.len hok (L := [4, 33]) (LA := [0]) hfr hfa i4 hle (by decide) (by decide)⟩, by dsimp only; rw [ht]; exact hP⟩, hS.F ht⟩) hS.2.2 d_Mo_type_146
          · obtain ⟨I1, A1, hfr, hfa, i4, i33, hP, hD, hS, hl⟩ := h9
            refine lv_iload hx hb d_Mo_type_91 (lv_at hl 0 rfl) ?_
            refine lv_if_lt (tgt := 142) hx hb d_Mo_type_93 (by decide) (fun c_9 => absurd c_9 (x_shp hk)) (fun _ => ?_)
            refine lv_lload_n hx hb d_Mo_type_96 rfl (lv_at hl 2 rfl) ?_
            refine lv_iload hx hb d_Mo_type_97 (lv_at hl 0 rfl) ?_
            refine lv_lushr (v := (Int64.toUInt64 eg >>> (Int64.toUInt64 (Int32.toInt64 (x_sh k)) &&& Int64.toUInt64 63)).toInt64) hx hb d_Mo_type_99 rfl ?_
            refine lv_l2i (v := (Int64.toInt32 (Int64.toUInt64 eg >>> (Int64.toUInt64 (Int32.toInt64 (x_sh k)) &&& Int64.toUInt64 63)).toInt64)) hx hb d_Mo_type_100 rfl ?_
            refine lv_sipush (v := 255) hx hb d_Mo_type_101 (by decide) ?_
            refine lv_iand hx hb d_Mo_type_104 ?_
            refine W.eq (g2 := F0 m 105 ls [.int (x_y eg k)]) (by rw [x_ysh hk]; rfl) ?_
            refine lv_topi (fun r_10 hy => ?_)
            refine lv_istore (lv' := [(6, .int r_10), (5, .int (x_sh k)), (0, .ref h0), (1, .long eg)]) hx hb d_Mo_type_105 hl (by decide) rfl (fun ls hl => ?_)
            refine lv_iload hx hb d_Mo_type_107 (lv_at hl 0 rfl) ?_
            refine lv_if_ne (tgt := 115) hx hb d_Mo_type_109 (by decide) (fun c_11 => ?_) (fun c_11 => ?_)
            · have hlt := x_cN_lt hk hy c_11
              refine lv_aload_n hx hb d_Mo_type_115 rfl (lv_at hl 2 rfl) ?_
              refine m_g hx hb hts hown hK hP 0 (by decide) rfl (hts _ k_967) (v := .ref (ad 0)) rfl d_Mo_type_116 ?_
              refine lv_aload_n hx hb d_Mo_type_119 rfl (lv_at hl 2 rfl) ?_
              refine m_g hx hb hts hown hK hP 4 (by decide) rfl (hts _ k_971) (v := .int (Int32.ofNat (S + x_cN eg k))) (congrArg Value.int i4) d_Mo_type_120 ?_
              refine lv_iload hx hb d_Mo_type_123 (lv_at hl 0 rfl) ?_
              refine m_st hx hb hK hP hD hS 0 rfl (by decide) (j := (Int32.ofNat (S + x_cN eg k))) (x := r_10) (x_inN (by omega) (by decide)) d_Mo_type_125 (fun H locs hP hD hS => ?_)
              rw [x_nat (a := (S + x_cN eg k)) (by omega)] at hP hD
              have hP : va_P (dC, dI) x_cl (m_W h0 ad ar I1 T (m_up A1 0 (upd (A1 0) ((S + x_cN eg k)) r_10)) U) H := hP
              have hD : va_D Bq (m_W h0 ad ar I1 T (m_up A1 0 (upd (A1 0) ((S + x_cN eg k)) r_10)) U) := hD
              refine lv_aload_n hx hb d_Mo_type_126 rfl (lv_at hl 2 rfl) ?_
              refine lv_dup hx hb d_Mo_type_127 rfl ?_
              refine m_g hx hb hts hown hK hP 4 (by decide) rfl (hts _ k_971) (v := .int (Int32.ofNat (S + x_cN eg k))) (congrArg Value.int i4) d_Mo_type_128 ?_
              refine lv_iconst (v := 1) hx hb d_Mo_type_131 (by decide) ?_
              refine lv_iadd hx hb d_Mo_type_132 ?_
              refine W.eq (g2 := F0 m 133 ls [.int (Int32.ofNat ((S + x_cN eg k) + 1)), .ref h0]) (by rw [← x_addN (a := (S + x_cN eg k)) (b := 1)] <;> rfl) ?_
              refine m_p hx hb hts hown hK hP hD hS 4 (by decide) rfl (hts _ k_971) rfl (by decide +kernel) rfl (by decide) (x := (Int32.ofNat ((S + x_cN eg k) + 1))) d_Mo_type_133 (fun H locs hP hD hS => ?_)
              refine lv_iinc (v := (x_sh (k + 1))) (lv' := [(5, .int (x_sh (k + 1))), (6, .int r_10), (0, .ref h0), (1, .long eg)]) hx hb d_Mo_type_136 hl (k := 1) rfl (x_shs hk) (by decide) rfl (fun ls hl => ?_)
              refine lv_goto (tgt := 91) hx hb d_Mo_type_139 (by decide) ?_
              exact ih H locs ls ⟨(upd I1 4 (Int32.ofNat ((S + x_cN eg k) + 1))), (m_up A1 0 (upd (A1 0) ((S + x_cN eg k)) r_10)), (hfr.up (by decide) _), (hfa.up (by decide) _), by rw [x_cN_s hy c_11]; rfl, i33, hP, hD, hS, lv_sub hl [0, 2, 3] rfl⟩
            · refine lv_goto (tgt := 136) hx hb d_Mo_type_112 (by decide) ?_
              refine lv_iinc (v := (x_sh (k + 1))) (lv' := [(5, .int (x_sh (k + 1))), (6, .int r_10), (0, .ref h0), (1, .long eg)]) hx hb d_Mo_type_136 hl (k := 1) rfl (x_shs hk) (by decide) rfl (fun ls hl => ?_)
              refine lv_goto (tgt := 91) hx hb d_Mo_type_139 (by decide) ?_
              exact ih H locs ls ⟨I1, A1, hfr, hfa, by rw [x_cN_z hy c_11]; exact i4, i33, hP, hD, hS, lv_sub hl [0, 2, 3] rfl⟩
        · have c_7 : ¬ (S + (x_cN eg 8)) ≤ 72 := fun h9 => c_7 ((x_leN (a := (S + (x_cN eg 8))) (b := 72) (by omega) (by omega)).mpr h9)
          refine lv_aload_n hx hb d_Mo_type_81 rfl (lv_at hl 3 rfl) ?_
          refine lv_iconst (v := 2) hx hb d_Mo_type_82 (by decide) ?_
          have hFc := m_free hD hS hA
          refine va_calli (va_runV (As := [.int 2]) (rest := []) ⟨hx, hb, hml, hown, hts⟩ (m_fail l dC dI ar N0 z h0 ad (upd I 33 0) T A U (2) H.size ) (cwV 1 hts (x_goodV k_1120 k_1122 kp_49 k_9 k_1123) rfl rfl rfl (by decide +kernel) ⟨Nat.le_of_ble_eq_true rfl, Nat.le_of_ble_eq_true rfl⟩) ⟨x_blind, va_recv hK hP (ci := 6) (q0 := 0) rfl rfl, fun U9 hU9 hW9 => x_pre hU9 hW9 hP hD hU hZ hS hAN hN0⟩ rfl rfl hl.1 rfl (lv_room (Nat.le_of_ble_eq_true rfl)) d_Mo_type_83 ⟨Nat.le_of_ble_eq_true rfl, Nat.le_of_ble_eq_true rfl⟩) hS (fun q _ h => hFc q h) hFc (fun r_12 u t H1 locs ht hvm hw hB hz1 hk1 hS => ?_)
          obtain ⟨I14, T14, A14, U14⟩ := u
          dsimp only at hw hB
          rw [ht] at hB
          have hP : va_P (dC, dI) x_cl (m_W h0 ad ar I14 T14 A14 U14) H1 := hB
          have hD : va_D Bq (m_W h0 ad ar I14 T14 A14 U14) := m_D hD
          generalize H1 = H at hP hS ⊢
          refine W.widen (k := 0) (n := 0) (Nat.le_of_ble_eq_true rfl) (Nat.le_of_ble_eq_true rfl) ?_
          obtain ⟨h9, rfl⟩ := hw
          cases h9
          refine W.widen (k := 0) (n := 0) (Nat.le_of_ble_eq_true rfl) (Nat.le_of_ble_eq_true rfl) ?_
          exact W.iret (v := 0) hx hb hr (fun t ht hW => ⟨⟨0, ((upd (upd I 33 0) 33 2), T, A, U), rfl, Or.inr (Or.inr ⟨hok8, by omega, rfl, hok.to (L := [33]) (LA := []) ((m_fr.rf.up (by decide) _).up (by decide) _) m_fa.rf (by decide) (by decide)⟩), by dsimp only; rw [ht]; exact hP⟩, hS.F ht⟩) hS.2.2 d_Mo_type_86
    · refine lv_iload hx hb d_Mo_type_9 (lv_at hl 0 rfl) ?_
      refine lv_if_lt (tgt := 59) hx hb d_Mo_type_11 (by decide) (fun _ => ?_) (fun c_15 => absurd (by decide) c_15)
      refine lv_aload_n hx hb d_Mo_type_59 rfl (lv_at hl 3 rfl) ?_
      refine lv_iload hx hb d_Mo_type_60 (lv_at hl 1 rfl) ?_
      have hFc := m_free hD hS hA
      refine va_calli (va_runV (As := [.int 0]) (rest := []) ⟨hx, hb, hml, hown, hts⟩ (m_bad l dC dI ar N0 z h0 ad I T A U (0) H.size ) (cwV 1 hts (x_goodV k_1116 k_1118 kp_48 k_9 k_1119) rfl rfl rfl (by decide +kernel) ⟨Nat.le_of_ble_eq_true rfl, Nat.le_of_ble_eq_true rfl⟩) ⟨x_blind, va_recv hK hP (ci := 6) (q0 := 0) rfl rfl, fun U9 hU9 hW9 => x_pre hU9 hW9 hP hD hU hZ hS hAN hN0⟩ rfl rfl hl.1 rfl (lv_room (Nat.le_of_ble_eq_true rfl)) d_Mo_type_62 ⟨Nat.le_of_ble_eq_true rfl, Nat.le_of_ble_eq_true rfl⟩) hS (fun q _ h => hFc q h) hFc (fun r_16 u t H1 locs ht hvm hw hB hz1 hk1 hS => ?_)
      obtain ⟨I18, T18, A18, U18⟩ := u
      dsimp only at hw hB
      rw [ht] at hB
      have hP : va_P (dC, dI) x_cl (m_W h0 ad ar I18 T18 A18 U18) H1 := hB
      have hD : va_D Bq (m_W h0 ad ar I18 T18 A18 U18) := m_D hD
      generalize H1 = H at hP hS ⊢
      refine W.widen (k := 0) (n := 0) (Nat.le_of_ble_eq_true rfl) (Nat.le_of_ble_eq_true rfl) ?_
      rcases hw with ⟨b_19, rfl, h9⟩ | ⟨b_19, rfl, h9⟩
      · cases h9
        refine lv_if_eq (tgt := 70) hx hb d_Mo_type_65 (by decide) (fun c_20 => absurd c_20 (by decide)) (fun _ => ?_)
        refine lv_iconst (v := 0) hx hb d_Mo_type_68 (by decide) ?_
        refine W.widen (k := 0) (n := 0) (Nat.le_of_ble_eq_true rfl) (Nat.le_of_ble_eq_true rfl) ?_
        exact W.iret (v := 0) hx hb hr (fun t ht hW => ⟨⟨0, ((upd I 33 1), T, A, U), rfl, Or.inr (Or.inl ⟨hok8, rfl, hok.to (L := [33]) (LA := []) (m_fr.rf.up (by decide) _) m_fa.rf (by decide) (by decide)⟩), by dsimp only; rw [ht]; exact hP⟩, hS.F ht⟩) hS.2.2 d_Mo_type_69
      · exact absurd rfl b_19
  · obtain ⟨fi, hP, hD, hS, hl, hf⟩ := h9
    refine lv_iload hx hb d_Mo_type_9 (lv_at hl 0 rfl) ?_
    refine lv_if_lt (tgt := 59) hx hb d_Mo_type_11 (by decide) (fun c_21 => absurd c_21 (x_shp hk)) (fun _ => ?_)
    refine lv_lload_n hx hb d_Mo_type_14 rfl (lv_at hl 4 rfl) ?_
    refine lv_iload hx hb d_Mo_type_15 (lv_at hl 0 rfl) ?_
    refine lv_lushr (v := (Int64.toUInt64 eg >>> (Int64.toUInt64 (Int32.toInt64 (x_sh k)) &&& Int64.toUInt64 63)).toInt64) hx hb d_Mo_type_17 rfl ?_
    refine lv_l2i (v := (Int64.toInt32 (Int64.toUInt64 eg >>> (Int64.toUInt64 (Int32.toInt64 (x_sh k)) &&& Int64.toUInt64 63)).toInt64)) hx hb d_Mo_type_18 rfl ?_
    refine lv_sipush (v := 255) hx hb d_Mo_type_19 (by decide) ?_
    refine lv_iand hx hb d_Mo_type_22 ?_
    refine W.eq (g2 := F0 m 23 ls [.int (x_y eg k)]) (by rw [x_ysh hk]; rfl) ?_
    refine lv_topi (fun r_22 hy => ?_)
    refine lv_istore (lv' := [(6, .int r_22), (5, .int (x_sh k)), (4, .int fi), (3, .int (Int32.ofNat (x_cN eg k))), (0, .ref h0), (1, .long eg)]) hx hb d_Mo_type_23 hl (by decide) rfl (fun ls hl => ?_)
    refine lv_iload hx hb d_Mo_type_25 (lv_at hl 0 rfl) ?_
    refine lv_if_eq (tgt := 33) hx hb d_Mo_type_27 (by decide) (fun c_23 => ?_) (fun c_23 => ?_)
    · refine lv_iload hx hb d_Mo_type_33 (lv_at hl 0 rfl) ?_
      refine lv_if_eq (tgt := 53) hx hb d_Mo_type_35 (by decide) (fun _ => ?_) (fun c_24 => absurd c_23 c_24)
      refine lv_iinc (v := (x_sh (k + 1))) (lv' := [(5, .int (x_sh (k + 1))), (6, .int r_22), (4, .int fi), (3, .int (Int32.ofNat (x_cN eg k))), (0, .ref h0), (1, .long eg)]) hx hb d_Mo_type_53 hl (k := 1) rfl (x_shs hk) (by decide) rfl (fun ls hl => ?_)
      refine lv_goto (tgt := 9) hx hb d_Mo_type_56 (by decide) ?_
      exact ih H locs ls ⟨fi, hP, hD, hS, (by rw [x_cN_z hy c_23]; exact lv_sub hl [0, 2, 3, 4, 5] rfl), x_fi hy (Or.inl c_23) hf⟩
    · refine lv_iinc (v := (Int32.ofNat (x_cN eg (k + 1)))) (lv' := [(3, .int (Int32.ofNat (x_cN eg (k + 1)))), (6, .int r_22), (5, .int (x_sh k)), (4, .int fi), (0, .ref h0), (1, .long eg)]) hx hb d_Mo_type_30 hl (k := 3) rfl (x_cn_i hy c_23) (by decide) rfl (fun ls hl => ?_)
      refine lv_iload hx hb d_Mo_type_33 (lv_at hl 1 rfl) ?_
      refine lv_if_eq (tgt := 53) hx hb d_Mo_type_35 (by decide) (fun c_25 => absurd c_25 c_23) (fun _ => ?_)
      refine lv_iload hx hb d_Mo_type_38 (lv_at hl 1 rfl) ?_
      refine lv_bipush (v := 33) hx hb d_Mo_type_40 (by decide) ?_
      refine lv_bipush (v := 126) hx hb d_Mo_type_42 (by decide) ?_
      have hFc := m_free hD hS hA
      refine va_calli (va_runS (As := [.int r_22, .int 33, .int 126]) (rest := []) ⟨hx, hb, hml, hown, hts⟩ (c_Mo_in l dC dI ar N0 z (r_22) (33) (126) H.size) (cwS 3 hts (x_goodS k_1113 k_1114 k_9 k_1115) rfl rfl rfl (by decide +kernel) ⟨Nat.le_of_ble_eq_true rfl, Nat.le_of_ble_eq_true rfl⟩) ⟨x_blind, fun U9 hU9 hW9 => x_pre (ws := []) hU9 hW9 (fun k q h => by simp at h) (⟨fun i j p q h => by simp at h, fun k q h => by simp at h⟩ : va_D Bq []) hU hZ hS hAN hN0⟩ rfl rfl hl.1 rfl (lv_room (Nat.le_of_ble_eq_true rfl)) d_Mo_type_44 ⟨Nat.le_of_ble_eq_true rfl, Nat.le_of_ble_eq_true rfl⟩) hS (fun q _ h => hA q (Nat.le_trans hS.1 (h.elim (fun ⟨k, e9, hk⟩ => by simp at hk) id))) (fun q h => hA q (Nat.le_trans hS.1 (h.elim (fun ⟨k, e9, hk⟩ => by simp at hk) id))) (fun r_26 u t H1 locs ht hvm hw hB hz1 hk1 hS => ?_)
      have hP : va_P (dC, dI) x_cl (m_W h0 ad ar I T A U) H1 := fun k q hk => (hP k q hk).kept (hk1 q.1 ((hP k q hk).lt) (fun h9 => h9.elim (fun ⟨k, e9, hk⟩ => by simp at hk) (fun h8 => absurd (hP k q hk).lt (Nat.not_lt.mpr h8))))
      generalize H1 = H at hP hS ⊢
      refine W.widen (k := 0) (n := 0) (Nat.le_of_ble_eq_true rfl) (Nat.le_of_ble_eq_true rfl) ?_
      rcases hw with ⟨i_28, i_28', rfl⟩ | ⟨i_28, rfl⟩
      · have i_28 := i_28
        refine lv_if_ne (tgt := 53) hx hb d_Mo_type_47 (by decide) (fun _ => ?_) (fun c_29 => absurd c_29 (by decide))
        refine lv_iinc (v := (x_sh (k + 1))) (lv' := [(5, .int (x_sh (k + 1))), (3, .int (Int32.ofNat (x_cN eg (k + 1)))), (6, .int r_22), (4, .int fi), (0, .ref h0), (1, .long eg)]) hx hb d_Mo_type_53 hl (k := 2) rfl (x_shs hk) (by decide) rfl (fun ls hl => ?_)
        refine lv_goto (tgt := 9) hx hb d_Mo_type_56 (by decide) ?_
        exact ih H locs ls ⟨fi, hP, hD, hS, lv_sub hl [0, 3, 1, 4, 5] rfl, x_fi hy (Or.inr ⟨i_28, i_28'⟩) hf⟩
      · have i_28 := i_28
        refine lv_if_ne (tgt := 53) hx hb d_Mo_type_47 (by decide) (fun c_30 => absurd rfl c_30) (fun _ => ?_)
        refine lv_iconst (v := 0) hx hb d_Mo_type_50 (by decide) ?_
        refine lv_istore (lv' := [(4, .int 0), (3, .int (Int32.ofNat (x_cN eg (k + 1)))), (6, .int r_22), (5, .int (x_sh k)), (0, .ref h0), (1, .long eg)]) hx hb d_Mo_type_51 hl (by decide) rfl (fun ls hl => ?_)
        refine lv_iinc (v := (x_sh (k + 1))) (lv' := [(5, .int (x_sh (k + 1))), (4, .int 0), (3, .int (Int32.ofNat (x_cN eg (k + 1)))), (6, .int r_22), (0, .ref h0), (1, .long eg)]) hx hb d_Mo_type_53 hl (k := 3) rfl (x_shs hk) (by decide) rfl (fun ls hl => ?_)
        refine lv_goto (tgt := 9) hx hb d_Mo_type_56 (by decide) ?_
        exact ih H locs ls ⟨0, hP, hD, hS, lv_sub hl [0, 1, 2, 4, 5] rfl, x_fb hy c_23 i_28⟩
