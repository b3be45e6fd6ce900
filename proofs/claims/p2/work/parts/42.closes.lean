-- ===== 42.closes: closes of the reference, by program =====
theorem k_981 : (Jvm.Cond.fieldLink "ChannelMachineModel" (35 : Nat) "ChannelMachineModel" "jumps" "[I") ∈ x_T := x_at 981 (by decide +kernel) (by decide +kernel)
theorem d_Mo_closes_0 : decode prog_12_method_20_code 0 = .ok (.aload_n 0, 1) := by decide +kernel
theorem d_Mo_closes_1 : decode prog_12_method_20_code 1 = .ok (.getfield 159, 3) := by decide +kernel
theorem d_Mo_closes_4 : decode prog_12_method_20_code 4 = .ok (.iconst 1, 1) := by decide +kernel
theorem d_Mo_closes_5 : decode prog_12_method_20_code 5 = .ok (.isub, 1) := by decide +kernel
theorem d_Mo_closes_6 : decode prog_12_method_20_code 6 = .ok (.istore_n 1, 1) := by decide +kernel
theorem d_Mo_closes_7 : decode prog_12_method_20_code 7 = .ok (.aload_n 0, 1) := by decide +kernel
theorem d_Mo_closes_8 : decode prog_12_method_20_code 8 = .ok (.getfield 26, 3) := by decide +kernel
theorem d_Mo_closes_11 : decode prog_12_method_20_code 11 = .ok (.iload_n 1, 1) := by decide +kernel
theorem d_Mo_closes_12 : decode prog_12_method_20_code 12 = .ok (.iaload, 1) := by decide +kernel
theorem d_Mo_closes_13 : decode prog_12_method_20_code 13 = .ok (.istore_n 2, 1) := by decide +kernel
theorem d_Mo_closes_14 : decode prog_12_method_20_code 14 = .ok (.aload_n 0, 1) := by decide +kernel
theorem d_Mo_closes_15 : decode prog_12_method_20_code 15 = .ok (.getfield 29, 3) := by decide +kernel
theorem d_Mo_closes_18 : decode prog_12_method_20_code 18 = .ok (.iload_n 1, 1) := by decide +kernel
theorem d_Mo_closes_19 : decode prog_12_method_20_code 19 = .ok (.iaload, 1) := by decide +kernel
theorem d_Mo_closes_20 : decode prog_12_method_20_code 20 = .ok (.istore_n 3, 1) := by decide +kernel
theorem d_Mo_closes_21 : decode prog_12_method_20_code 21 = .ok (.iload_n 2, 1) := by decide +kernel
theorem d_Mo_closes_22 : decode prog_12_method_20_code 22 = .ok (.iconst 1, 1) := by decide +kernel
theorem d_Mo_closes_23 : decode prog_12_method_20_code 23 = .ok (.if_icmp .ne 12, 3) := by decide +kernel
theorem d_Mo_closes_26 : decode prog_12_method_20_code 26 = .ok (.aload_n 0, 1) := by decide +kernel
theorem d_Mo_closes_27 : decode prog_12_method_20_code 27 = .ok (.bipush 41, 2) := by decide +kernel
theorem d_Mo_closes_29 : decode prog_12_method_20_code 29 = .ok (.invokevirtual 155, 3) := by decide +kernel
theorem d_Mo_closes_32 : decode prog_12_method_20_code 32 = .ok (.ifCond .ne 34, 3) := by decide +kernel
theorem d_Mo_closes_35 : decode prog_12_method_20_code 35 = .ok (.iload_n 2, 1) := by decide +kernel
theorem d_Mo_closes_36 : decode prog_12_method_20_code 36 = .ok (.iconst 2, 1) := by decide +kernel
theorem d_Mo_closes_37 : decode prog_12_method_20_code 37 = .ok (.if_icmp .ne 12, 3) := by decide +kernel
theorem d_Mo_closes_40 : decode prog_12_method_20_code 40 = .ok (.aload_n 0, 1) := by decide +kernel
theorem d_Mo_closes_41 : decode prog_12_method_20_code 41 = .ok (.bipush 125, 2) := by decide +kernel
theorem d_Mo_closes_43 : decode prog_12_method_20_code 43 = .ok (.invokevirtual 155, 3) := by decide +kernel
theorem d_Mo_closes_46 : decode prog_12_method_20_code 46 = .ok (.ifCond .ne 20, 3) := by decide +kernel
theorem d_Mo_closes_49 : decode prog_12_method_20_code 49 = .ok (.iload_n 2, 1) := by decide +kernel
theorem d_Mo_closes_50 : decode prog_12_method_20_code 50 = .ok (.bipush 6, 2) := by decide +kernel
theorem d_Mo_closes_52 : decode prog_12_method_20_code 52 = .ok (.if_icmp .ne 12, 3) := by decide +kernel
theorem d_Mo_closes_55 : decode prog_12_method_20_code 55 = .ok (.aload_n 0, 1) := by decide +kernel
theorem d_Mo_closes_56 : decode prog_12_method_20_code 56 = .ok (.bipush 93, 2) := by decide +kernel
theorem d_Mo_closes_58 : decode prog_12_method_20_code 58 = .ok (.invokevirtual 155, 3) := by decide +kernel
theorem d_Mo_closes_61 : decode prog_12_method_20_code 61 = .ok (.ifCond .ne 5, 3) := by decide +kernel
theorem d_Mo_closes_64 : decode prog_12_method_20_code 64 = .ok (.iconst 0, 1) := by decide +kernel
theorem d_Mo_closes_65 : decode prog_12_method_20_code 65 = .ok (.ireturn, 1) := by decide +kernel
theorem d_Mo_closes_66 : decode prog_12_method_20_code 66 = .ok (.iload_n 2, 1) := by decide +kernel
theorem d_Mo_closes_67 : decode prog_12_method_20_code 67 = .ok (.iconst 1, 1) := by decide +kernel
theorem d_Mo_closes_68 : decode prog_12_method_20_code 68 = .ok (.if_icmp .eq 17, 3) := by decide +kernel
theorem d_Mo_closes_71 : decode prog_12_method_20_code 71 = .ok (.aload_n 0, 1) := by decide +kernel
theorem d_Mo_closes_72 : decode prog_12_method_20_code 72 = .ok (.getfield 16, 3) := by decide +kernel
theorem d_Mo_closes_75 : decode prog_12_method_20_code 75 = .ok (.iload_n 3, 1) := by decide +kernel
theorem d_Mo_closes_76 : decode prog_12_method_20_code 76 = .ok (.iconst 1, 1) := by decide +kernel
theorem d_Mo_closes_77 : decode prog_12_method_20_code 77 = .ok (.iadd, 1) := by decide +kernel
theorem d_Mo_closes_78 : decode prog_12_method_20_code 78 = .ok (.aload_n 0, 1) := by decide +kernel
theorem d_Mo_closes_79 : decode prog_12_method_20_code 79 = .ok (.getfield 32, 3) := by decide +kernel
theorem d_Mo_closes_82 : decode prog_12_method_20_code 82 = .ok (.iload_n 1, 1) := by decide +kernel
theorem d_Mo_closes_83 : decode prog_12_method_20_code 83 = .ok (.iaload, 1) := by decide +kernel
theorem d_Mo_closes_84 : decode prog_12_method_20_code 84 = .ok (.iastore, 1) := by decide +kernel
theorem d_Mo_closes_85 : decode prog_12_method_20_code 85 = .ok (.iload_n 2, 1) := by decide +kernel
theorem d_Mo_closes_86 : decode prog_12_method_20_code 86 = .ok (.iconst 2, 1) := by decide +kernel
theorem d_Mo_closes_87 : decode prog_12_method_20_code 87 = .ok (.if_icmp .ne 16, 3) := by decide +kernel
theorem d_Mo_closes_90 : decode prog_12_method_20_code 90 = .ok (.aload_n 0, 1) := by decide +kernel
theorem d_Mo_closes_91 : decode prog_12_method_20_code 91 = .ok (.getfield 16, 3) := by decide +kernel
theorem d_Mo_closes_94 : decode prog_12_method_20_code 94 = .ok (.iload_n 3, 1) := by decide +kernel
theorem d_Mo_closes_95 : decode prog_12_method_20_code 95 = .ok (.bipush 6, 2) := by decide +kernel
theorem d_Mo_closes_97 : decode prog_12_method_20_code 97 = .ok (.iadd, 1) := by decide +kernel
theorem d_Mo_closes_98 : decode prog_12_method_20_code 98 = .ok (.aload_n 0, 1) := by decide +kernel
theorem d_Mo_closes_99 : decode prog_12_method_20_code 99 = .ok (.getfield 128, 3) := by decide +kernel
theorem d_Mo_closes_102 : decode prog_12_method_20_code 102 = .ok (.iastore, 1) := by decide +kernel
theorem d_Mo_closes_103 : decode prog_12_method_20_code 103 = .ok (.iconst 0, 1) := by decide +kernel
theorem d_Mo_closes_104 : decode prog_12_method_20_code 104 = .ok (.istore 4, 2) := by decide +kernel
theorem d_Mo_closes_106 : decode prog_12_method_20_code 106 = .ok (.iload 4, 2) := by decide +kernel
theorem d_Mo_closes_108 : decode prog_12_method_20_code 108 = .ok (.aload_n 0, 1) := by decide +kernel
theorem d_Mo_closes_109 : decode prog_12_method_20_code 109 = .ok (.getfield 32, 3) := by decide +kernel
theorem d_Mo_closes_112 : decode prog_12_method_20_code 112 = .ok (.iload_n 1, 1) := by decide +kernel
theorem d_Mo_closes_113 : decode prog_12_method_20_code 113 = .ok (.iaload, 1) := by decide +kernel
theorem d_Mo_closes_114 : decode prog_12_method_20_code 114 = .ok (.if_icmp .ge 35, 3) := by decide +kernel
theorem d_Mo_closes_117 : decode prog_12_method_20_code 117 = .ok (.iload_n 2, 1) := by decide +kernel
theorem d_Mo_closes_118 : decode prog_12_method_20_code 118 = .ok (.bipush 6, 2) := by decide +kernel
theorem d_Mo_closes_120 : decode prog_12_method_20_code 120 = .ok (.if_icmp .ne 29, 3) := by decide +kernel
theorem d_Mo_closes_123 : decode prog_12_method_20_code 123 = .ok (.aload_n 0, 1) := by decide +kernel
theorem d_Mo_closes_124 : decode prog_12_method_20_code 124 = .ok (.getfield 16, 3) := by decide +kernel
theorem d_Mo_closes_127 : decode prog_12_method_20_code 127 = .ok (.aload_n 0, 1) := by decide +kernel
theorem d_Mo_closes_128 : decode prog_12_method_20_code 128 = .ok (.getfield 35, 3) := by decide +kernel
theorem d_Mo_closes_131 : decode prog_12_method_20_code 131 = .ok (.iload_n 1, 1) := by decide +kernel
theorem d_Mo_closes_132 : decode prog_12_method_20_code 132 = .ok (.iconst 4, 1) := by decide +kernel
theorem d_Mo_closes_133 : decode prog_12_method_20_code 133 = .ok (.imul, 1) := by decide +kernel
theorem d_Mo_closes_134 : decode prog_12_method_20_code 134 = .ok (.iload 4, 2) := by decide +kernel
theorem d_Mo_closes_136 : decode prog_12_method_20_code 136 = .ok (.iadd, 1) := by decide +kernel
theorem d_Mo_closes_137 : decode prog_12_method_20_code 137 = .ok (.iaload, 1) := by decide +kernel
theorem d_Mo_closes_138 : decode prog_12_method_20_code 138 = .ok (.aload_n 0, 1) := by decide +kernel
theorem d_Mo_closes_139 : decode prog_12_method_20_code 139 = .ok (.getfield 128, 3) := by decide +kernel
theorem d_Mo_closes_142 : decode prog_12_method_20_code 142 = .ok (.iastore, 1) := by decide +kernel
theorem d_Mo_closes_143 : decode prog_12_method_20_code 143 = .ok (.iinc 4 1, 3) := by decide +kernel
theorem d_Mo_closes_146 : decode prog_12_method_20_code 146 = .ok (.goto (-40), 3) := by decide +kernel
theorem d_Mo_closes_149 : decode prog_12_method_20_code 149 = .ok (.aload_n 0, 1) := by decide +kernel
theorem d_Mo_closes_150 : decode prog_12_method_20_code 150 = .ok (.dup, 1) := by decide +kernel
theorem d_Mo_closes_151 : decode prog_12_method_20_code 151 = .ok (.getfield 159, 3) := by decide +kernel
theorem d_Mo_closes_154 : decode prog_12_method_20_code 154 = .ok (.iconst 1, 1) := by decide +kernel
theorem d_Mo_closes_155 : decode prog_12_method_20_code 155 = .ok (.isub, 1) := by decide +kernel
theorem d_Mo_closes_156 : decode prog_12_method_20_code 156 = .ok (.putfield 159, 3) := by decide +kernel
theorem d_Mo_closes_159 : decode prog_12_method_20_code 159 = .ok (.iconst 1, 1) := by decide +kernel
theorem d_Mo_closes_160 : decode prog_12_method_20_code 160 = .ok (.ireturn, 1) := by decide +kernel
set_option maxHeartbeats 4000000 in
set_option maxRecDepth 100000 in
theorem m_closes (l : Launch) (dC : Nat → ClassId) (dI : Nat → Nat → Nat) (ar : Nat → ClassId) (N0 : Nat) (z : Nat → Nat) (h0 : Nat) (ad : Nat → Nat) (I : Nat → Int32) (T : Int64) (A : Nat → Nat → Int32) (U : Nat → Int64) (P S a0 o mn hd kd : Nat) (jm : Nat → Nat) (sz : Nat) (h6 : I 6 = Int32.ofNat P) (h4 : I 4 = Int32.ofNat S) (hP9 : P ≤ 72) (hS9 : S ≤ 72) (h7 : I 7 = Int32.ofNat a0) (ha0 : a0 ≤ 1100) (h18 : I 18 = Int32.ofNat o) (ho1 : 1 ≤ o) (ho : o ≤ 8) (h11 : A 11 (o - 1) = Int32.ofNat kd) (hkd1 : 1 ≤ kd) (hkd : kd ≤ 6) (h13 : A 13 (o - 1) = Int32.ofNat mn) (hmn : mn ≤ 4) (h12 : A 12 (o - 1) = Int32.ofNat hd) (hhd : hd + 7 ≤ 1200) (h14 : kd = 6 → ∀ k, k < mn → A 14 ((o - 1) * 4 + k) = Int32.ofNat (jm k)) (hjm : kd = 6 → ∀ k, k < mn → jm k < 1200) : Met l ({ cls := "ChannelMachineModel", name := "closes", desc := "()Z" } : Jvm.MethodName) ((Jvm.Cond.code ({ cls := "ChannelMachineModel", name := "closes", desc := "()Z" } : Jvm.MethodName) prog_12_method_20_code (5 : Nat) (Option.some Jvm.ClassFile.FieldType.boolean)) :: x_T) ({ frames := 2, cells := 0, slots := 0, locals := 41 }) (x_Pc (dC, dI) ar N0 z (m_W h0 ad ar I T A U) sz [.ref h0]) (va_Qi (fun (r : Int32) (u : (Nat → Int32) × Int64 × (Nat → Nat → Int32) × (Nat → Int64)) => (r = 0 ∧ u = (I, T, A, U) ∧ ¬ (kd = 1 ∧ x_lk (A 0) P S = 41) ∧ ¬ (kd = 2 ∧ x_lk (A 0) P S = 125) ∧ ¬ (kd = 6 ∧ x_lk (A 0) P S = 93)) ∨ (r = 1 ∧ P < S ∧ u.1 = (upd (upd I 6 (Int32.ofNat (P + 1))) 18 (Int32.ofNat (o - 1))) ∧ u.2.1 = T ∧ u.2.2.2 = U ∧ m_fa [2] A u.2.2.1 ∧ ((kd = 1 ∧ u.2.2.1 2 = A 2) ∨ (kd = 2 ∧ u.2.2.1 2 = upd (upd (A 2) (hd + 1) (Int32.ofNat mn)) (hd + 6) (Int32.ofNat a0)) ∨ (kd = 6 ∧ (∀ j, (∃ k, k < mn ∧ jm k = j) → u.2.2.1 2 j = Int32.ofNat a0) ∧ ∀ j, (∀ k, k < mn → jm k ≠ j) → u.2.2.1 2 j = upd (A 2) (hd + 1) (Int32.ofNat mn) j)))) (fun u t => va_P (dC, dI) x_cl (m_W h0 ad ar u.1 u.2.1 u.2.2.1 u.2.2.2) t.heap) (va_A (m_W h0 ad ar I T A U) sz)) 0 0 (va_A (m_W h0 ad ar I T A U) sz) := by
  refine Met.ofW (cc := prog_12_method_20_code) (maxL := 5) (ret := (some .boolean)) (by decide) rfl ?_
  intro p e s m args below meth c s₁ B hml hv
  obtain ⟨rfl, hsz, hN0, hP, hU, hZ, hD0⟩ := hv
  have hK := hU.1
  have hx := B.exec
  have hb := B.bytes
  have hr := B.returns
  have hts : ∀ w ∈ x_T, w.before ([.ref h0] : List Value).toArray s = true := fun w h => atoms_spec (ws := (Jvm.Cond.code ({ cls := "ChannelMachineModel", name := "closes", desc := "()Z" } : Jvm.MethodName) prog_12_method_20_code (5 : Nat) (Option.some Jvm.ClassFile.FieldType.boolean)) :: x_T) B.pre w (List.mem_cons_of_mem _ h)
  have hown : s.vm.findClass "ChannelMachineModel" = some m.cls := findClass_of_methodNamed B.named
  have hlocks := B.notSynchronized
  subst hsz
  have hD := hD0.self (sz := s.heap.size)
  have hAN := x_AN hD0 hN0
  generalize hAe : va_A (m_W h0 ad ar I T A U) s.heap.size = Bq at hD hAN ⊢
  have hA : ∀ q : Nat, s.heap.size ≤ q → Bq q := fun q h => by rw [← hAe]; exact Or.inr h
  have hS : va_S Bq s.heap s.heap [] := va_S.rf
  have hl := lv_entry ([.ref h0]) (n := 5) (Nat.le_of_ble_eq_true rfl)
  rw [lg_entry_eq]
  generalize (lg_sl ([.ref h0]) ++ List.replicate (5 - (lg_sl ([.ref h0])).length) Slot.unset).toArray = ls at hl ⊢
  have hl : lv_has ls 5 [(0, .ref h0)] := hl
  refine lv_aload_n hx hb d_Mo_closes_0 rfl (lv_at hl 0 rfl) ?_
  refine m_g hx hb hts hown hK hP 18 (by decide) rfl (hts _ k_985) (v := .int (Int32.ofNat o)) (congrArg Value.int h18) d_Mo_closes_1 ?_
  refine lv_iconst (v := 1) hx hb d_Mo_closes_4 (by decide) ?_
  refine lv_isub hx hb d_Mo_closes_5 ?_
  refine W.eq (g2 := F0 m 6 ls [.int (Int32.ofNat (o - 1))]) (by rw [← x_subN (a := o) (b := 1) (by omega)] <;> rfl) ?_
  refine lv_istore_n (lv' := [(1, .int (Int32.ofNat (o - 1))), (0, .ref h0)]) hx hb d_Mo_closes_6 rfl hl (by decide) rfl (fun ls hl => ?_)
  refine lv_aload_n hx hb d_Mo_closes_7 rfl (lv_at hl 1 rfl) ?_
  refine m_g hx hb hts hown hK hP 11 (by decide) rfl (hts _ k_978) (v := .ref (ad 11)) rfl d_Mo_closes_8 ?_
  refine lv_iload_n hx hb d_Mo_closes_11 rfl (lv_at hl 0 rfl) ?_
  refine m_ld hx hb hK hP 4 rfl (by decide) (j := (Int32.ofNat (o - 1))) (x_inN (by omega) (by decide)) d_Mo_closes_12 ?_
  refine W.eq (g2 := F0 m 13 ls [.int (Int32.ofNat kd)]) (by rw [x_nat (a := o - 1) (by omega), h11]) ?_
  refine lv_istore_n (lv' := [(2, .int (Int32.ofNat kd)), (1, .int (Int32.ofNat (o - 1))), (0, .ref h0)]) hx hb d_Mo_closes_13 rfl hl (by decide) rfl (fun ls hl => ?_)
  refine lv_aload_n hx hb d_Mo_closes_14 rfl (lv_at hl 2 rfl) ?_
  refine m_g hx hb hts hown hK hP 12 (by decide) rfl (hts _ k_979) (v := .ref (ad 12)) rfl d_Mo_closes_15 ?_
  refine lv_iload_n hx hb d_Mo_closes_18 rfl (lv_at hl 1 rfl) ?_
  refine m_ld hx hb hK hP 5 rfl (by decide) (j := (Int32.ofNat (o - 1))) (x_inN (by omega) (by decide)) d_Mo_closes_19 ?_
  refine W.eq (g2 := F0 m 20 ls [.int (Int32.ofNat hd)]) (by rw [x_nat (a := o - 1) (by omega), h12]) ?_
  refine lv_istore_n (lv' := [(3, .int (Int32.ofNat hd)), (2, .int (Int32.ofNat kd)), (1, .int (Int32.ofNat (o - 1))), (0, .ref h0)]) hx hb d_Mo_closes_20 rfl hl (by decide) rfl (fun ls hl => ?_)
  rcases (show kd = 1 ∨ kd = 2 ∨ kd = 3 ∨ kd = 4 ∨ kd = 5 ∨ kd = 6 by omega) with rfl | rfl | rfl | rfl | rfl | rfl
  · have hl : lv_has ls 5 [(3, .int (Int32.ofNat hd)), (2, .int 1), (1, .int (Int32.ofNat (o - 1))), (0, .ref h0)] := hl
    refine lv_iload_n hx hb d_Mo_closes_21 rfl (lv_at hl 1 rfl) ?_
    refine lv_iconst (v := 1) hx hb d_Mo_closes_22 (by decide) ?_
    refine lv_icmp_ne (tgt := 35) hx hb d_Mo_closes_23 (by decide) (fun c1 => absurd rfl c1) (fun _ => ?_)
    refine lv_aload_n hx hb d_Mo_closes_26 rfl (lv_at hl 3 rfl) ?_
    refine lv_bipush (v := 41) hx hb d_Mo_closes_27 (by decide) ?_
    have hFc := m_free hD hS hA
    refine va_calli (va_runV (As := [.int 41]) (rest := []) ⟨hx, hb, hml, hown, hts⟩ (m_passes l dC dI ar N0 z h0 ad I T A U P S (41) s.heap.size h6 h4 (by omega) (by omega)) (cwV 1 hts (x_goodV k_1136 k_1138 kp_52 k_9 k_1139) rfl rfl rfl (by decide +kernel) ⟨Nat.le_of_ble_eq_true rfl, Nat.le_of_ble_eq_true rfl⟩) ⟨x_blind, va_recv hK hP (ci := 6) (q0 := 0) rfl rfl, fun U9 hU9 hW9 => x_pre hU9 hW9 hP hD hU hZ hS hAN hN0⟩ rfl rfl hl.1 rfl (lv_room (Nat.le_of_ble_eq_true rfl)) d_Mo_closes_29 ⟨Nat.le_of_ble_eq_true rfl, Nat.le_of_ble_eq_true rfl⟩) hS (fun q _ h => hFc q h) hFc (fun r2 u t H1 locs ht hvm hw hB hz1 hk1 hS => ?_)
    obtain ⟨I4, T4, A4, U4⟩ := u
    dsimp only at hw hB
    rw [ht] at hB
    have hP : va_P (dC, dI) x_cl (m_W h0 ad ar I4 T4 A4 U4) H1 := hB
    have hD : va_D Bq (m_W h0 ad ar I4 T4 A4 U4) := m_D hD
    generalize H1 = H at hP hS ⊢
    refine W.widen (k := 0) (n := 0) (Nat.le_of_ble_eq_true rfl) (Nat.le_of_ble_eq_true rfl) ?_
    rcases hw with ⟨p5, rfl, h9⟩ | ⟨p5, rfl, h9⟩
    · cases h9
      have hpp5 : P < S := m_lk0 (by rw [p5]; decide)
      refine lv_if_ne (tgt := 66) hx hb d_Mo_closes_32 (by decide) (fun _ => ?_) (fun c6 => absurd c6 (by decide))
      refine lv_iload_n hx hb d_Mo_closes_66 rfl (lv_at hl 1 rfl) ?_
      refine lv_iconst (v := 1) hx hb d_Mo_closes_67 (by decide) ?_
      refine lv_icmp_eq (tgt := 85) hx hb d_Mo_closes_68 (by decide) (fun _ => ?_) (fun c7 => absurd (by decide) c7)
      refine lv_iload_n hx hb d_Mo_closes_85 rfl (lv_at hl 1 rfl) ?_
      refine lv_iconst (v := 2) hx hb d_Mo_closes_86 (by decide) ?_
      refine lv_icmp_ne (tgt := 103) hx hb d_Mo_closes_87 (by decide) (fun _ => ?_) (fun c8 => absurd c8 (by decide))
      refine lv_iconst (v := 0) hx hb d_Mo_closes_103 (by decide) ?_
      refine lv_istore (lv' := [(4, .int 0), (3, .int (Int32.ofNat hd)), (2, .int 1), (1, .int (Int32.ofNat (o - 1))), (0, .ref h0)]) hx hb d_Mo_closes_104 hl (by decide) rfl (fun ls hl => ?_)
      refine lv_iload hx hb d_Mo_closes_106 (lv_at hl 0 rfl) ?_
      refine lv_aload_n hx hb d_Mo_closes_108 rfl (lv_at hl 4 rfl) ?_
      refine m_g hx hb hts hown hK hP 13 (by decide) rfl (hts _ k_980) (v := .ref (ad 13)) rfl d_Mo_closes_109 ?_
      refine lv_iload_n hx hb d_Mo_closes_112 rfl (lv_at hl 3 rfl) ?_
      refine m_ld hx hb hK hP 6 rfl (by decide) (j := (Int32.ofNat (o - 1))) (x_inN (by omega) (by decide)) d_Mo_closes_113 ?_
      refine W.eq (g2 := F0 m 114 ls [.int (Int32.ofNat mn), .int 0]) (by rw [x_nat (a := o - 1) (by omega), h13]) ?_
      refine lv_icmp_ge (tgt := 149) hx hb d_Mo_closes_114 (by decide) (fun c9 => ?_) (fun c9 => ?_)
      · have c9 : mn ≤ 0 := (x_leN (a := mn) (b := 0) (by omega) (by omega)).mp c9
        refine lv_aload_n hx hb d_Mo_closes_149 rfl (lv_at hl 4 rfl) ?_
        refine lv_dup hx hb d_Mo_closes_150 rfl ?_
        refine m_g hx hb hts hown hK hP 18 (by decide) rfl (hts _ k_985) (v := .int (Int32.ofNat o)) (congrArg Value.int h18) d_Mo_closes_151 ?_
        refine lv_iconst (v := 1) hx hb d_Mo_closes_154 (by decide) ?_
        refine lv_isub hx hb d_Mo_closes_155 ?_
        refine W.eq (g2 := F0 m 156 ls [.int (Int32.ofNat (o - 1)), .ref h0]) (by rw [← x_subN (a := o) (b := 1) (by omega)] <;> rfl) ?_
        refine m_p hx hb hts hown hK hP hD hS 18 (by decide) rfl (hts _ k_985) rfl (by decide +kernel) rfl (by decide) (x := (Int32.ofNat (o - 1))) d_Mo_closes_156 (fun H locs hP hD hS => ?_)
        refine lv_iconst (v := 1) hx hb d_Mo_closes_159 (by decide) ?_
        refine W.widen (k := 0) (n := 0) (Nat.le_of_ble_eq_true rfl) (Nat.le_of_ble_eq_true rfl) ?_
        exact W.zret (v := 1) hx hb hr (rfl) (fun t ht hW => ⟨⟨1, ((upd (upd I 6 (Int32.ofNat (P + 1))) 18 (Int32.ofNat (o - 1))), T, A, U), rfl, Or.inr ⟨rfl, hpp5, rfl, rfl, rfl, m_fa.rf, Or.inl ⟨rfl, rfl⟩⟩, by dsimp only; rw [ht]; exact hP⟩, hS.F ht⟩) hS.2.2 d_Mo_closes_160
      · have c9 : ¬ mn ≤ 0 := fun h9 => c9 ((x_leN (a := mn) (b := 0) (by omega) (by omega)).mpr h9)
        refine lv_iload_n hx hb d_Mo_closes_117 rfl (lv_at hl 2 rfl) ?_
        refine lv_bipush (v := 6) hx hb d_Mo_closes_118 (by decide) ?_
        refine lv_icmp_ne (tgt := 149) hx hb d_Mo_closes_120 (by decide) (fun _ => ?_) (fun c10 => absurd c10 (by decide))
        refine lv_aload_n hx hb d_Mo_closes_149 rfl (lv_at hl 4 rfl) ?_
        refine lv_dup hx hb d_Mo_closes_150 rfl ?_
        refine m_g hx hb hts hown hK hP 18 (by decide) rfl (hts _ k_985) (v := .int (Int32.ofNat o)) (congrArg Value.int h18) d_Mo_closes_151 ?_
        refine lv_iconst (v := 1) hx hb d_Mo_closes_154 (by decide) ?_
        refine lv_isub hx hb d_Mo_closes_155 ?_
        refine W.eq (g2 := F0 m 156 ls [.int (Int32.ofNat (o - 1)), .ref h0]) (by rw [← x_subN (a := o) (b := 1) (by omega)] <;> rfl) ?_
        refine m_p hx hb hts hown hK hP hD hS 18 (by decide) rfl (hts _ k_985) rfl (by decide +kernel) rfl (by decide) (x := (Int32.ofNat (o - 1))) d_Mo_closes_156 (fun H locs hP hD hS => ?_)
        refine lv_iconst (v := 1) hx hb d_Mo_closes_159 (by decide) ?_
        refine W.widen (k := 0) (n := 0) (Nat.le_of_ble_eq_true rfl) (Nat.le_of_ble_eq_true rfl) ?_
        exact W.zret (v := 1) hx hb hr (rfl) (fun t ht hW => ⟨⟨1, ((upd (upd I 6 (Int32.ofNat (P + 1))) 18 (Int32.ofNat (o - 1))), T, A, U), rfl, Or.inr ⟨rfl, hpp5, rfl, rfl, rfl, m_fa.rf, Or.inl ⟨rfl, rfl⟩⟩, by dsimp only; rw [ht]; exact hP⟩, hS.F ht⟩) hS.2.2 d_Mo_closes_160
    · cases h9
      refine lv_if_ne (tgt := 66) hx hb d_Mo_closes_32 (by decide) (fun c11 => absurd rfl c11) (fun _ => ?_)
      refine lv_iload_n hx hb d_Mo_closes_35 rfl (lv_at hl 1 rfl) ?_
      refine lv_iconst (v := 2) hx hb d_Mo_closes_36 (by decide) ?_
      refine lv_icmp_ne (tgt := 49) hx hb d_Mo_closes_37 (by decide) (fun _ => ?_) (fun c12 => absurd c12 (by decide))
      refine lv_iload_n hx hb d_Mo_closes_49 rfl (lv_at hl 1 rfl) ?_
      refine lv_bipush (v := 6) hx hb d_Mo_closes_50 (by decide) ?_
      refine lv_icmp_ne (tgt := 64) hx hb d_Mo_closes_52 (by decide) (fun _ => ?_) (fun c13 => absurd c13 (by decide))
      refine lv_iconst (v := 0) hx hb d_Mo_closes_64 (by decide) ?_
      refine W.widen (k := 0) (n := 0) (Nat.le_of_ble_eq_true rfl) (Nat.le_of_ble_eq_true rfl) ?_
      exact W.zret (v := 0) hx hb hr (rfl) (fun t ht hW => ⟨⟨0, (I, T, A, U), rfl, Or.inl ⟨rfl, rfl, fun h => p5 h.2, fun h => absurd h.1 (by decide), fun h => absurd h.1 (by decide)⟩, by dsimp only; rw [ht]; exact hP⟩, hS.F ht⟩) hS.2.2 d_Mo_closes_65
  · have hl : lv_has ls 5 [(3, .int (Int32.ofNat hd)), (2, .int 2), (1, .int (Int32.ofNat (o - 1))), (0, .ref h0)] := hl
    refine lv_iload_n hx hb d_Mo_closes_21 rfl (lv_at hl 1 rfl) ?_
    refine lv_iconst (v := 1) hx hb d_Mo_closes_22 (by decide) ?_
    refine lv_icmp_ne (tgt := 35) hx hb d_Mo_closes_23 (by decide) (fun _ => ?_) (fun c14 => absurd c14 (by decide))
    refine lv_iload_n hx hb d_Mo_closes_35 rfl (lv_at hl 1 rfl) ?_
    refine lv_iconst (v := 2) hx hb d_Mo_closes_36 (by decide) ?_
    refine lv_icmp_ne (tgt := 49) hx hb d_Mo_closes_37 (by decide) (fun c15 => absurd rfl c15) (fun _ => ?_)
    refine lv_aload_n hx hb d_Mo_closes_40 rfl (lv_at hl 3 rfl) ?_
    refine lv_bipush (v := 125) hx hb d_Mo_closes_41 (by decide) ?_
    have hFc := m_free hD hS hA
    refine va_calli (va_runV (As := [.int 125]) (rest := []) ⟨hx, hb, hml, hown, hts⟩ (m_passes l dC dI ar N0 z h0 ad I T A U P S (125) s.heap.size h6 h4 (by omega) (by omega)) (cwV 1 hts (x_goodV k_1136 k_1138 kp_52 k_9 k_1139) rfl rfl rfl (by decide +kernel) ⟨Nat.le_of_ble_eq_true rfl, Nat.le_of_ble_eq_true rfl⟩) ⟨x_blind, va_recv hK hP (ci := 6) (q0 := 0) rfl rfl, fun U9 hU9 hW9 => x_pre hU9 hW9 hP hD hU hZ hS hAN hN0⟩ rfl rfl hl.1 rfl (lv_room (Nat.le_of_ble_eq_true rfl)) d_Mo_closes_43 ⟨Nat.le_of_ble_eq_true rfl, Nat.le_of_ble_eq_true rfl⟩) hS (fun q _ h => hFc q h) hFc (fun r16 u t H1 locs ht hvm hw hB hz1 hk1 hS => ?_)
    obtain ⟨I18, T18, A18, U18⟩ := u
    dsimp only at hw hB
    rw [ht] at hB
    have hP : va_P (dC, dI) x_cl (m_W h0 ad ar I18 T18 A18 U18) H1 := hB
    have hD : va_D Bq (m_W h0 ad ar I18 T18 A18 U18) := m_D hD
    generalize H1 = H at hP hS ⊢
    refine W.widen (k := 0) (n := 0) (Nat.le_of_ble_eq_true rfl) (Nat.le_of_ble_eq_true rfl) ?_
    rcases hw with ⟨p19, rfl, h9⟩ | ⟨p19, rfl, h9⟩
    · cases h9
      have hpp19 : P < S := m_lk0 (by rw [p19]; decide)
      refine lv_if_ne (tgt := 66) hx hb d_Mo_closes_46 (by decide) (fun _ => ?_) (fun c20 => absurd c20 (by decide))
      refine lv_iload_n hx hb d_Mo_closes_66 rfl (lv_at hl 1 rfl) ?_
      refine lv_iconst (v := 1) hx hb d_Mo_closes_67 (by decide) ?_
      refine lv_icmp_eq (tgt := 85) hx hb d_Mo_closes_68 (by decide) (fun c21 => absurd c21 (by decide)) (fun _ => ?_)
      refine lv_aload_n hx hb d_Mo_closes_71 rfl (lv_at hl 3 rfl) ?_
      refine m_g hx hb hts hown hK hP 2 (by decide) rfl (hts _ k_969) (v := .ref (ad 2)) rfl d_Mo_closes_72 ?_
      refine lv_iload_n hx hb d_Mo_closes_75 rfl (lv_at hl 0 rfl) ?_
      refine lv_iconst (v := 1) hx hb d_Mo_closes_76 (by decide) ?_
      refine lv_iadd hx hb d_Mo_closes_77 ?_
      refine W.eq (g2 := F0 m 78 ls [.int (Int32.ofNat (hd + 1)), .ref (ad 2)]) (by rw [← x_addN (a := hd) (b := 1)] <;> rfl) ?_
      refine lv_aload_n hx hb d_Mo_closes_78 rfl (lv_at hl 3 rfl) ?_
      refine m_g hx hb hts hown hK hP 13 (by decide) rfl (hts _ k_980) (v := .ref (ad 13)) rfl d_Mo_closes_79 ?_
      refine lv_iload_n hx hb d_Mo_closes_82 rfl (lv_at hl 2 rfl) ?_
      refine m_ld hx hb hK hP 6 rfl (by decide) (j := (Int32.ofNat (o - 1))) (x_inN (by omega) (by decide)) d_Mo_closes_83 ?_
      refine W.eq (g2 := F0 m 84 ls [.int (Int32.ofNat mn), .int (Int32.ofNat (hd + 1)), .ref (ad 2)]) (by rw [x_nat (a := o - 1) (by omega), h13]) ?_
      refine m_st hx hb hK hP hD hS 2 rfl (by decide) (j := (Int32.ofNat (hd + 1))) (x := (Int32.ofNat mn)) (x_inN (by omega) (by decide)) d_Mo_closes_84 (fun H locs hP hD hS => ?_)
      rw [x_nat (a := (hd + 1)) (by omega)] at hP hD
      refine lv_iload_n hx hb d_Mo_closes_85 rfl (lv_at hl 1 rfl) ?_
      refine lv_iconst (v := 2) hx hb d_Mo_closes_86 (by decide) ?_
      refine lv_icmp_ne (tgt := 103) hx hb d_Mo_closes_87 (by decide) (fun c22 => absurd rfl c22) (fun _ => ?_)
      refine lv_aload_n hx hb d_Mo_closes_90 rfl (lv_at hl 3 rfl) ?_
      refine m_g hx hb hts hown hK hP 2 (by decide) rfl (hts _ k_969) (v := .ref (ad 2)) rfl d_Mo_closes_91 ?_
      refine lv_iload_n hx hb d_Mo_closes_94 rfl (lv_at hl 0 rfl) ?_
      refine lv_bipush (v := 6) hx hb d_Mo_closes_95 (by decide) ?_
      refine lv_iadd hx hb d_Mo_closes_97 ?_
      refine W.eq (g2 := F0 m 98 ls [.int (Int32.ofNat (hd + 6)), .ref (ad 2)]) (by rw [← x_addN (a := hd) (b := 6)] <;> rfl) ?_
      refine lv_aload_n hx hb d_Mo_closes_98 rfl (lv_at hl 3 rfl) ?_
      refine m_g hx hb hts hown hK hP 7 (by decide) rfl (hts _ k_974) (v := .int (Int32.ofNat a0)) (congrArg Value.int h7) d_Mo_closes_99 ?_
      refine m_st hx hb hK hP hD hS 2 rfl (by decide) (j := (Int32.ofNat (hd + 6))) (x := (Int32.ofNat a0)) (x_inN (by omega) (by decide)) d_Mo_closes_102 (fun H locs hP hD hS => ?_)
      rw [x_nat (a := (hd + 6)) (by omega)] at hP hD
      refine lv_iconst (v := 0) hx hb d_Mo_closes_103 (by decide) ?_
      refine lv_istore (lv' := [(4, .int 0), (3, .int (Int32.ofNat hd)), (2, .int 2), (1, .int (Int32.ofNat (o - 1))), (0, .ref h0)]) hx hb d_Mo_closes_104 hl (by decide) rfl (fun ls hl => ?_)
      refine lv_iload hx hb d_Mo_closes_106 (lv_at hl 0 rfl) ?_
      refine lv_aload_n hx hb d_Mo_closes_108 rfl (lv_at hl 4 rfl) ?_
      refine m_g hx hb hts hown hK hP 13 (by decide) rfl (hts _ k_980) (v := .ref (ad 13)) rfl d_Mo_closes_109 ?_
      refine lv_iload_n hx hb d_Mo_closes_112 rfl (lv_at hl 3 rfl) ?_
      refine m_ld hx hb hK hP 6 rfl (by decide) (j := (Int32.ofNat (o - 1))) (x_inN (by omega) (by decide)) d_Mo_closes_113 ?_
      refine W.eq (g2 := F0 m 114 ls [.int (Int32.ofNat mn), .int 0]) (by rw [x_nat (a := o - 1) (by omega), show ∀ x, (m_up (m_up A 2 (upd (A 2) ((hd + 1)) (Int32.ofNat mn))) 2 (upd ((m_up A 2 (upd (A 2) ((hd + 1)) (Int32.ofNat mn))) 2) ((hd + 6)) (Int32.ofNat a0))) 13 x = A 13 x from fun _ => rfl, h13]) ?_
      refine lv_icmp_ge (tgt := 149) hx hb d_Mo_closes_114 (by decide) (fun c23 => ?_) (fun c23 => ?_)
      · have c23 : mn ≤ 0 := (x_leN (a := mn) (b := 0) (by omega) (by omega)).mp c23
        refine lv_aload_n hx hb d_Mo_closes_149 rfl (lv_at hl 4 rfl) ?_
        refine lv_dup hx hb d_Mo_closes_150 rfl ?_
        refine m_g hx hb hts hown hK hP 18 (by decide) rfl (hts _ k_985) (v := .int (Int32.ofNat o)) (congrArg Value.int h18) d_Mo_closes_151 ?_
        refine lv_iconst (v := 1) hx hb d_Mo_closes_154 (by decide) ?_
        refine lv_isub hx hb d_Mo_closes_155 ?_
        refine W.eq (g2 := F0 m 156 ls [.int (Int32.ofNat (o - 1)), .ref h0]) (by rw [← x_subN (a := o) (b := 1) (by omega)] <;> rfl) ?_
        refine m_p hx hb hts hown hK hP hD hS 18 (by decide) rfl (hts _ k_985) rfl (by decide +kernel) rfl (by decide) (x := (Int32.ofNat (o - 1))) d_Mo_closes_156 (fun H locs hP hD hS => ?_)
        refine lv_iconst (v := 1) hx hb d_Mo_closes_159 (by decide) ?_
        refine W.widen (k := 0) (n := 0) (Nat.le_of_ble_eq_true rfl) (Nat.le_of_ble_eq_true rfl) ?_
        exact W.zret (v := 1) hx hb hr (rfl) (fun t ht hW => ⟨⟨1, ((upd (upd I 6 (Int32.ofNat (P + 1))) 18 (Int32.ofNat (o - 1))), T, (m_up (m_up A 2 (upd (A 2) ((hd + 1)) (Int32.ofNat mn))) 2 (upd ((m_up A 2 (upd (A 2) ((hd + 1)) (Int32.ofNat mn))) 2) ((hd + 6)) (Int32.ofNat a0))), U), rfl, Or.inr ⟨rfl, hpp19, rfl, rfl, rfl, (m_fa.rf.up (by decide) _).up (by decide) _, Or.inr (Or.inl ⟨rfl, by dsimp only; simp only [m_up_s]⟩)⟩, by dsimp only; rw [ht]; exact hP⟩, hS.F ht⟩) hS.2.2 d_Mo_closes_160
      · have c23 : ¬ mn ≤ 0 := fun h9 => c23 ((x_leN (a := mn) (b := 0) (by omega) (by omega)).mpr h9)
        refine lv_iload_n hx hb d_Mo_closes_117 rfl (lv_at hl 2 rfl) ?_
        refine lv_bipush (v := 6) hx hb d_Mo_closes_118 (by decide) ?_
        refine lv_icmp_ne (tgt := 149) hx hb d_Mo_closes_120 (by decide) (fun _ => ?_) (fun c24 => absurd c24 (by decide))
        refine lv_aload_n hx hb d_Mo_closes_149 rfl (lv_at hl 4 rfl) ?_
        refine lv_dup hx hb d_Mo_closes_150 rfl ?_
        refine m_g hx hb hts hown hK hP 18 (by decide) rfl (hts _ k_985) (v := .int (Int32.ofNat o)) (congrArg Value.int h18) d_Mo_closes_151 ?_
        refine lv_iconst (v := 1) hx hb d_Mo_closes_154 (by decide) ?_
        refine lv_isub hx hb d_Mo_closes_155 ?_
        refine W.eq (g2 := F0 m 156 ls [.int (Int32.ofNat (o - 1)), .ref h0]) (by rw [← x_subN (a := o) (b := 1) (by omega)] <;> rfl) ?_
        refine m_p hx hb hts hown hK hP hD hS 18 (by decide) rfl (hts _ k_985) rfl (by decide +kernel) rfl (by decide) (x := (Int32.ofNat (o - 1))) d_Mo_closes_156 (fun H locs hP hD hS => ?_)
        refine lv_iconst (v := 1) hx hb d_Mo_closes_159 (by decide) ?_
        refine W.widen (k := 0) (n := 0) (Nat.le_of_ble_eq_true rfl) (Nat.le_of_ble_eq_true rfl) ?_
        exact W.zret (v := 1) hx hb hr (rfl) (fun t ht hW => ⟨⟨1, ((upd (upd I 6 (Int32.ofNat (P + 1))) 18 (Int32.ofNat (o - 1))), T, (m_up (m_up A 2 (upd (A 2) ((hd + 1)) (Int32.ofNat mn))) 2 (upd ((m_up A 2 (upd (A 2) ((hd + 1)) (Int32.ofNat mn))) 2) ((hd + 6)) (Int32.ofNat a0))), U), rfl, Or.inr ⟨rfl, hpp19, rfl, rfl, rfl, (m_fa.rf.up (by decide) _).up (by decide) _, Or.inr (Or.inl ⟨rfl, by dsimp only; simp only [m_up_s]⟩)⟩, by dsimp only; rw [ht]; exact hP⟩, hS.F ht⟩) hS.2.2 d_Mo_closes_160
    · cases h9
      refine lv_if_ne (tgt := 66) hx hb d_Mo_closes_46 (by decide) (fun c25 => absurd rfl c25) (fun _ => ?_)
      refine lv_iload_n hx hb d_Mo_closes_49 rfl (lv_at hl 1 rfl) ?_
      refine lv_bipush (v := 6) hx hb d_Mo_closes_50 (by decide) ?_
      refine lv_icmp_ne (tgt := 64) hx hb d_Mo_closes_52 (by decide) (fun _ => ?_) (fun c26 => absurd c26 (by decide))
      refine lv_iconst (v := 0) hx hb d_Mo_closes_64 (by decide) ?_
      refine W.widen (k := 0) (n := 0) (Nat.le_of_ble_eq_true rfl) (Nat.le_of_ble_eq_true rfl) ?_
      exact W.zret (v := 0) hx hb hr (rfl) (fun t ht hW => ⟨⟨0, (I, T, A, U), rfl, Or.inl ⟨rfl, rfl, fun h => absurd h.1 (by decide), fun h => p19 h.2, fun h => absurd h.1 (by decide)⟩, by dsimp only; rw [ht]; exact hP⟩, hS.F ht⟩) hS.2.2 d_Mo_closes_65
  · have hl : lv_has ls 5 [(3, .int (Int32.ofNat hd)), (2, .int 3), (1, .int (Int32.ofNat (o - 1))), (0, .ref h0)] := hl
    refine lv_iload_n hx hb d_Mo_closes_21 rfl (lv_at hl 1 rfl) ?_
    refine lv_iconst (v := 1) hx hb d_Mo_closes_22 (by decide) ?_
    refine lv_icmp_ne (tgt := 35) hx hb d_Mo_closes_23 (by decide) (fun _ => ?_) (fun c27 => absurd c27 (by decide))
    refine lv_iload_n hx hb d_Mo_closes_35 rfl (lv_at hl 1 rfl) ?_
    refine lv_iconst (v := 2) hx hb d_Mo_closes_36 (by decide) ?_
    refine lv_icmp_ne (tgt := 49) hx hb d_Mo_closes_37 (by decide) (fun _ => ?_) (fun c28 => absurd c28 (by decide))
    refine lv_iload_n hx hb d_Mo_closes_49 rfl (lv_at hl 1 rfl) ?_
    refine lv_bipush (v := 6) hx hb d_Mo_closes_50 (by decide) ?_
    refine lv_icmp_ne (tgt := 64) hx hb d_Mo_closes_52 (by decide) (fun _ => ?_) (fun c29 => absurd c29 (by decide))
    refine lv_iconst (v := 0) hx hb d_Mo_closes_64 (by decide) ?_
    refine W.widen (k := 0) (n := 0) (Nat.le_of_ble_eq_true rfl) (Nat.le_of_ble_eq_true rfl) ?_
    exact W.zret (v := 0) hx hb hr (rfl) (fun t ht hW => ⟨⟨0, (I, T, A, U), rfl, Or.inl ⟨rfl, rfl, fun h => absurd h.1 (by decide), fun h => absurd h.1 (by decide), fun h => absurd h.1 (by decide)⟩, by dsimp only; rw [ht]; exact hP⟩, hS.F ht⟩) hS.2.2 d_Mo_closes_65
  · have hl : lv_has ls 5 [(3, .int (Int32.ofNat hd)), (2, .int 4), (1, .int (Int32.ofNat (o - 1))), (0, .ref h0)] := hl
    refine lv_iload_n hx hb d_Mo_closes_21 rfl (lv_at hl 1 rfl) ?_
    refine lv_iconst (v := 1) hx hb d_Mo_closes_22 (by decide) ?_
    refine lv_icmp_ne (tgt := 35) hx hb d_Mo_closes_23 (by decide) (fun _ => ?_) (fun c30 => absurd c30 (by decide))
    refine lv_iload_n hx hb d_Mo_closes_35 rfl (lv_at hl 1 rfl) ?_
    refine lv_iconst (v := 2) hx hb d_Mo_closes_36 (by decide) ?_
    refine lv_icmp_ne (tgt := 49) hx hb d_Mo_closes_37 (by decide) (fun _ => ?_) (fun c31 => absurd c31 (by decide))
    refine lv_iload_n hx hb d_Mo_closes_49 rfl (lv_at hl 1 rfl) ?_
    refine lv_bipush (v := 6) hx hb d_Mo_closes_50 (by decide) ?_
    refine lv_icmp_ne (tgt := 64) hx hb d_Mo_closes_52 (by decide) (fun _ => ?_) (fun c32 => absurd c32 (by decide))
    refine lv_iconst (v := 0) hx hb d_Mo_closes_64 (by decide) ?_
    refine W.widen (k := 0) (n := 0) (Nat.le_of_ble_eq_true rfl) (Nat.le_of_ble_eq_true rfl) ?_
    exact W.zret (v := 0) hx hb hr (rfl) (fun t ht hW => ⟨⟨0, (I, T, A, U), rfl, Or.inl ⟨rfl, rfl, fun h => absurd h.1 (by decide), fun h => absurd h.1 (by decide), fun h => absurd h.1 (by decide)⟩, by dsimp only; rw [ht]; exact hP⟩, hS.F ht⟩) hS.2.2 d_Mo_closes_65
  · have hl : lv_has ls 5 [(3, .int (Int32.ofNat hd)), (2, .int 5), (1, .int (Int32.ofNat (o - 1))), (0, .ref h0)] := hl
    refine lv_iload_n hx hb d_Mo_closes_21 rfl (lv_at hl 1 rfl) ?_
    refine lv_iconst (v := 1) hx hb d_Mo_closes_22 (by decide) ?_
    refine lv_icmp_ne (tgt := 35) hx hb d_Mo_closes_23 (by decide) (fun _ => ?_) (fun c33 => absurd c33 (by decide))
    refine lv_iload_n hx hb d_Mo_closes_35 rfl (lv_at hl 1 rfl) ?_
    refine lv_iconst (v := 2) hx hb d_Mo_closes_36 (by decide) ?_
    refine lv_icmp_ne (tgt := 49) hx hb d_Mo_closes_37 (by decide) (fun _ => ?_) (fun c34 => absurd c34 (by decide))
    refine lv_iload_n hx hb d_Mo_closes_49 rfl (lv_at hl 1 rfl) ?_
    refine lv_bipush (v := 6) hx hb d_Mo_closes_50 (by decide) ?_
    refine lv_icmp_ne (tgt := 64) hx hb d_Mo_closes_52 (by decide) (fun _ => ?_) (fun c35 => absurd c35 (by decide))
    refine lv_iconst (v := 0) hx hb d_Mo_closes_64 (by decide) ?_
    refine W.widen (k := 0) (n := 0) (Nat.le_of_ble_eq_true rfl) (Nat.le_of_ble_eq_true rfl) ?_
    exact W.zret (v := 0) hx hb hr (rfl) (fun t ht hW => ⟨⟨0, (I, T, A, U), rfl, Or.inl ⟨rfl, rfl, fun h => absurd h.1 (by decide), fun h => absurd h.1 (by decide), fun h => absurd h.1 (by decide)⟩, by dsimp only; rw [ht]; exact hP⟩, hS.F ht⟩) hS.2.2 d_Mo_closes_65
  · have hl : lv_has ls 5 [(3, .int (Int32.ofNat hd)), (2, .int 6), (1, .int (Int32.ofNat (o - 1))), (0, .ref h0)] := hl
    refine lv_iload_n hx hb d_Mo_closes_21 rfl (lv_at hl 1 rfl) ?_
    refine lv_iconst (v := 1) hx hb d_Mo_closes_22 (by decide) ?_
    refine lv_icmp_ne (tgt := 35) hx hb d_Mo_closes_23 (by decide) (fun _ => ?_) (fun c36 => absurd c36 (by decide))
    refine lv_iload_n hx hb d_Mo_closes_35 rfl (lv_at hl 1 rfl) ?_
    refine lv_iconst (v := 2) hx hb d_Mo_closes_36 (by decide) ?_
    refine lv_icmp_ne (tgt := 49) hx hb d_Mo_closes_37 (by decide) (fun _ => ?_) (fun c37 => absurd c37 (by decide))
    refine lv_iload_n hx hb d_Mo_closes_49 rfl (lv_at hl 1 rfl) ?_
    refine lv_bipush (v := 6) hx hb d_Mo_closes_50 (by decide) ?_
    refine lv_icmp_ne (tgt := 64) hx hb d_Mo_closes_52 (by decide) (fun c38 => absurd rfl c38) (fun _ => ?_)
    refine lv_aload_n hx hb d_Mo_closes_55 rfl (lv_at hl 3 rfl) ?_
    refine lv_bipush (v := 93) hx hb d_Mo_closes_56 (by decide) ?_
    have hFc := m_free hD hS hA
    refine va_calli (va_runV (As := [.int 93]) (rest := []) ⟨hx, hb, hml, hown, hts⟩ (m_passes l dC dI ar N0 z h0 ad I T A U P S (93) s.heap.size h6 h4 (by omega) (by omega)) (cwV 1 hts (x_goodV k_1136 k_1138 kp_52 k_9 k_1139) rfl rfl rfl (by decide +kernel) ⟨Nat.le_of_ble_eq_true rfl, Nat.le_of_ble_eq_true rfl⟩) ⟨x_blind, va_recv hK hP (ci := 6) (q0 := 0) rfl rfl, fun U9 hU9 hW9 => x_pre hU9 hW9 hP hD hU hZ hS hAN hN0⟩ rfl rfl hl.1 rfl (lv_room (Nat.le_of_ble_eq_true rfl)) d_Mo_closes_58 ⟨Nat.le_of_ble_eq_true rfl, Nat.le_of_ble_eq_true rfl⟩) hS (fun q _ h => hFc q h) hFc (fun r39 u t H1 locs ht hvm hw hB hz1 hk1 hS => ?_)
    obtain ⟨I41, T41, A41, U41⟩ := u
    dsimp only at hw hB
    rw [ht] at hB
    have hP : va_P (dC, dI) x_cl (m_W h0 ad ar I41 T41 A41 U41) H1 := hB
    have hD : va_D Bq (m_W h0 ad ar I41 T41 A41 U41) := m_D hD
    generalize H1 = H at hP hS ⊢
    refine W.widen (k := 0) (n := 0) (Nat.le_of_ble_eq_true rfl) (Nat.le_of_ble_eq_true rfl) ?_
    rcases hw with ⟨p42, rfl, h9⟩ | ⟨p42, rfl, h9⟩
    · cases h9
      have hpp42 : P < S := m_lk0 (by rw [p42]; decide)
      refine lv_if_ne (tgt := 66) hx hb d_Mo_closes_61 (by decide) (fun _ => ?_) (fun c43 => absurd c43 (by decide))
      refine lv_iload_n hx hb d_Mo_closes_66 rfl (lv_at hl 1 rfl) ?_
      refine lv_iconst (v := 1) hx hb d_Mo_closes_67 (by decide) ?_
      refine lv_icmp_eq (tgt := 85) hx hb d_Mo_closes_68 (by decide) (fun c44 => absurd c44 (by decide)) (fun _ => ?_)
      refine lv_aload_n hx hb d_Mo_closes_71 rfl (lv_at hl 3 rfl) ?_
      refine m_g hx hb hts hown hK hP 2 (by decide) rfl (hts _ k_969) (v := .ref (ad 2)) rfl d_Mo_closes_72 ?_
      refine lv_iload_n hx hb d_Mo_closes_75 rfl (lv_at hl 0 rfl) ?_
      refine lv_iconst (v := 1) hx hb d_Mo_closes_76 (by decide) ?_
      refine lv_iadd hx hb d_Mo_closes_77 ?_
      refine W.eq (g2 := F0 m 78 ls [.int (Int32.ofNat (hd + 1)), .ref (ad 2)]) (by rw [← x_addN (a := hd) (b := 1)] <;> rfl) ?_
      refine lv_aload_n hx hb d_Mo_closes_78 rfl (lv_at hl 3 rfl) ?_
      refine m_g hx hb hts hown hK hP 13 (by decide) rfl (hts _ k_980) (v := .ref (ad 13)) rfl d_Mo_closes_79 ?_
      refine lv_iload_n hx hb d_Mo_closes_82 rfl (lv_at hl 2 rfl) ?_
      refine m_ld hx hb hK hP 6 rfl (by decide) (j := (Int32.ofNat (o - 1))) (x_inN (by omega) (by decide)) d_Mo_closes_83 ?_
      refine W.eq (g2 := F0 m 84 ls [.int (Int32.ofNat mn), .int (Int32.ofNat (hd + 1)), .ref (ad 2)]) (by rw [x_nat (a := o - 1) (by omega), h13]) ?_
      refine m_st hx hb hK hP hD hS 2 rfl (by decide) (j := (Int32.ofNat (hd + 1))) (x := (Int32.ofNat mn)) (x_inN (by omega) (by decide)) d_Mo_closes_84 (fun H locs hP hD hS => ?_)
      rw [x_nat (a := (hd + 1)) (by omega)] at hP hD
      refine lv_iload_n hx hb d_Mo_closes_85 rfl (lv_at hl 1 rfl) ?_
      refine lv_iconst (v := 2) hx hb d_Mo_closes_86 (by decide) ?_
      refine lv_icmp_ne (tgt := 103) hx hb d_Mo_closes_87 (by decide) (fun _ => ?_) (fun c45 => absurd c45 (by decide))
      refine lv_iconst (v := 0) hx hb d_Mo_closes_103 (by decide) ?_
      refine W.eq (g2 := F0 m 104 ls [.int (Int32.ofNat 0)]) rfl ?_
      refine lv_istore (lv' := [(4, .int (Int32.ofNat 0)), (3, .int (Int32.ofNat hd)), (2, .int 6), (1, .int (Int32.ofNat (o - 1))), (0, .ref h0)]) hx hb d_Mo_closes_104 hl (by decide) rfl (fun ls hl => ?_)
      refine x_while (fun n H locs ls => ∃ (A1 : Nat → Nat → Int32) (i1 : Nat), n = mn - i1 ∧ i1 ≤ mn ∧ m_fa [2] A A1 ∧ (∀ j, (∃ k, k < i1 ∧ jm k = j) → A1 2 j = Int32.ofNat a0) ∧ (∀ j, (∀ k, k < i1 → jm k ≠ j) → A1 2 j = upd (A 2) (hd + 1) (Int32.ofNat mn) j) ∧ va_P (dC, dI) x_cl (m_W h0 ad ar (upd I 6 (Int32.ofNat (P + 1))) T A1 U) H ∧ va_D Bq (m_W h0 ad ar (upd I 6 (Int32.ofNat (P + 1))) T A1 U) ∧ va_S Bq s.heap H locs ∧ lv_has ls 5 [(0, .ref h0), (1, .int (Int32.ofNat (o - 1))), (2, .int 6), (3, .int (Int32.ofNat hd)), (4, .int (Int32.ofNat i1))]) (fun n ih H locs ls h9 => ?_) ⟨(m_up A 2 (upd (A 2) ((hd + 1)) (Int32.ofNat mn))), 0, rfl, Nat.zero_le _, m_fa.rf.up (by decide) _, fun j ⟨k, hk, _⟩ => absurd hk (Nat.not_lt_zero k), fun j _ => by rw [m_up_s], hP, hD, hS, lv_sub hl [4, 3, 2, 1, 0] rfl⟩
      obtain ⟨A1, i1, hn9, q1, hfa, g1, g2, hP, hD, hS, hl⟩ := h9
      have e13 : A1 13 = A 13 := hfa 13 (by decide)
      have e14 : A1 14 = A 14 := hfa 14 (by decide)
      refine lv_iload hx hb d_Mo_closes_106 (lv_at hl 4 rfl) ?_
      refine lv_aload_n hx hb d_Mo_closes_108 rfl (lv_at hl 0 rfl) ?_
      refine m_g hx hb hts hown hK hP 13 (by decide) rfl (hts _ k_980) (v := .ref (ad 13)) rfl d_Mo_closes_109 ?_
      refine lv_iload_n hx hb d_Mo_closes_112 rfl (lv_at hl 1 rfl) ?_
      refine m_ld hx hb hK hP 6 rfl (by decide) (j := (Int32.ofNat (o - 1))) (x_inN (by omega) (by decide)) d_Mo_closes_113 ?_
      refine W.eq (g2 := F0 m 114 ls [.int (Int32.ofNat mn), .int (Int32.ofNat i1)]) (by rw [x_nat (a := o - 1) (by omega), e13, h13]) ?_
      refine lv_icmp_ge (tgt := 149) hx hb d_Mo_closes_114 (by decide) (fun c46 => ?_) (fun c46 => ?_)
      · have c46 : mn ≤ i1 := (x_leN (a := mn) (b := i1) (by omega) (by omega)).mp c46
        refine lv_aload_n hx hb d_Mo_closes_149 rfl (lv_at hl 0 rfl) ?_
        refine lv_dup hx hb d_Mo_closes_150 rfl ?_
        refine m_g hx hb hts hown hK hP 18 (by decide) rfl (hts _ k_985) (v := .int (Int32.ofNat o)) (congrArg Value.int h18) d_Mo_closes_151 ?_
        refine lv_iconst (v := 1) hx hb d_Mo_closes_154 (by decide) ?_
        refine lv_isub hx hb d_Mo_closes_155 ?_
        refine W.eq (g2 := F0 m 156 ls [.int (Int32.ofNat (o - 1)), .ref h0]) (by rw [← x_subN (a := o) (b := 1) (by omega)] <;> rfl) ?_
        refine m_p hx hb hts hown hK hP hD hS 18 (by decide) rfl (hts _ k_985) rfl (by decide +kernel) rfl (by decide) (x := (Int32.ofNat (o - 1))) d_Mo_closes_156 (fun H locs hP hD hS => ?_)
        refine lv_iconst (v := 1) hx hb d_Mo_closes_159 (by decide) ?_
        refine W.widen (k := 0) (n := 0) (Nat.le_of_ble_eq_true rfl) (Nat.le_of_ble_eq_true rfl) ?_
        exact W.zret (v := 1) hx hb hr (rfl) (fun t ht hW => ⟨⟨1, ((upd (upd I 6 (Int32.ofNat (P + 1))) 18 (Int32.ofNat (o - 1))), T, A1, U), rfl, Or.inr ⟨rfl, hpp42, rfl, rfl, rfl, hfa, Or.inr (Or.inr ⟨rfl, fun j ⟨k, hk, ek⟩ => g1 j ⟨k, by omega, ek⟩, fun j hj => g2 j (fun k hk => hj k (by omega))⟩)⟩, by dsimp only; rw [ht]; exact hP⟩, hS.F ht⟩) hS.2.2 d_Mo_closes_160
      · have c46 : ¬ mn ≤ i1 := fun h9 => c46 ((x_leN (a := mn) (b := i1) (by omega) (by omega)).mpr h9)
        refine lv_iload_n hx hb d_Mo_closes_117 rfl (lv_at hl 2 rfl) ?_
        refine lv_bipush (v := 6) hx hb d_Mo_closes_118 (by decide) ?_
        refine lv_icmp_ne (tgt := 149) hx hb d_Mo_closes_120 (by decide) (fun c47 => absurd rfl c47) (fun _ => ?_)
        refine lv_aload_n hx hb d_Mo_closes_123 rfl (lv_at hl 0 rfl) ?_
        refine m_g hx hb hts hown hK hP 2 (by decide) rfl (hts _ k_969) (v := .ref (ad 2)) rfl d_Mo_closes_124 ?_
        refine lv_aload_n hx hb d_Mo_closes_127 rfl (lv_at hl 0 rfl) ?_
        refine m_g hx hb hts hown hK hP 14 (by decide) rfl (hts _ k_981) (v := .ref (ad 14)) rfl d_Mo_closes_128 ?_
        refine lv_iload_n hx hb d_Mo_closes_131 rfl (lv_at hl 1 rfl) ?_
        refine lv_iconst (v := 4) hx hb d_Mo_closes_132 (by decide) ?_
        refine lv_imul hx hb d_Mo_closes_133 ?_
        refine W.eq (g2 := F0 m 134 ls [.int (Int32.ofNat ((o - 1) * 4)), .ref (ad 14), .ref (ad 2)]) (by rw [← x_mulN (a := (o - 1)) (b := 4)] <;> rfl) ?_
        refine lv_iload hx hb d_Mo_closes_134 (lv_at hl 4 rfl) ?_
        refine lv_iadd hx hb d_Mo_closes_136 ?_
        refine W.eq (g2 := F0 m 137 ls [.int (Int32.ofNat (((o - 1) * 4) + i1)), .ref (ad 14), .ref (ad 2)]) (by rw [← x_addN (a := ((o - 1) * 4)) (b := i1)] <;> rfl) ?_
        refine m_ld hx hb hK hP 7 rfl (by decide) (j := (Int32.ofNat (((o - 1) * 4) + i1))) (x_inN (by omega) (by decide)) d_Mo_closes_137 ?_
        refine W.eq (g2 := F0 m 138 ls [.int (Int32.ofNat (jm i1)), .ref (ad 2)]) (by rw [x_nat (a := (((o - 1) * 4) + i1)) (by omega), e14, h14 rfl i1 (by omega)]) ?_
        have hj9 := hjm rfl i1 (by omega)
        refine lv_aload_n hx hb d_Mo_closes_138 rfl (lv_at hl 0 rfl) ?_
        refine m_g hx hb hts hown hK hP 7 (by decide) rfl (hts _ k_974) (v := .int (Int32.ofNat a0)) (congrArg Value.int h7) d_Mo_closes_139 ?_
        refine m_st hx hb hK hP hD hS 2 rfl (by decide) (j := (Int32.ofNat (jm i1))) (x := (Int32.ofNat a0)) (x_inN (by omega) (by decide)) d_Mo_closes_142 (fun H locs hP hD hS => ?_)
        rw [x_nat (a := (jm i1)) (by omega)] at hP hD
        refine lv_iinc (v := (Int32.ofNat (i1 + 1))) (lv' := [(4, .int (Int32.ofNat (i1 + 1))), (0, .ref h0), (1, .int (Int32.ofNat (o - 1))), (2, .int 6), (3, .int (Int32.ofNat hd))]) hx hb d_Mo_closes_143 hl (k := 4) rfl (x_incN i1) (by decide) rfl (fun ls hl => ?_)
        refine lv_goto (tgt := 106) hx hb d_Mo_closes_146 (by decide) ?_
        refine ih (mn - (i1 + 1)) (by omega) H locs ls ⟨(m_up A1 2 (upd (A1 2) ((jm i1)) (Int32.ofNat a0))), i1 + 1, rfl, by omega, hfa.up (by decide) _, fun j ⟨k, hk, ek⟩ => ?_, fun j hj => ?_, hP, hD, hS, lv_sub hl [1, 2, 3, 4, 0] rfl⟩
        · rw [m_up_s]
          by_cases ej : j = jm i1
          · rw [ej, upd_s]
          · rw [upd_n ej]; exact g1 j ⟨k, by rcases Nat.lt_or_ge k i1 with h | h; exact h; exact absurd (by rw [← ek, show k = i1 by omega]) ej, ek⟩
        · rw [m_up_s, upd_n (fun h => hj i1 (by omega) h.symm)]; exact g2 j (fun k hk => hj k (by omega))
    · cases h9
      refine lv_if_ne (tgt := 66) hx hb d_Mo_closes_61 (by decide) (fun c48 => absurd rfl c48) (fun _ => ?_)
      refine lv_iconst (v := 0) hx hb d_Mo_closes_64 (by decide) ?_
      refine W.widen (k := 0) (n := 0) (Nat.le_of_ble_eq_true rfl) (Nat.le_of_ble_eq_true rfl) ?_
      exact W.zret (v := 0) hx hb hr (rfl) (fun t ht hW => ⟨⟨0, (I, T, A, U), rfl, Or.inl ⟨rfl, rfl, fun h => absurd h.1 (by decide), fun h => absurd h.1 (by decide), fun h => p42 h.2⟩, by dsimp only; rw [ht]; exact hP⟩, hS.F ht⟩) hS.2.2 d_Mo_closes_65
