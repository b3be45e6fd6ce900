-- ===== 41.guard: guard of the reference, by program =====
theorem k_1160 : (Jvm.Cond.methodLink "ChannelMachineModel" (165 : Nat) ({ cls := "ChannelMachineModel", name := "expression", desc := "()Z" } : Jvm.MethodName)) ∈ x_T := x_at 1160 (by decide +kernel) (by decide +kernel)
theorem k_1162 : (Jvm.Cond.instanceMethod ({ cls := "ChannelMachineModel", name := "expression", desc := "()Z" } : Jvm.MethodName)) ∈ x_T := x_at 1162 (by decide +kernel) (by decide +kernel)
theorem k_1163 : (Jvm.Cond.code ({ cls := "ChannelMachineModel", name := "expression", desc := "()Z" } : Jvm.MethodName) prog_12_method_15_code (9 : Nat) (Option.some Jvm.ClassFile.FieldType.boolean)) ∈ x_T := x_at 1163 (by decide +kernel) (by decide +kernel)
theorem k_1179 : (Jvm.Cond.methodLink "ChannelMachineModel" (162 : Nat) ({ cls := "ChannelMachineModel", name := "channelOf", desc := "(I)I" } : Jvm.MethodName)) ∈ x_T := x_at 1179 (by decide +kernel) (by decide +kernel)
theorem k_1180 : (Jvm.Cond.static ({ cls := "ChannelMachineModel", name := "channelOf", desc := "(I)I" } : Jvm.MethodName)) ∈ x_T := x_at 1180 (by decide +kernel) (by decide +kernel)
theorem k_1181 : (Jvm.Cond.code ({ cls := "ChannelMachineModel", name := "channelOf", desc := "(I)I" } : Jvm.MethodName) prog_12_method_17_code (1 : Nat) (Option.some Jvm.ClassFile.FieldType.int)) ∈ x_T := x_at 1181 (by decide +kernel) (by decide +kernel)
theorem kp_58 : (Jvm.Cond.selects "ChannelMachineModel" ({ cls := "ChannelMachineModel", name := "expression", desc := "()Z" } : Jvm.MethodName) ({ cls := "ChannelMachineModel", name := "expression", desc := "()Z" } : Jvm.MethodName)) ∈ x_T := x_sel (q := (({ cls := "ChannelMachineModel", name := "expression", desc := "()Z" } : Jvm.MethodName), 45)) 58 (by decide +kernel) (by decide +kernel)
theorem d_Mo_guard_0 : decode prog_12_method_19_code 0 = .ok (.aload_n 0, 1) := by decide +kernel
theorem d_Mo_guard_1 : decode prog_12_method_19_code 1 = .ok (.getfield 159, 3) := by decide +kernel
theorem d_Mo_guard_4 : decode prog_12_method_19_code 4 = .ok (.iconst 1, 1) := by decide +kernel
theorem d_Mo_guard_5 : decode prog_12_method_19_code 5 = .ok (.isub, 1) := by decide +kernel
theorem d_Mo_guard_6 : decode prog_12_method_19_code 6 = .ok (.istore_n 2, 1) := by decide +kernel
theorem d_Mo_guard_7 : decode prog_12_method_19_code 7 = .ok (.aload_n 0, 1) := by decide +kernel
theorem d_Mo_guard_8 : decode prog_12_method_19_code 8 = .ok (.getfield 32, 3) := by decide +kernel
theorem d_Mo_guard_11 : decode prog_12_method_19_code 11 = .ok (.iload_n 2, 1) := by decide +kernel
theorem d_Mo_guard_12 : decode prog_12_method_19_code 12 = .ok (.iaload, 1) := by decide +kernel
theorem d_Mo_guard_13 : decode prog_12_method_19_code 13 = .ok (.istore_n 3, 1) := by decide +kernel
theorem d_Mo_guard_14 : decode prog_12_method_19_code 14 = .ok (.aload_n 0, 1) := by decide +kernel
theorem d_Mo_guard_15 : decode prog_12_method_19_code 15 = .ok (.getfield 29, 3) := by decide +kernel
theorem d_Mo_guard_18 : decode prog_12_method_19_code 18 = .ok (.iload_n 2, 1) := by decide +kernel
theorem d_Mo_guard_19 : decode prog_12_method_19_code 19 = .ok (.iaload, 1) := by decide +kernel
theorem d_Mo_guard_20 : decode prog_12_method_19_code 20 = .ok (.iconst 2, 1) := by decide +kernel
theorem d_Mo_guard_21 : decode prog_12_method_19_code 21 = .ok (.iadd, 1) := by decide +kernel
theorem d_Mo_guard_22 : decode prog_12_method_19_code 22 = .ok (.iload_n 3, 1) := by decide +kernel
theorem d_Mo_guard_23 : decode prog_12_method_19_code 23 = .ok (.iconst 4, 1) := by decide +kernel
theorem d_Mo_guard_24 : decode prog_12_method_19_code 24 = .ok (.imul, 1) := by decide +kernel
theorem d_Mo_guard_25 : decode prog_12_method_19_code 25 = .ok (.iadd, 1) := by decide +kernel
theorem d_Mo_guard_26 : decode prog_12_method_19_code 26 = .ok (.istore 4, 2) := by decide +kernel
theorem d_Mo_guard_28 : decode prog_12_method_19_code 28 = .ok (.iload_n 3, 1) := by decide +kernel
theorem d_Mo_guard_29 : decode prog_12_method_19_code 29 = .ok (.iconst 4, 1) := by decide +kernel
theorem d_Mo_guard_30 : decode prog_12_method_19_code 30 = .ok (.if_icmp .eq 9, 3) := by decide +kernel
theorem d_Mo_guard_33 : decode prog_12_method_19_code 33 = .ok (.iload_n 1, 1) := by decide +kernel
theorem d_Mo_guard_34 : decode prog_12_method_19_code 34 = .ok (.bipush 7, 2) := by decide +kernel
theorem d_Mo_guard_36 : decode prog_12_method_19_code 36 = .ok (.if_icmp .le 5, 3) := by decide +kernel
theorem d_Mo_guard_39 : decode prog_12_method_19_code 39 = .ok (.iconst 0, 1) := by decide +kernel
theorem d_Mo_guard_40 : decode prog_12_method_19_code 40 = .ok (.ireturn, 1) := by decide +kernel
theorem d_Mo_guard_41 : decode prog_12_method_19_code 41 = .ok (.aload_n 0, 1) := by decide +kernel
theorem d_Mo_guard_42 : decode prog_12_method_19_code 42 = .ok (.getfield 16, 3) := by decide +kernel
theorem d_Mo_guard_45 : decode prog_12_method_19_code 45 = .ok (.iload 4, 2) := by decide +kernel
theorem d_Mo_guard_47 : decode prog_12_method_19_code 47 = .ok (.aload_n 0, 1) := by decide +kernel
theorem d_Mo_guard_48 : decode prog_12_method_19_code 48 = .ok (.getfield 128, 3) := by decide +kernel
theorem d_Mo_guard_51 : decode prog_12_method_19_code 51 = .ok (.iastore, 1) := by decide +kernel
theorem d_Mo_guard_52 : decode prog_12_method_19_code 52 = .ok (.aload_n 0, 1) := by decide +kernel
theorem d_Mo_guard_53 : decode prog_12_method_19_code 53 = .ok (.invokevirtual 165, 3) := by decide +kernel
theorem d_Mo_guard_56 : decode prog_12_method_19_code 56 = .ok (.ifCond .eq 12, 3) := by decide +kernel
theorem d_Mo_guard_59 : decode prog_12_method_19_code 59 = .ok (.aload_n 0, 1) := by decide +kernel
theorem d_Mo_guard_60 : decode prog_12_method_19_code 60 = .ok (.bipush 38, 2) := by decide +kernel
theorem d_Mo_guard_62 : decode prog_12_method_19_code 62 = .ok (.invokevirtual 155, 3) := by decide +kernel
theorem d_Mo_guard_65 : decode prog_12_method_19_code 65 = .ok (.ifCond .ne 5, 3) := by decide +kernel
theorem d_Mo_guard_68 : decode prog_12_method_19_code 68 = .ok (.iconst 0, 1) := by decide +kernel
theorem d_Mo_guard_69 : decode prog_12_method_19_code 69 = .ok (.ireturn, 1) := by decide +kernel
theorem d_Mo_guard_70 : decode prog_12_method_19_code 70 = .ok (.aload_n 0, 1) := by decide +kernel
theorem d_Mo_guard_71 : decode prog_12_method_19_code 71 = .ok (.getfield 16, 3) := by decide +kernel
theorem d_Mo_guard_74 : decode prog_12_method_19_code 74 = .ok (.iload 4, 2) := by decide +kernel
theorem d_Mo_guard_76 : decode prog_12_method_19_code 76 = .ok (.iconst 1, 1) := by decide +kernel
theorem d_Mo_guard_77 : decode prog_12_method_19_code 77 = .ok (.iadd, 1) := by decide +kernel
theorem d_Mo_guard_78 : decode prog_12_method_19_code 78 = .ok (.iconst (-1), 1) := by decide +kernel
theorem d_Mo_guard_79 : decode prog_12_method_19_code 79 = .ok (.iastore, 1) := by decide +kernel
theorem d_Mo_guard_80 : decode prog_12_method_19_code 80 = .ok (.aload_n 0, 1) := by decide +kernel
theorem d_Mo_guard_81 : decode prog_12_method_19_code 81 = .ok (.bipush 46, 2) := by decide +kernel
theorem d_Mo_guard_83 : decode prog_12_method_19_code 83 = .ok (.invokevirtual 155, 3) := by decide +kernel
theorem d_Mo_guard_86 : decode prog_12_method_19_code 86 = .ok (.ifCond .ne 90, 3) := by decide +kernel
theorem d_Mo_guard_89 : decode prog_12_method_19_code 89 = .ok (.aload_n 0, 1) := by decide +kernel
theorem d_Mo_guard_90 : decode prog_12_method_19_code 90 = .ok (.invokevirtual 124, 3) := by decide +kernel
theorem d_Mo_guard_93 : decode prog_12_method_19_code 93 = .ok (.invokestatic 162, 3) := by decide +kernel
theorem d_Mo_guard_96 : decode prog_12_method_19_code 96 = .ok (.istore 5, 2) := by decide +kernel
theorem d_Mo_guard_98 : decode prog_12_method_19_code 98 = .ok (.iload 5, 2) := by decide +kernel
theorem d_Mo_guard_100 : decode prog_12_method_19_code 100 = .ok (.ifCond .lt 9, 3) := by decide +kernel
theorem d_Mo_guard_103 : decode prog_12_method_19_code 103 = .ok (.iload 5, 2) := by decide +kernel
theorem d_Mo_guard_105 : decode prog_12_method_19_code 105 = .ok (.iconst 5, 1) := by decide +kernel
theorem d_Mo_guard_106 : decode prog_12_method_19_code 106 = .ok (.if_icmp .ne 5, 3) := by decide +kernel
theorem d_Mo_guard_109 : decode prog_12_method_19_code 109 = .ok (.iconst 0, 1) := by decide +kernel
theorem d_Mo_guard_110 : decode prog_12_method_19_code 110 = .ok (.ireturn, 1) := by decide +kernel
theorem d_Mo_guard_111 : decode prog_12_method_19_code 111 = .ok (.aload_n 0, 1) := by decide +kernel
theorem d_Mo_guard_112 : decode prog_12_method_19_code 112 = .ok (.dup, 1) := by decide +kernel
theorem d_Mo_guard_113 : decode prog_12_method_19_code 113 = .ok (.getfield 121, 3) := by decide +kernel
theorem d_Mo_guard_116 : decode prog_12_method_19_code 116 = .ok (.iconst 1, 1) := by decide +kernel
theorem d_Mo_guard_117 : decode prog_12_method_19_code 117 = .ok (.iadd, 1) := by decide +kernel
theorem d_Mo_guard_118 : decode prog_12_method_19_code 118 = .ok (.putfield 121, 3) := by decide +kernel
theorem d_Mo_guard_121 : decode prog_12_method_19_code 121 = .ok (.aload_n 0, 1) := by decide +kernel
theorem d_Mo_guard_122 : decode prog_12_method_19_code 122 = .ok (.bipush 63, 2) := by decide +kernel
theorem d_Mo_guard_124 : decode prog_12_method_19_code 124 = .ok (.invokevirtual 155, 3) := by decide +kernel
theorem d_Mo_guard_127 : decode prog_12_method_19_code 127 = .ok (.ifCond .eq 10, 3) := by decide +kernel
theorem d_Mo_guard_130 : decode prog_12_method_19_code 130 = .ok (.aload_n 0, 1) := by decide +kernel
theorem d_Mo_guard_131 : decode prog_12_method_19_code 131 = .ok (.invokevirtual 142, 3) := by decide +kernel
theorem d_Mo_guard_134 : decode prog_12_method_19_code 134 = .ok (.ifCond .ne 5, 3) := by decide +kernel
theorem d_Mo_guard_137 : decode prog_12_method_19_code 137 = .ok (.iconst 0, 1) := by decide +kernel
theorem d_Mo_guard_138 : decode prog_12_method_19_code 138 = .ok (.ireturn, 1) := by decide +kernel
theorem d_Mo_guard_139 : decode prog_12_method_19_code 139 = .ok (.aload_n 0, 1) := by decide +kernel
theorem d_Mo_guard_140 : decode prog_12_method_19_code 140 = .ok (.getfield 16, 3) := by decide +kernel
theorem d_Mo_guard_143 : decode prog_12_method_19_code 143 = .ok (.iload 4, 2) := by decide +kernel
theorem d_Mo_guard_145 : decode prog_12_method_19_code 145 = .ok (.iconst 1, 1) := by decide +kernel
theorem d_Mo_guard_146 : decode prog_12_method_19_code 146 = .ok (.iadd, 1) := by decide +kernel
theorem d_Mo_guard_147 : decode prog_12_method_19_code 147 = .ok (.iload 5, 2) := by decide +kernel
theorem d_Mo_guard_149 : decode prog_12_method_19_code 149 = .ok (.iastore, 1) := by decide +kernel
theorem d_Mo_guard_150 : decode prog_12_method_19_code 150 = .ok (.aload_n 0, 1) := by decide +kernel
theorem d_Mo_guard_151 : decode prog_12_method_19_code 151 = .ok (.getfield 16, 3) := by decide +kernel
theorem d_Mo_guard_154 : decode prog_12_method_19_code 154 = .ok (.iload 4, 2) := by decide +kernel
theorem d_Mo_guard_156 : decode prog_12_method_19_code 156 = .ok (.iconst 2, 1) := by decide +kernel
theorem d_Mo_guard_157 : decode prog_12_method_19_code 157 = .ok (.iadd, 1) := by decide +kernel
theorem d_Mo_guard_158 : decode prog_12_method_19_code 158 = .ok (.aload_n 0, 1) := by decide +kernel
theorem d_Mo_guard_159 : decode prog_12_method_19_code 159 = .ok (.invokevirtual 124, 3) := by decide +kernel
theorem d_Mo_guard_162 : decode prog_12_method_19_code 162 = .ok (.bipush 97, 2) := by decide +kernel
theorem d_Mo_guard_164 : decode prog_12_method_19_code 164 = .ok (.isub, 1) := by decide +kernel
theorem d_Mo_guard_165 : decode prog_12_method_19_code 165 = .ok (.iastore, 1) := by decide +kernel
theorem d_Mo_guard_166 : decode prog_12_method_19_code 166 = .ok (.aload_n 0, 1) := by decide +kernel
theorem d_Mo_guard_167 : decode prog_12_method_19_code 167 = .ok (.dup, 1) := by decide +kernel
theorem d_Mo_guard_168 : decode prog_12_method_19_code 168 = .ok (.getfield 121, 3) := by decide +kernel
theorem d_Mo_guard_171 : decode prog_12_method_19_code 171 = .ok (.iconst 1, 1) := by decide +kernel
theorem d_Mo_guard_172 : decode prog_12_method_19_code 172 = .ok (.iadd, 1) := by decide +kernel
theorem d_Mo_guard_173 : decode prog_12_method_19_code 173 = .ok (.putfield 121, 3) := by decide +kernel
theorem d_Mo_guard_176 : decode prog_12_method_19_code 176 = .ok (.aload_n 0, 1) := by decide +kernel
theorem d_Mo_guard_177 : decode prog_12_method_19_code 177 = .ok (.bipush 44, 2) := by decide +kernel
theorem d_Mo_guard_179 : decode prog_12_method_19_code 179 = .ok (.invokevirtual 155, 3) := by decide +kernel
theorem d_Mo_guard_182 : decode prog_12_method_19_code 182 = .ok (.ifCond .ne 5, 3) := by decide +kernel
theorem d_Mo_guard_185 : decode prog_12_method_19_code 185 = .ok (.iconst 0, 1) := by decide +kernel
theorem d_Mo_guard_186 : decode prog_12_method_19_code 186 = .ok (.ireturn, 1) := by decide +kernel
theorem d_Mo_guard_187 : decode prog_12_method_19_code 187 = .ok (.aload_n 0, 1) := by decide +kernel
theorem d_Mo_guard_188 : decode prog_12_method_19_code 188 = .ok (.getfield 16, 3) := by decide +kernel
theorem d_Mo_guard_191 : decode prog_12_method_19_code 191 = .ok (.iload 4, 2) := by decide +kernel
theorem d_Mo_guard_193 : decode prog_12_method_19_code 193 = .ok (.iconst 3, 1) := by decide +kernel
theorem d_Mo_guard_194 : decode prog_12_method_19_code 194 = .ok (.iadd, 1) := by decide +kernel
theorem d_Mo_guard_195 : decode prog_12_method_19_code 195 = .ok (.aload_n 0, 1) := by decide +kernel
theorem d_Mo_guard_196 : decode prog_12_method_19_code 196 = .ok (.getfield 128, 3) := by decide +kernel
theorem d_Mo_guard_199 : decode prog_12_method_19_code 199 = .ok (.iastore, 1) := by decide +kernel
theorem d_Mo_guard_200 : decode prog_12_method_19_code 200 = .ok (.iconst 1, 1) := by decide +kernel
theorem d_Mo_guard_201 : decode prog_12_method_19_code 201 = .ok (.ireturn, 1) := by decide +kernel
theorem x_mulN {a b : Nat} : Int32.ofNat a * Int32.ofNat b = Int32.ofNat (a * b) := (Int32.ofNat_mul a b).symm
theorem x_ch_ok {v : Int32} (h1 : ¬ x_ch v < 0) (h2 : ¬ x_ch v = 5) : ∃ c : Nat, c ≤ 4 ∧ x_ch v = Int32.ofNat c := by
  unfold x_ch at h1 h2 ⊢
  by_cases e1 : v = 73
  · rw [if_pos e1]; exact ⟨4, by omega, rfl⟩
  · rw [if_neg e1] at h1 h2 ⊢
    by_cases e2 : v = 79
    · rw [if_pos e2] at h2; exact absurd rfl h2
    · rw [if_neg e2] at h1 h2 ⊢
      by_cases e3 : ¬ v < 65 ∧ ¬ 68 < v
      · rw [if_pos e3]
        obtain ⟨a1, a2⟩ := e3
        rw [x_lt] at a1 a2
        have b1 : (65 : Int32).toInt = 65 := by decide
        have b2 : (68 : Int32).toInt = 68 := by decide
        have hk : v.toInt = 65 ∨ v.toInt = 66 ∨ v.toInt = 67 ∨ v.toInt = 68 := by omega
        have e : ∀ k : Int32, v.toInt = k.toInt → v = k := fun k h => Int32.toInt_inj.mp h
        rcases hk with h | h | h | h
        · exact ⟨0, by omega, by rw [e 65 (by rw [h]; rfl)]; rfl⟩
        · exact ⟨1, by omega, by rw [e 66 (by rw [h]; rfl)]; rfl⟩
        · exact ⟨2, by omega, by rw [e 67 (by rw [h]; rfl)]; rfl⟩
        · exact ⟨3, by omega, by rw [e 68 (by rw [h]; rfl)]; rfl⟩
      · rw [if_neg e3] at h1
        exact absurd (by decide) h1
theorem x_ch_0 {t : Nat → Int32} {P S : Nat} {c : Int32} (h : c = x_lk t P S) (h1 : ¬ x_ch c < 0) : P < S := m_lk0 (fun h9 => h1 (by rw [h, h9]; decide))
set_option maxHeartbeats 4000000 in
set_option maxRecDepth 100000 in
theorem m_guard (l : Launch) (dC : Nat → ClassId) (dI : Nat → Nat → Nat) (ar : Nat → ClassId) (N0 : Nat) (z : Nat → Nat) (h0 : Nat) (ad : Nat → Nat) (I : Nat → Int32) (T : Int64) (A : Nat → Nat → Int32) (U : Nat → Int64) (P S a0 o mn hd dv : Nat) (sz : Nat) (h6 : I 6 = Int32.ofNat P) (h4 : I 4 = Int32.ofNat S) (hP9 : P ≤ 72) (hS9 : S ≤ 72) (hPS : P ≤ S) (h7 : I 7 = Int32.ofNat a0) (ha0 : a0 ≤ 1000) (h18 : I 18 = Int32.ofNat o) (ho1 : 1 ≤ o) (ho : o ≤ 8) (h13 : A 13 (o - 1) = Int32.ofNat mn) (hmn : mn ≤ 4) (h12 : A 12 (o - 1) = Int32.ofNat hd) (hhd : hd + 18 ≤ a0) (hdv : dv ≤ 100) : Met l ({ cls := "ChannelMachineModel", name := "guard", desc := "(I)Z" } : Jvm.MethodName) ((Jvm.Cond.code ({ cls := "ChannelMachineModel", name := "guard", desc := "(I)Z" } : Jvm.MethodName) prog_12_method_19_code (6 : Nat) (Option.some Jvm.ClassFile.FieldType.boolean)) :: x_T) ({ frames := 4, cells := 0, slots := 0, locals := 93 }) (x_Pc (dC, dI) ar N0 z (m_W h0 ad ar I T A U) sz [.ref h0, .int (Int32.ofNat dv)]) (va_Qi (fun (r : Int32) (u : (Nat → Int32) × Int64 × (Nat → Nat → Int32) × (Nat → Int64)) => ∃ P1 : Nat, u.1 6 = Int32.ofNat P1 ∧ P ≤ P1 ∧ P1 ≤ S ∧ m_fr [6, 7, 10] I u.1 ∧ m_fa [2, 15, 16, 17, 19] A u.2.2.1 ∧ u.2.1 = T ∧ u.2.2.2 = U ∧ (r = 0 ∨ (r = 1 ∧ P + 4 ≤ P1 ∧ mn < 4 ∧ dv ≤ 7 ∧ ∃ a1 : Nat, u.1 7 = Int32.ofNat (a1 + 1) ∧ a0 ≤ a1 ∧ a1 ≤ a0 + 2 * (P1 - P) ∧ u.2.2.1 2 (hd + 2 + mn * 4) = Int32.ofNat a0 ∧ m_TK (u.2.2.1 2) a0 a1 1 72 ∧ u.2.2.1 2 a1 = 24 ∧ u.2.2.1 2 (hd + 2 + mn * 4 + 3) = Int32.ofNat (a1 + 1) ∧ (u.2.2.1 2 (hd + 2 + mn * 4 + 1) = -1 ∨ ∃ c v : Nat, c ≤ 4 ∧ v < 6 ∧ u.2.2.1 2 (hd + 2 + mn * 4 + 1) = Int32.ofNat c ∧ u.2.2.1 2 (hd + 2 + mn * 4 + 2) = Int32.ofNat v) ∧ ∀ j, j < a0 → j < hd + 2 + mn * 4 ∨ hd + 2 + mn * 4 + 4 ≤ j → u.2.2.1 2 j = A 2 j))) (fun u t => va_P (dC, dI) x_cl (m_W h0 ad ar u.1 u.2.1 u.2.2.1 u.2.2.2) t.heap) (va_A (m_W h0 ad ar I T A U) sz)) 0 0 (va_A (m_W h0 ad ar I T A U) sz) := by
  refine Met.ofW (cc := prog_12_method_19_code) (maxL := 6) (ret := (some .boolean)) (by decide) rfl ?_
  intro p e s m args below meth c s₁ B hml hv
  obtain ⟨rfl, hsz, hN0, hP, hU, hZ, hD0⟩ := hv
  have hK := hU.1
  have hx := B.exec
  have hb := B.bytes
  have hr := B.returns
  have hts : ∀ w ∈ x_T, w.before ([.ref h0, .int (Int32.ofNat dv)] : List Value).toArray s = true := fun w h => atoms_spec (ws := (Jvm.Cond.code ({ cls := "ChannelMachineModel", name := "guard", desc := "(I)Z" } : Jvm.MethodName) prog_12_method_19_code (6 : Nat) (Option.some Jvm.ClassFile.FieldType.boolean)) :: x_T) B.pre w (List.mem_cons_of_mem _ h)
  have hown : s.vm.findClass "ChannelMachineModel" = some m.cls := findClass_of_methodNamed B.named
  have hlocks := B.notSynchronized
  subst hsz
  have hD := hD0.self (sz := s.heap.size)
  have hAN := x_AN hD0 hN0
  generalize hAe : va_A (m_W h0 ad ar I T A U) s.heap.size = Bq at hD hAN ⊢
  have hA : ∀ q : Nat, s.heap.size ≤ q → Bq q := fun q h => by rw [← hAe]; exact Or.inr h
  have hS : va_S Bq s.heap s.heap [] := va_S.rf
  have hl := lv_entry ([.ref h0, .int (Int32.ofNat dv)]) (n := 6) (Nat.le_of_ble_eq_true rfl)
  rw [lg_entry_eq]
  generalize (lg_sl ([.ref h0, .int (Int32.ofNat dv)]) ++ List.replicate (6 - (lg_sl ([.ref h0, .int (Int32.ofNat dv)])).length) Slot.unset).toArray = ls at hl ⊢
  have hl : lv_has ls 6 [(0, .ref h0), (1, .int (Int32.ofNat dv))] := hl
  refine lv_aload_n hx hb d_Mo_guard_0 rfl (lv_at hl 0 rfl) ?_
  refine m_g hx hb hts hown hK hP 18 (by decide) rfl (hts _ k_985) (v := .int (Int32.ofNat o)) (congrArg Value.int h18) d_Mo_guard_1 ?_
  refine lv_iconst (v := 1) hx hb d_Mo_guard_4 (by decide) ?_
  refine lv_isub hx hb d_Mo_guard_5 ?_
  refine W.eq (g2 := F0 m 6 ls [.int (Int32.ofNat (o - 1))]) (by rw [← x_subN (a := o) (b := 1) (by omega)] <;> rfl) ?_
  refine lv_istore_n (lv' := [(2, .int (Int32.ofNat (o - 1))), (0, .ref h0), (1, .int (Int32.ofNat dv))]) hx hb d_Mo_guard_6 rfl hl (by decide) rfl (fun ls hl => ?_)
  refine lv_aload_n hx hb d_Mo_guard_7 rfl (lv_at hl 1 rfl) ?_
  refine m_g hx hb hts hown hK hP 13 (by decide) rfl (hts _ k_980) (v := .ref (ad 13)) rfl d_Mo_guard_8 ?_
  refine lv_iload_n hx hb d_Mo_guard_11 rfl (lv_at hl 0 rfl) ?_
  refine m_ld hx hb hK hP 6 rfl (by decide) (j := (Int32.ofNat (o - 1))) (x_inN (by omega) (by decide)) d_Mo_guard_12 ?_
  refine W.eq (g2 := F0 m 13 ls [.int (Int32.ofNat mn)]) (by rw [x_nat (a := o - 1) (by omega), h13]) ?_
  refine lv_istore_n (lv' := [(3, .int (Int32.ofNat mn)), (2, .int (Int32.ofNat (o - 1))), (0, .ref h0), (1, .int (Int32.ofNat dv))]) hx hb d_Mo_guard_13 rfl hl (by decide) rfl (fun ls hl => ?_)
  refine lv_aload_n hx hb d_Mo_guard_14 rfl (lv_at hl 2 rfl) ?_
  refine m_g hx hb hts hown hK hP 12 (by decide) rfl (hts _ k_979) (v := .ref (ad 12)) rfl d_Mo_guard_15 ?_
  refine lv_iload_n hx hb d_Mo_guard_18 rfl (lv_at hl 1 rfl) ?_
  refine m_ld hx hb hK hP 5 rfl (by decide) (j := (Int32.ofNat (o - 1))) (x_inN (by omega) (by decide)) d_Mo_guard_19 ?_
  refine W.eq (g2 := F0 m 20 ls [.int (Int32.ofNat hd)]) (by rw [x_nat (a := o - 1) (by omega), h12]) ?_
  refine lv_iconst (v := 2) hx hb d_Mo_guard_20 (by decide) ?_
  refine lv_iadd hx hb d_Mo_guard_21 ?_
  refine W.eq (g2 := F0 m 22 ls [.int (Int32.ofNat (hd + 2))]) (by rw [← x_addN (a := hd) (b := 2)] <;> rfl) ?_
  refine lv_iload_n hx hb d_Mo_guard_22 rfl (lv_at hl 0 rfl) ?_
  refine lv_iconst (v := 4) hx hb d_Mo_guard_23 (by decide) ?_
  refine lv_imul hx hb d_Mo_guard_24 ?_
  refine W.eq (g2 := F0 m 25 ls [.int (Int32.ofNat (mn * 4)), .int (Int32.ofNat (hd + 2))]) (by rw [← x_mulN (a := mn) (b := 4)] <;> rfl) ?_
  refine lv_iadd hx hb d_Mo_guard_25 ?_
  refine W.eq (g2 := F0 m 26 ls [.int (Int32.ofNat ((hd + 2) + (mn * 4)))]) (by rw [← x_addN (a := (hd + 2)) (b := (mn * 4))] <;> rfl) ?_
  refine lv_istore (lv' := [(4, .int (Int32.ofNat ((hd + 2) + (mn * 4)))), (3, .int (Int32.ofNat mn)), (2, .int (Int32.ofNat (o - 1))), (0, .ref h0), (1, .int (Int32.ofNat dv))]) hx hb d_Mo_guard_26 hl (by decide) rfl (fun ls hl => ?_)
  refine lv_iload_n hx hb d_Mo_guard_28 rfl (lv_at hl 1 rfl) ?_
  refine lv_iconst (v := 4) hx hb d_Mo_guard_29 (by decide) ?_
  refine lv_icmp_eq (tgt := 39) hx hb d_Mo_guard_30 (by decide) (fun c1 => ?_) (fun c1 => ?_)
  · have c1 : mn = 4 := (x_eqN (a := mn) (b := 4) (by omega) (by omega)).mp c1
    refine lv_iconst (v := 0) hx hb d_Mo_guard_39 (by decide) ?_
    refine W.widen (k := 0) (n := 0) (Nat.le_of_ble_eq_true rfl) (Nat.le_of_ble_eq_true rfl) ?_
    exact W.zret (v := 0) hx hb hr (rfl) (fun t ht hW => ⟨⟨0, (I, T, A, U), rfl, ⟨P, h6, by omega, by omega, m_fr.rf, m_fa.rf, rfl, rfl, Or.inl rfl⟩, by dsimp only; rw [ht]; exact hP⟩, hS.F ht⟩) hS.2.2 d_Mo_guard_40
  · have c1 : ¬ mn = 4 := fun h9 => c1 ((x_eqN (a := mn) (b := 4) (by omega) (by omega)).mpr h9)
    refine lv_iload_n hx hb d_Mo_guard_33 rfl (lv_at hl 4 rfl) ?_
    refine lv_bipush (v := 7) hx hb d_Mo_guard_34 (by decide) ?_
    refine lv_icmp_le (tgt := 41) hx hb d_Mo_guard_36 (by decide) (fun c2 => ?_) (fun c2 => ?_)
    · have c2 : dv ≤ 7 := (x_leN (a := dv) (b := 7) (by omega) (by omega)).mp c2
      refine lv_aload_n hx hb d_Mo_guard_41 rfl (lv_at hl 3 rfl) ?_
      refine m_g hx hb hts hown hK hP 2 (by decide) rfl (hts _ k_969) (v := .ref (ad 2)) rfl d_Mo_guard_42 ?_
      refine lv_iload hx hb d_Mo_guard_45 (lv_at hl 0 rfl) ?_
      refine lv_aload_n hx hb d_Mo_guard_47 rfl (lv_at hl 3 rfl) ?_
      refine m_g hx hb hts hown hK hP 7 (by decide) rfl (hts _ k_974) (v := .int (Int32.ofNat a0)) (congrArg Value.int h7) d_Mo_guard_48 ?_
      refine m_st hx hb hK hP hD hS 2 rfl (by decide) (j := (Int32.ofNat ((hd + 2) + (mn * 4)))) (x := (Int32.ofNat a0)) (x_inN (by omega) (by decide)) d_Mo_guard_51 (fun H locs hP hD hS => ?_)
      rw [x_nat (a := ((hd + 2) + (mn * 4))) (by omega)] at hP hD
      refine lv_aload_n hx hb d_Mo_guard_52 rfl (lv_at hl 3 rfl) ?_
      have hFc := m_free hD hS hA
      refine va_calli (va_runV (As := []) (rest := []) ⟨hx, hb, hml, hown, hts⟩ (m_expression l dC dI ar N0 z h0 ad I T (m_up A 2 (upd (A 2) (((hd + 2) + (mn * 4))) (Int32.ofNat a0))) U P S a0 H.size h6 h4 (by omega) (by omega) (by omega) h7 (by omega)) (cwV 0 hts (x_goodV k_1160 k_1162 kp_58 k_9 k_1163) rfl rfl rfl (by decide +kernel) ⟨Nat.le_of_ble_eq_true rfl, Nat.le_of_ble_eq_true rfl⟩) ⟨x_blind, va_recv hK hP (ci := 6) (q0 := 0) rfl rfl, fun U9 hU9 hW9 => x_pre hU9 hW9 hP hD hU hZ hS hAN hN0⟩ rfl rfl hl.1 rfl (lv_room (Nat.le_of_ble_eq_true rfl)) d_Mo_guard_53 ⟨Nat.le_of_ble_eq_true rfl, Nat.le_of_ble_eq_true rfl⟩) hS (fun q _ h => hFc q h) hFc (fun r3 u t H1 locs ht hvm hw hB hz1 hk1 hS => ?_)
      obtain ⟨I5, T5, A5, U5⟩ := u
      dsimp only at hw hB
      rw [ht] at hB
      have hP : va_P (dC, dI) x_cl (m_W h0 ad ar I5 T5 A5 U5) H1 := hB
      have hD : va_D Bq (m_W h0 ad ar I5 T5 A5 U5) := m_D hD
      generalize H1 = H at hP hS ⊢
      refine W.widen (k := 0) (n := 0) (Nat.le_of_ble_eq_true rfl) (Nat.le_of_ble_eq_true rfl) ?_
      obtain ⟨P6, a6, i66, p16, p26, hfr6, hfa6, eT, eU, hres⟩ := hw
      cases eT
      cases eU
      rcases hres with rfl | ⟨rfl, p36, i76, l16, l26, tk6, ov6, lw6⟩
      · refine lv_if_eq (tgt := 68) hx hb d_Mo_guard_56 (by decide) (fun _ => ?_) (fun c7 => absurd (by decide) c7)
        refine lv_iconst (v := 0) hx hb d_Mo_guard_68 (by decide) ?_
        refine W.widen (k := 0) (n := 0) (Nat.le_of_ble_eq_true rfl) (Nat.le_of_ble_eq_true rfl) ?_
        exact W.zret (v := 0) hx hb hr (rfl) (fun t ht hW => ⟨⟨0, (I5, T, A5, U), rfl, ⟨P6, i66, by omega, by omega, hfr6, ((m_fa.rf.up (by decide) _).tr hfa6 (fun k hk => hk)), rfl, rfl, Or.inl rfl⟩, by dsimp only; rw [ht]; exact hP⟩, hS.F ht⟩) hS.2.2 d_Mo_guard_69
      · refine lv_if_eq (tgt := 68) hx hb d_Mo_guard_56 (by decide) (fun c8 => absurd c8 (by decide)) (fun _ => ?_)
        refine lv_aload_n hx hb d_Mo_guard_59 rfl (lv_at hl 3 rfl) ?_
        refine lv_bipush (v := 38) hx hb d_Mo_guard_60 (by decide) ?_
        have hFc := m_free hD hS hA
        refine va_calli (va_runV (As := [.int 38]) (rest := []) ⟨hx, hb, hml, hown, hts⟩ (m_passes l dC dI ar N0 z h0 ad I5 T A5 U P6 S (38) H.size i66 ((hfr6 4 (by decide)).trans h4) (by omega) (by omega)) (cwV 1 hts (x_goodV k_1136 k_1138 kp_52 k_9 k_1139) rfl rfl rfl (by decide +kernel) ⟨Nat.le_of_ble_eq_true rfl, Nat.le_of_ble_eq_true rfl⟩) ⟨x_blind, va_recv hK hP (ci := 6) (q0 := 0) rfl rfl, fun U9 hU9 hW9 => x_pre hU9 hW9 hP hD hU hZ hS hAN hN0⟩ rfl rfl hl.1 rfl (lv_room (Nat.le_of_ble_eq_true rfl)) d_Mo_guard_62 ⟨Nat.le_of_ble_eq_true rfl, Nat.le_of_ble_eq_true rfl⟩) hS (fun q _ h => hFc q h) hFc (fun r9 u t H1 locs ht hvm hw hB hz1 hk1 hS => ?_)
        obtain ⟨I11, T11, A11, U11⟩ := u
        dsimp only at hw hB
        rw [ht] at hB
        have hP : va_P (dC, dI) x_cl (m_W h0 ad ar I11 T11 A11 U11) H1 := hB
        have hD : va_D Bq (m_W h0 ad ar I11 T11 A11 U11) := m_D hD
        generalize H1 = H at hP hS ⊢
        refine W.widen (k := 0) (n := 0) (Nat.le_of_ble_eq_true rfl) (Nat.le_of_ble_eq_true rfl) ?_
        rcases hw with ⟨p12, rfl, h9⟩ | ⟨p12, rfl, h9⟩
        · cases h9
          have hpp12 : P6 < S := m_lk0 (by rw [p12]; decide)
          refine lv_if_ne (tgt := 70) hx hb d_Mo_guard_65 (by decide) (fun _ => ?_) (fun c13 => absurd c13 (by decide))
          refine lv_aload_n hx hb d_Mo_guard_70 rfl (lv_at hl 3 rfl) ?_
          refine m_g hx hb hts hown hK hP 2 (by decide) rfl (hts _ k_969) (v := .ref (ad 2)) rfl d_Mo_guard_71 ?_
          refine lv_iload hx hb d_Mo_guard_74 (lv_at hl 0 rfl) ?_
          refine lv_iconst (v := 1) hx hb d_Mo_guard_76 (by decide) ?_
          refine lv_iadd hx hb d_Mo_guard_77 ?_
          refine W.eq (g2 := F0 m 78 ls [.int (Int32.ofNat (((hd + 2) + (mn * 4)) + 1)), .ref (ad 2)]) (by rw [← x_addN (a := ((hd + 2) + (mn * 4))) (b := 1)] <;> rfl) ?_
          refine lv_iconst (v := (-1)) hx hb d_Mo_guard_78 (by decide) ?_
          refine m_st hx hb hK hP hD hS 2 rfl (by decide) (j := (Int32.ofNat (((hd + 2) + (mn * 4)) + 1))) (x := (-1)) (x_inN (by omega) (by decide)) d_Mo_guard_79 (fun H locs hP hD hS => ?_)
          rw [x_nat (a := (((hd + 2) + (mn * 4)) + 1)) (by omega)] at hP hD
          refine lv_aload_n hx hb d_Mo_guard_80 rfl (lv_at hl 3 rfl) ?_
          refine lv_bipush (v := 46) hx hb d_Mo_guard_81 (by decide) ?_
          have hFc := m_free hD hS hA
          refine va_calli (va_runV (As := [.int 46]) (rest := []) ⟨hx, hb, hml, hown, hts⟩ (m_passes l dC dI ar N0 z h0 ad (upd I5 6 (Int32.ofNat (P6 + 1))) T (m_up A5 2 (upd (A5 2) ((((hd + 2) + (mn * 4)) + 1)) (-1))) U ((P6 + 1)) S (46) H.size rfl ((hfr6 4 (by decide)).trans h4) (by omega) (by omega)) (cwV 1 hts (x_goodV k_1136 k_1138 kp_52 k_9 k_1139) rfl rfl rfl (by decide +kernel) ⟨Nat.le_of_ble_eq_true rfl, Nat.le_of_ble_eq_true rfl⟩) ⟨x_blind, va_recv hK hP (ci := 6) (q0 := 0) rfl rfl, fun U9 hU9 hW9 => x_pre hU9 hW9 hP hD hU hZ hS hAN hN0⟩ rfl rfl hl.1 rfl (lv_room (Nat.le_of_ble_eq_true rfl)) d_Mo_guard_83 ⟨Nat.le_of_ble_eq_true rfl, Nat.le_of_ble_eq_true rfl⟩) hS (fun q _ h => hFc q h) hFc (fun r14 u t H1 locs ht hvm hw hB hz1 hk1 hS => ?_)
          obtain ⟨I16, T16, A16, U16⟩ := u
          dsimp only at hw hB
          rw [ht] at hB
          have hP : va_P (dC, dI) x_cl (m_W h0 ad ar I16 T16 A16 U16) H1 := hB
          have hD : va_D Bq (m_W h0 ad ar I16 T16 A16 U16) := m_D hD
          generalize H1 = H at hP hS ⊢
          refine W.widen (k := 0) (n := 0) (Nat.le_of_ble_eq_true rfl) (Nat.le_of_ble_eq_true rfl) ?_
          rcases hw with ⟨p17, rfl, h9⟩ | ⟨p17, rfl, h9⟩
          · cases h9
            have hpp17 : (P6 + 1) < S := m_lk0 (by rw [p17]; decide)
            refine lv_if_ne (tgt := 176) hx hb d_Mo_guard_86 (by decide) (fun _ => ?_) (fun c18 => absurd c18 (by decide))
            refine lv_aload_n hx hb d_Mo_guard_176 rfl (lv_at hl 3 rfl) ?_
            refine lv_bipush (v := 44) hx hb d_Mo_guard_177 (by decide) ?_
            have hFc := m_free hD hS hA
            refine va_calli (va_runV (As := [.int 44]) (rest := []) ⟨hx, hb, hml, hown, hts⟩ (m_passes l dC dI ar N0 z h0 ad (upd (upd I5 6 (Int32.ofNat (P6 + 1))) 6 (Int32.ofNat ((P6 + 1) + 1))) T (m_up A5 2 (upd (A5 2) ((((hd + 2) + (mn * 4)) + 1)) (-1))) U (((P6 + 1) + 1)) S (44) H.size rfl ((hfr6 4 (by decide)).trans h4) (by omega) (by omega)) (cwV 1 hts (x_goodV k_1136 k_1138 kp_52 k_9 k_1139) rfl rfl rfl (by decide +kernel) ⟨Nat.le_of_ble_eq_true rfl, Nat.le_of_ble_eq_true rfl⟩) ⟨x_blind, va_recv hK hP (ci := 6) (q0 := 0) rfl rfl, fun U9 hU9 hW9 => x_pre hU9 hW9 hP hD hU hZ hS hAN hN0⟩ rfl rfl hl.1 rfl (lv_room (Nat.le_of_ble_eq_true rfl)) d_Mo_guard_179 ⟨Nat.le_of_ble_eq_true rfl, Nat.le_of_ble_eq_true rfl⟩) hS (fun q _ h => hFc q h) hFc (fun r19 u t H1 locs ht hvm hw hB hz1 hk1 hS => ?_)
            obtain ⟨I21, T21, A21, U21⟩ := u
            dsimp only at hw hB
            rw [ht] at hB
            have hP : va_P (dC, dI) x_cl (m_W h0 ad ar I21 T21 A21 U21) H1 := hB
            have hD : va_D Bq (m_W h0 ad ar I21 T21 A21 U21) := m_D hD
            generalize H1 = H at hP hS ⊢
            refine W.widen (k := 0) (n := 0) (Nat.le_of_ble_eq_true rfl) (Nat.le_of_ble_eq_true rfl) ?_
            rcases hw with ⟨p22, rfl, h9⟩ | ⟨p22, rfl, h9⟩
            · cases h9
              have hpp22 : ((P6 + 1) + 1) < S := m_lk0 (by rw [p22]; decide)
              refine lv_if_ne (tgt := 187) hx hb d_Mo_guard_182 (by decide) (fun _ => ?_) (fun c23 => absurd c23 (by decide))
              refine lv_aload_n hx hb d_Mo_guard_187 rfl (lv_at hl 3 rfl) ?_
              refine m_g hx hb hts hown hK hP 2 (by decide) rfl (hts _ k_969) (v := .ref (ad 2)) rfl d_Mo_guard_188 ?_
              refine lv_iload hx hb d_Mo_guard_191 (lv_at hl 0 rfl) ?_
              refine lv_iconst (v := 3) hx hb d_Mo_guard_193 (by decide) ?_
              refine lv_iadd hx hb d_Mo_guard_194 ?_
              refine W.eq (g2 := F0 m 195 ls [.int (Int32.ofNat (((hd + 2) + (mn * 4)) + 3)), .ref (ad 2)]) (by rw [← x_addN (a := ((hd + 2) + (mn * 4))) (b := 3)] <;> rfl) ?_
              refine lv_aload_n hx hb d_Mo_guard_195 rfl (lv_at hl 3 rfl) ?_
              refine m_g hx hb hts hown hK hP 7 (by decide) rfl (hts _ k_974) (v := .int (Int32.ofNat (a6 + 1))) (congrArg Value.int i76) d_Mo_guard_196 ?_
              refine m_st hx hb hK hP hD hS 2 rfl (by decide) (j := (Int32.ofNat (((hd + 2) + (mn * 4)) + 3))) (x := (Int32.ofNat (a6 + 1))) (x_inN (by omega) (by decide)) d_Mo_guard_199 (fun H locs hP hD hS => ?_)
              rw [x_nat (a := (((hd + 2) + (mn * 4)) + 3)) (by omega)] at hP hD
              refine lv_iconst (v := 1) hx hb d_Mo_guard_200 (by decide) ?_
              refine W.widen (k := 0) (n := 0) (Nat.le_of_ble_eq_true rfl) (Nat.le_of_ble_eq_true rfl) ?_
              exact W.zret (v := 1) hx hb hr (rfl) (fun t ht hW => ⟨⟨1, ((upd (upd (upd I5 6 (Int32.ofNat (P6 + 1))) 6 (Int32.ofNat ((P6 + 1) + 1))) 6 (Int32.ofNat (((P6 + 1) + 1) + 1))), T, (m_up (m_up A5 2 (upd (A5 2) ((((hd + 2) + (mn * 4)) + 1)) (-1))) 2 (upd ((m_up A5 2 (upd (A5 2) ((((hd + 2) + (mn * 4)) + 1)) (-1))) 2) ((((hd + 2) + (mn * 4)) + 3)) (Int32.ofNat (a6 + 1)))), U), rfl, ⟨(((P6 + 1) + 1) + 1), rfl, by omega, by omega, (((hfr6.up (by decide) _).up (by decide) _).up (by decide) _), ((((m_fa.rf.up (by decide) _).tr hfa6 (fun k hk => hk)).up (by decide) _).up (by decide) _), rfl, rfl, Or.inr ⟨rfl, by omega, by omega, by omega, a6, i76, by omega, by omega, by dsimp only; simp only [m_up_s]; rw [upd_n (by omega), upd_n (by omega), lw6 _ (by omega), m_up_s, upd_s], by dsimp only; simp only [m_up_s]; exact (tk6.mono (by omega)).same2 (fun j h1 h2 => by rw [upd_n (by omega), upd_n (by omega)]), by dsimp only; simp only [m_up_s]; rw [upd_n (by omega), upd_n (by omega)]; exact ov6, by dsimp only; simp only [m_up_s]; rw [upd_s], Or.inl (by dsimp only; simp only [m_up_s]; rw [upd_n (by omega), upd_s]), fun j h1 h2 => by dsimp only; simp only [m_up_s]; rw [upd_n (by omega), upd_n (by omega), lw6 j h1, m_up_s, upd_n (by omega)]⟩⟩, by dsimp only; rw [ht]; exact hP⟩, hS.F ht⟩) hS.2.2 d_Mo_guard_201
            · cases h9
              refine lv_if_ne (tgt := 187) hx hb d_Mo_guard_182 (by decide) (fun c24 => absurd rfl c24) (fun _ => ?_)
              refine lv_iconst (v := 0) hx hb d_Mo_guard_185 (by decide) ?_
              refine W.widen (k := 0) (n := 0) (Nat.le_of_ble_eq_true rfl) (Nat.le_of_ble_eq_true rfl) ?_
              exact W.zret (v := 0) hx hb hr (rfl) (fun t ht hW => ⟨⟨0, ((upd (upd I5 6 (Int32.ofNat (P6 + 1))) 6 (Int32.ofNat ((P6 + 1) + 1))), T, (m_up A5 2 (upd (A5 2) ((((hd + 2) + (mn * 4)) + 1)) (-1))), U), rfl, ⟨((P6 + 1) + 1), rfl, by omega, by omega, ((hfr6.up (by decide) _).up (by decide) _), (((m_fa.rf.up (by decide) _).tr hfa6 (fun k hk => hk)).up (by decide) _), rfl, rfl, Or.inl rfl⟩, by dsimp only; rw [ht]; exact hP⟩, hS.F ht⟩) hS.2.2 d_Mo_guard_186
          · cases h9
            refine lv_if_ne (tgt := 176) hx hb d_Mo_guard_86 (by decide) (fun c25 => absurd rfl c25) (fun _ => ?_)
            refine lv_aload_n hx hb d_Mo_guard_89 rfl (lv_at hl 3 rfl) ?_
            have hFc := m_free hD hS hA
            refine va_calli (va_runV (As := []) (rest := []) ⟨hx, hb, hml, hown, hts⟩ (m_look l dC dI ar N0 z h0 ad (upd I5 6 (Int32.ofNat (P6 + 1))) T (m_up A5 2 (upd (A5 2) ((((hd + 2) + (mn * 4)) + 1)) (-1))) U ((P6 + 1)) S H.size rfl ((hfr6 4 (by decide)).trans h4) (by omega) (by omega)) (cwV 0 hts (x_goodV k_1140 k_1142 kp_53 k_9 k_1143) rfl rfl rfl (by decide +kernel) ⟨Nat.le_of_ble_eq_true rfl, Nat.le_of_ble_eq_true rfl⟩) ⟨x_blind, va_recv hK hP (ci := 6) (q0 := 0) rfl rfl, fun U9 hU9 hW9 => x_pre hU9 hW9 hP hD hU hZ hS hAN hN0⟩ rfl rfl hl.1 rfl (lv_room (Nat.le_of_ble_eq_true rfl)) d_Mo_guard_90 ⟨Nat.le_of_ble_eq_true rfl, Nat.le_of_ble_eq_true rfl⟩) hS (fun q _ h => hFc q h) hFc (fun r26 u t H1 locs ht hvm hw hB hz1 hk1 hS => ?_)
            obtain ⟨I28, T28, A28, U28⟩ := u
            dsimp only at hw hB
            rw [ht] at hB
            have hP : va_P (dC, dI) x_cl (m_W h0 ad ar I28 T28 A28 U28) H1 := hB
            have hD : va_D Bq (m_W h0 ad ar I28 T28 A28 U28) := m_D hD
            generalize H1 = H at hP hS ⊢
            refine W.widen (k := 0) (n := 0) (Nat.le_of_ble_eq_true rfl) (Nat.le_of_ble_eq_true rfl) ?_
            obtain ⟨h9, hk29⟩ := hw
            cases h9
            have hFc := m_free hD hS hA
            refine va_calli (va_runS (As := [.int r26]) (rest := []) ⟨hx, hb, hml, hown, hts⟩ (c_Mo_channelOf l dC dI ar N0 z (r26) H.size) (cwS 1 hts (x_goodS k_1179 k_1180 k_9 k_1181) rfl rfl rfl (by decide +kernel) ⟨Nat.le_of_ble_eq_true rfl, Nat.le_of_ble_eq_true rfl⟩) ⟨x_blind, fun U9 hU9 hW9 => x_pre (ws := []) hU9 hW9 (fun k q h => by simp at h) (⟨fun i j p q h => by simp at h, fun k q h => by simp at h⟩ : va_D Bq []) hU hZ hS hAN hN0⟩ rfl rfl hl.1 rfl (lv_room (Nat.le_of_ble_eq_true rfl)) d_Mo_guard_93 ⟨Nat.le_of_ble_eq_true rfl, Nat.le_of_ble_eq_true rfl⟩) hS (fun q _ h => hA q (Nat.le_trans hS.1 (h.elim (fun ⟨k, e9, hk⟩ => by simp at hk) id))) (fun q h => hA q (Nat.le_trans hS.1 (h.elim (fun ⟨k, e9, hk⟩ => by simp at hk) id))) (fun r30 u t H1 locs ht hvm hw hB hz1 hk1 hS => ?_)
            have hP : va_P (dC, dI) x_cl (m_W h0 ad ar (upd I5 6 (Int32.ofNat (P6 + 1))) T (m_up A5 2 (upd (A5 2) ((((hd + 2) + (mn * 4)) + 1)) (-1))) U) H1 := fun k q hk => (hP k q hk).kept (hk1 q.1 ((hP k q hk).lt) (fun h9 => h9.elim (fun ⟨k, e9, hk⟩ => by simp at hk) (fun h8 => absurd (hP k q hk).lt (Nat.not_lt.mpr h8))))
            generalize H1 = H at hP hS ⊢
            refine W.widen (k := 0) (n := 0) (Nat.le_of_ble_eq_true rfl) (Nat.le_of_ble_eq_true rfl) ?_
            obtain rfl := hw
            refine lv_istore (lv' := [(5, .int (x_ch r26)), (4, .int (Int32.ofNat ((hd + 2) + (mn * 4)))), (3, .int (Int32.ofNat mn)), (2, .int (Int32.ofNat (o - 1))), (0, .ref h0), (1, .int (Int32.ofNat dv))]) hx hb d_Mo_guard_96 hl (by decide) rfl (fun ls hl => ?_)
            refine lv_iload hx hb d_Mo_guard_98 (lv_at hl 0 rfl) ?_
            refine lv_if_lt (tgt := 109) hx hb d_Mo_guard_100 (by decide) (fun c32 => ?_) (fun c32 => ?_)
            · refine lv_iconst (v := 0) hx hb d_Mo_guard_109 (by decide) ?_
              refine W.widen (k := 0) (n := 0) (Nat.le_of_ble_eq_true rfl) (Nat.le_of_ble_eq_true rfl) ?_
              exact W.zret (v := 0) hx hb hr (rfl) (fun t ht hW => ⟨⟨0, ((upd I5 6 (Int32.ofNat (P6 + 1))), T, (m_up A5 2 (upd (A5 2) ((((hd + 2) + (mn * 4)) + 1)) (-1))), U), rfl, ⟨(P6 + 1), rfl, by omega, by omega, (hfr6.up (by decide) _), (((m_fa.rf.up (by decide) _).tr hfa6 (fun k hk => hk)).up (by decide) _), rfl, rfl, Or.inl rfl⟩, by dsimp only; rw [ht]; exact hP⟩, hS.F ht⟩) hS.2.2 d_Mo_guard_110
            · refine lv_iload hx hb d_Mo_guard_103 (lv_at hl 0 rfl) ?_
              refine lv_iconst (v := 5) hx hb d_Mo_guard_105 (by decide) ?_
              refine lv_icmp_ne (tgt := 111) hx hb d_Mo_guard_106 (by decide) (fun c33 => ?_) (fun c33 => ?_)
              · obtain ⟨c9, hc9, ec9⟩ := x_ch_ok c32 c33
                have hpsc : (P6 + 1) < S := x_ch_0 hk29 c32
                refine lv_aload_n hx hb d_Mo_guard_111 rfl (lv_at hl 4 rfl) ?_
                refine lv_dup hx hb d_Mo_guard_112 rfl ?_
                refine m_g hx hb hts hown hK hP 6 (by decide) rfl (hts _ k_973) (v := .int (Int32.ofNat (P6 + 1))) rfl d_Mo_guard_113 ?_
                refine lv_iconst (v := 1) hx hb d_Mo_guard_116 (by decide) ?_
                refine lv_iadd hx hb d_Mo_guard_117 ?_
                refine W.eq (g2 := F0 m 118 ls [.int (Int32.ofNat ((P6 + 1) + 1)), .ref h0]) (by rw [← x_addN (a := (P6 + 1)) (b := 1)] <;> rfl) ?_
                refine m_p hx hb hts hown hK hP hD hS 6 (by decide) rfl (hts _ k_973) rfl (by decide +kernel) rfl (by decide) (x := (Int32.ofNat ((P6 + 1) + 1))) d_Mo_guard_118 (fun H locs hP hD hS => ?_)
                refine lv_aload_n hx hb d_Mo_guard_121 rfl (lv_at hl 4 rfl) ?_
                refine lv_bipush (v := 63) hx hb d_Mo_guard_122 (by decide) ?_
                have hFc := m_free hD hS hA
                refine va_calli (va_runV (As := [.int 63]) (rest := []) ⟨hx, hb, hml, hown, hts⟩ (m_passes l dC dI ar N0 z h0 ad (upd (upd I5 6 (Int32.ofNat (P6 + 1))) 6 (Int32.ofNat ((P6 + 1) + 1))) T (m_up A5 2 (upd (A5 2) ((((hd + 2) + (mn * 4)) + 1)) (-1))) U (((P6 + 1) + 1)) S (63) H.size rfl ((hfr6 4 (by decide)).trans h4) (by omega) (by omega)) (cwV 1 hts (x_goodV k_1136 k_1138 kp_52 k_9 k_1139) rfl rfl rfl (by decide +kernel) ⟨Nat.le_of_ble_eq_true rfl, Nat.le_of_ble_eq_true rfl⟩) ⟨x_blind, va_recv hK hP (ci := 6) (q0 := 0) rfl rfl, fun U9 hU9 hW9 => x_pre hU9 hW9 hP hD hU hZ hS hAN hN0⟩ rfl rfl hl.1 rfl (lv_room (Nat.le_of_ble_eq_true rfl)) d_Mo_guard_124 ⟨Nat.le_of_ble_eq_true rfl, Nat.le_of_ble_eq_true rfl⟩) hS (fun q _ h => hFc q h) hFc (fun r34 u t H1 locs ht hvm hw hB hz1 hk1 hS => ?_)
                obtain ⟨I36, T36, A36, U36⟩ := u
                dsimp only at hw hB
                rw [ht] at hB
                have hP : va_P (dC, dI) x_cl (m_W h0 ad ar I36 T36 A36 U36) H1 := hB
                have hD : va_D Bq (m_W h0 ad ar I36 T36 A36 U36) := m_D hD
                generalize H1 = H at hP hS ⊢
                refine W.widen (k := 0) (n := 0) (Nat.le_of_ble_eq_true rfl) (Nat.le_of_ble_eq_true rfl) ?_
                rcases hw with ⟨p37, rfl, h9⟩ | ⟨p37, rfl, h9⟩
                · cases h9
                  have hpp37 : ((P6 + 1) + 1) < S := m_lk0 (by rw [p37]; decide)
                  refine lv_if_eq (tgt := 137) hx hb d_Mo_guard_127 (by decide) (fun c38 => absurd c38 (by decide)) (fun _ => ?_)
                  refine lv_aload_n hx hb d_Mo_guard_130 rfl (lv_at hl 4 rfl) ?_
                  have hFc := m_free hD hS hA
                  refine va_calli (va_runV (As := []) (rest := []) ⟨hx, hb, hml, hown, hts⟩ (m_isVariable l dC dI ar N0 z h0 ad (upd (upd (upd I5 6 (Int32.ofNat (P6 + 1))) 6 (Int32.ofNat ((P6 + 1) + 1))) 6 (Int32.ofNat (((P6 + 1) + 1) + 1))) T (m_up A5 2 (upd (A5 2) ((((hd + 2) + (mn * 4)) + 1)) (-1))) U ((((P6 + 1) + 1) + 1)) S H.size rfl ((hfr6 4 (by decide)).trans h4) (by omega) (by omega)) (cwV 0 hts (x_goodV k_1164 k_1166 kp_59 k_9 k_1167) rfl rfl rfl (by decide +kernel) ⟨Nat.le_of_ble_eq_true rfl, Nat.le_of_ble_eq_true rfl⟩) ⟨x_blind, va_recv hK hP (ci := 6) (q0 := 0) rfl rfl, fun U9 hU9 hW9 => x_pre hU9 hW9 hP hD hU hZ hS hAN hN0⟩ rfl rfl hl.1 rfl (lv_room (Nat.le_of_ble_eq_true rfl)) d_Mo_guard_131 ⟨Nat.le_of_ble_eq_true rfl, Nat.le_of_ble_eq_true rfl⟩) hS (fun q _ h => hFc q h) hFc (fun r39 u t H1 locs ht hvm hw hB hz1 hk1 hS => ?_)
                  obtain ⟨I41, T41, A41, U41⟩ := u
                  dsimp only at hw hB
                  rw [ht] at hB
                  have hP : va_P (dC, dI) x_cl (m_W h0 ad ar I41 T41 A41 U41) H1 := hB
                  have hD : va_D Bq (m_W h0 ad ar I41 T41 A41 U41) := m_D hD
                  generalize H1 = H at hP hS ⊢
                  refine W.widen (k := 0) (n := 0) (Nat.le_of_ble_eq_true rfl) (Nat.le_of_ble_eq_true rfl) ?_
                  obtain ⟨h9, hw⟩ := hw
                  cases h9
                  rcases hw with ⟨v42, rfl⟩ | ⟨v42, rfl⟩
                  · have v42 := v42
                    refine lv_if_ne (tgt := 139) hx hb d_Mo_guard_134 (by decide) (fun _ => ?_) (fun c43 => absurd c43 (by decide))
                    refine lv_aload_n hx hb d_Mo_guard_139 rfl (lv_at hl 4 rfl) ?_
                    refine m_g hx hb hts hown hK hP 2 (by decide) rfl (hts _ k_969) (v := .ref (ad 2)) rfl d_Mo_guard_140 ?_
                    refine lv_iload hx hb d_Mo_guard_143 (lv_at hl 1 rfl) ?_
                    refine lv_iconst (v := 1) hx hb d_Mo_guard_145 (by decide) ?_
                    refine lv_iadd hx hb d_Mo_guard_146 ?_
                    refine W.eq (g2 := F0 m 147 ls [.int (Int32.ofNat (((hd + 2) + (mn * 4)) + 1)), .ref (ad 2)]) (by rw [← x_addN (a := ((hd + 2) + (mn * 4))) (b := 1)] <;> rfl) ?_
                    refine lv_iload hx hb d_Mo_guard_147 (lv_at hl 0 rfl) ?_
                    refine W.eq (g2 := F0 m 149 ls [.int (Int32.ofNat c9), .int (Int32.ofNat (((hd + 2) + (mn * 4)) + 1)), .ref (ad 2)]) (by rw [ec9]) ?_
                    refine m_st hx hb hK hP hD hS 2 rfl (by decide) (j := (Int32.ofNat (((hd + 2) + (mn * 4)) + 1))) (x := (Int32.ofNat c9)) (x_inN (by omega) (by decide)) d_Mo_guard_149 (fun H locs hP hD hS => ?_)
                    rw [x_nat (a := (((hd + 2) + (mn * 4)) + 1)) (by omega)] at hP hD
                    refine lv_aload_n hx hb d_Mo_guard_150 rfl (lv_at hl 4 rfl) ?_
                    refine m_g hx hb hts hown hK hP 2 (by decide) rfl (hts _ k_969) (v := .ref (ad 2)) rfl d_Mo_guard_151 ?_
                    refine lv_iload hx hb d_Mo_guard_154 (lv_at hl 1 rfl) ?_
                    refine lv_iconst (v := 2) hx hb d_Mo_guard_156 (by decide) ?_
                    refine lv_iadd hx hb d_Mo_guard_157 ?_
                    refine W.eq (g2 := F0 m 158 ls [.int (Int32.ofNat (((hd + 2) + (mn * 4)) + 2)), .ref (ad 2)]) (by rw [← x_addN (a := ((hd + 2) + (mn * 4))) (b := 2)] <;> rfl) ?_
                    refine lv_aload_n hx hb d_Mo_guard_158 rfl (lv_at hl 4 rfl) ?_
                    have hFc := m_free hD hS hA
                    refine va_calli (va_runV (As := []) (rest := [.int (Int32.ofNat (((hd + 2) + (mn * 4)) + 2)), .ref (ad 2)]) ⟨hx, hb, hml, hown, hts⟩ (m_look l dC dI ar N0 z h0 ad (upd (upd (upd I5 6 (Int32.ofNat (P6 + 1))) 6 (Int32.ofNat ((P6 + 1) + 1))) 6 (Int32.ofNat (((P6 + 1) + 1) + 1))) T (m_up (m_up A5 2 (upd (A5 2) ((((hd + 2) + (mn * 4)) + 1)) (-1))) 2 (upd ((m_up A5 2 (upd (A5 2) ((((hd + 2) + (mn * 4)) + 1)) (-1))) 2) ((((hd + 2) + (mn * 4)) + 1)) (Int32.ofNat c9))) U ((((P6 + 1) + 1) + 1)) S H.size rfl ((hfr6 4 (by decide)).trans h4) (by omega) (by omega)) (cwV 0 hts (x_goodV k_1140 k_1142 kp_53 k_9 k_1143) rfl rfl rfl (by decide +kernel) ⟨Nat.le_of_ble_eq_true rfl, Nat.le_of_ble_eq_true rfl⟩) ⟨x_blind, va_recv hK hP (ci := 6) (q0 := 0) rfl rfl, fun U9 hU9 hW9 => x_pre hU9 hW9 hP hD hU hZ hS hAN hN0⟩ rfl rfl hl.1 rfl (lv_room (Nat.le_of_ble_eq_true rfl)) d_Mo_guard_159 ⟨Nat.le_of_ble_eq_true rfl, Nat.le_of_ble_eq_true rfl⟩) hS (fun q _ h => hFc q h) hFc (fun r44 u t H1 locs ht hvm hw hB hz1 hk1 hS => ?_)
                    obtain ⟨I46, T46, A46, U46⟩ := u
                    dsimp only at hw hB
                    rw [ht] at hB
                    have hP : va_P (dC, dI) x_cl (m_W h0 ad ar I46 T46 A46 U46) H1 := hB
                    have hD : va_D Bq (m_W h0 ad ar I46 T46 A46 U46) := m_D hD
                    generalize H1 = H at hP hS ⊢
                    refine W.widen (k := 0) (n := 0) (Nat.le_of_ble_eq_true rfl) (Nat.le_of_ble_eq_true rfl) ?_
                    obtain ⟨h9, hk47⟩ := hw
                    cases h9
                    refine lv_bipush (v := 97) hx hb d_Mo_guard_162 (by decide) ?_
                    obtain ⟨v9, hv9, ev9⟩ := m_var (c := r44) (by rw [hk47]; exact v42)
                    have hpsv : (((P6 + 1) + 1) + 1) < S := m_lkv v42
                    refine lv_isub hx hb d_Mo_guard_164 ?_
                    refine W.eq (g2 := F0 m 165 ls [.int (Int32.ofNat v9), .int (Int32.ofNat (((hd + 2) + (mn * 4)) + 2)), .ref (ad 2)]) (by rw [ev9]) ?_
                    refine m_st hx hb hK hP hD hS 2 rfl (by decide) (j := (Int32.ofNat (((hd + 2) + (mn * 4)) + 2))) (x := (Int32.ofNat v9)) (x_inN (by omega) (by decide)) d_Mo_guard_165 (fun H locs hP hD hS => ?_)
                    rw [x_nat (a := (((hd + 2) + (mn * 4)) + 2)) (by omega)] at hP hD
                    refine lv_aload_n hx hb d_Mo_guard_166 rfl (lv_at hl 4 rfl) ?_
                    refine lv_dup hx hb d_Mo_guard_167 rfl ?_
                    refine m_g hx hb hts hown hK hP 6 (by decide) rfl (hts _ k_973) (v := .int (Int32.ofNat (((P6 + 1) + 1) + 1))) rfl d_Mo_guard_168 ?_
                    refine lv_iconst (v := 1) hx hb d_Mo_guard_171 (by decide) ?_
                    refine lv_iadd hx hb d_Mo_guard_172 ?_
                    refine W.eq (g2 := F0 m 173 ls [.int (Int32.ofNat ((((P6 + 1) + 1) + 1) + 1)), .ref h0]) (by rw [← x_addN (a := (((P6 + 1) + 1) + 1)) (b := 1)] <;> rfl) ?_
                    refine m_p hx hb hts hown hK hP hD hS 6 (by decide) rfl (hts _ k_973) rfl (by decide +kernel) rfl (by decide) (x := (Int32.ofNat ((((P6 + 1) + 1) + 1) + 1))) d_Mo_guard_173 (fun H locs hP hD hS => ?_)
                    refine lv_aload_n hx hb d_Mo_guard_176 rfl (lv_at hl 4 rfl) ?_
                    refine lv_bipush (v := 44) hx hb d_Mo_guard_177 (by decide) ?_
                    have hFc := m_free hD hS hA
                    refine va_calli (va_runV (As := [.int 44]) (rest := []) ⟨hx, hb, hml, hown, hts⟩ (m_passes l dC dI ar N0 z h0 ad (upd (upd (upd (upd I5 6 (Int32.ofNat (P6 + 1))) 6 (Int32.ofNat ((P6 + 1) + 1))) 6 (Int32.ofNat (((P6 + 1) + 1) + 1))) 6 (Int32.ofNat ((((P6 + 1) + 1) + 1) + 1))) T (m_up (m_up (m_up A5 2 (upd (A5 2) ((((hd + 2) + (mn * 4)) + 1)) (-1))) 2 (upd ((m_up A5 2 (upd (A5 2) ((((hd + 2) + (mn * 4)) + 1)) (-1))) 2) ((((hd + 2) + (mn * 4)) + 1)) (Int32.ofNat c9))) 2 (upd ((m_up (m_up A5 2 (upd (A5 2) ((((hd + 2) + (mn * 4)) + 1)) (-1))) 2 (upd ((m_up A5 2 (upd (A5 2) ((((hd + 2) + (mn * 4)) + 1)) (-1))) 2) ((((hd + 2) + (mn * 4)) + 1)) (Int32.ofNat c9))) 2) ((((hd + 2) + (mn * 4)) + 2)) (Int32.ofNat v9))) U (((((P6 + 1) + 1) + 1) + 1)) S (44) H.size rfl ((hfr6 4 (by decide)).trans h4) (by omega) (by omega)) (cwV 1 hts (x_goodV k_1136 k_1138 kp_52 k_9 k_1139) rfl rfl rfl (by decide +kernel) ⟨Nat.le_of_ble_eq_true rfl, Nat.le_of_ble_eq_true rfl⟩) ⟨x_blind, va_recv hK hP (ci := 6) (q0 := 0) rfl rfl, fun U9 hU9 hW9 => x_pre hU9 hW9 hP hD hU hZ hS hAN hN0⟩ rfl rfl hl.1 rfl (lv_room (Nat.le_of_ble_eq_true rfl)) d_Mo_guard_179 ⟨Nat.le_of_ble_eq_true rfl, Nat.le_of_ble_eq_true rfl⟩) hS (fun q _ h => hFc q h) hFc (fun r48 u t H1 locs ht hvm hw hB hz1 hk1 hS => ?_)
                    obtain ⟨I50, T50, A50, U50⟩ := u
                    dsimp only at hw hB
                    rw [ht] at hB
                    have hP : va_P (dC, dI) x_cl (m_W h0 ad ar I50 T50 A50 U50) H1 := hB
                    have hD : va_D Bq (m_W h0 ad ar I50 T50 A50 U50) := m_D hD
                    generalize H1 = H at hP hS ⊢
                    refine W.widen (k := 0) (n := 0) (Nat.le_of_ble_eq_true rfl) (Nat.le_of_ble_eq_true rfl) ?_
                    rcases hw with ⟨p51, rfl, h9⟩ | ⟨p51, rfl, h9⟩
                    · cases h9
                      have hpp51 : ((((P6 + 1) + 1) + 1) + 1) < S := m_lk0 (by rw [p51]; decide)
                      refine lv_if_ne (tgt := 187) hx hb d_Mo_guard_182 (by decide) (fun _ => ?_) (fun c52 => absurd c52 (by decide))
                      refine lv_aload_n hx hb d_Mo_guard_187 rfl (lv_at hl 4 rfl) ?_
                      refine m_g hx hb hts hown hK hP 2 (by decide) rfl (hts _ k_969) (v := .ref (ad 2)) rfl d_Mo_guard_188 ?_
                      refine lv_iload hx hb d_Mo_guard_191 (lv_at hl 1 rfl) ?_
                      refine lv_iconst (v := 3) hx hb d_Mo_guard_193 (by decide) ?_
                      refine lv_iadd hx hb d_Mo_guard_194 ?_
                      refine W.eq (g2 := F0 m 195 ls [.int (Int32.ofNat (((hd + 2) + (mn * 4)) + 3)), .ref (ad 2)]) (by rw [← x_addN (a := ((hd + 2) + (mn * 4))) (b := 3)] <;> rfl) ?_
                      refine lv_aload_n hx hb d_Mo_guard_195 rfl (lv_at hl 4 rfl) ?_
                      refine m_g hx hb hts hown hK hP 7 (by decide) rfl (hts _ k_974) (v := .int (Int32.ofNat (a6 + 1))) (congrArg Value.int i76) d_Mo_guard_196 ?_
                      refine m_st hx hb hK hP hD hS 2 rfl (by decide) (j := (Int32.ofNat (((hd + 2) + (mn * 4)) + 3))) (x := (Int32.ofNat (a6 + 1))) (x_inN (by omega) (by decide)) d_Mo_guard_199 (fun H locs hP hD hS => ?_)
                      rw [x_nat (a := (((hd + 2) + (mn * 4)) + 3)) (by omega)] at hP hD
                      refine lv_iconst (v := 1) hx hb d_Mo_guard_200 (by decide) ?_
                      refine W.widen (k := 0) (n := 0) (Nat.le_of_ble_eq_true rfl) (Nat.le_of_ble_eq_true rfl) ?_
                      exact W.zret (v := 1) hx hb hr (rfl) (fun t ht hW => ⟨⟨1, ((upd (upd (upd (upd (upd I5 6 (Int32.ofNat (P6 + 1))) 6 (Int32.ofNat ((P6 + 1) + 1))) 6 (Int32.ofNat (((P6 + 1) + 1) + 1))) 6 (Int32.ofNat ((((P6 + 1) + 1) + 1) + 1))) 6 (Int32.ofNat (((((P6 + 1) + 1) + 1) + 1) + 1))), T, (m_up (m_up (m_up (m_up A5 2 (upd (A5 2) ((((hd + 2) + (mn * 4)) + 1)) (-1))) 2 (upd ((m_up A5 2 (upd (A5 2) ((((hd + 2) + (mn * 4)) + 1)) (-1))) 2) ((((hd + 2) + (mn * 4)) + 1)) (Int32.ofNat c9))) 2 (upd ((m_up (m_up A5 2 (upd (A5 2) ((((hd + 2) + (mn * 4)) + 1)) (-1))) 2 (upd ((m_up A5 2 (upd (A5 2) ((((hd + 2) + (mn * 4)) + 1)) (-1))) 2) ((((hd + 2) + (mn * 4)) + 1)) (Int32.ofNat c9))) 2) ((((hd + 2) + (mn * 4)) + 2)) (Int32.ofNat v9))) 2 (upd ((m_up (m_up (m_up A5 2 (upd (A5 2) ((((hd + 2) + (mn * 4)) + 1)) (-1))) 2 (upd ((m_up A5 2 (upd (A5 2) ((((hd + 2) + (mn * 4)) + 1)) (-1))) 2) ((((hd + 2) + (mn * 4)) + 1)) (Int32.ofNat c9))) 2 (upd ((m_up (m_up A5 2 (upd (A5 2) ((((hd + 2) + (mn * 4)) + 1)) (-1))) 2 (upd ((m_up A5 2 (upd (A5 2) ((((hd + 2) + (mn * 4)) + 1)) (-1))) 2) ((((hd + 2) + (mn * 4)) + 1)) (Int32.ofNat c9))) 2) ((((hd + 2) + (mn * 4)) + 2)) (Int32.ofNat v9))) 2) ((((hd + 2) + (mn * 4)) + 3)) (Int32.ofNat (a6 + 1)))), U), rfl, ⟨(((((P6 + 1) + 1) + 1) + 1) + 1), rfl, by omega, by omega, (((((hfr6.up (by decide) _).up (by decide) _).up (by decide) _).up (by decide) _).up (by decide) _), ((((((m_fa.rf.up (by decide) _).tr hfa6 (fun k hk => hk)).up (by decide) _).up (by decide) _).up (by decide) _).up (by decide) _), rfl, rfl, Or.inr ⟨rfl, by omega, by omega, by omega, a6, i76, by omega, by omega, by dsimp only; simp only [m_up_s]; rw [upd_n (by omega), upd_n (by omega), upd_n (by omega), upd_n (by omega), lw6 _ (by omega), m_up_s, upd_s], by dsimp only; simp only [m_up_s]; exact (tk6.mono (by omega)).same2 (fun j h1 h2 => by rw [upd_n (by omega), upd_n (by omega), upd_n (by omega), upd_n (by omega)]), by dsimp only; simp only [m_up_s]; rw [upd_n (by omega), upd_n (by omega), upd_n (by omega), upd_n (by omega)]; exact ov6, by dsimp only; simp only [m_up_s]; rw [upd_s], Or.inr ⟨c9, v9, hc9, hv9, by dsimp only; simp only [m_up_s]; rw [upd_n (by omega), upd_n (by omega), upd_s], by dsimp only; simp only [m_up_s]; rw [upd_n (by omega), upd_s]⟩, fun j h1 h2 => by dsimp only; simp only [m_up_s]; rw [upd_n (by omega), upd_n (by omega), upd_n (by omega), upd_n (by omega), lw6 j h1, m_up_s, upd_n (by omega)]⟩⟩, by dsimp only; rw [ht]; exact hP⟩, hS.F ht⟩) hS.2.2 d_Mo_guard_201
                    · cases h9
                      refine lv_if_ne (tgt := 187) hx hb d_Mo_guard_182 (by decide) (fun c53 => absurd rfl c53) (fun _ => ?_)
                      refine lv_iconst (v := 0) hx hb d_Mo_guard_185 (by decide) ?_
                      refine W.widen (k := 0) (n := 0) (Nat.le_of_ble_eq_true rfl) (Nat.le_of_ble_eq_true rfl) ?_
                      exact W.zret (v := 0) hx hb hr (rfl) (fun t ht hW => ⟨⟨0, ((upd (upd (upd (upd I5 6 (Int32.ofNat (P6 + 1))) 6 (Int32.ofNat ((P6 + 1) + 1))) 6 (Int32.ofNat (((P6 + 1) + 1) + 1))) 6 (Int32.ofNat ((((P6 + 1) + 1) + 1) + 1))), T, (m_up (m_up (m_up A5 2 (upd (A5 2) ((((hd + 2) + (mn * 4)) + 1)) (-1))) 2 (upd ((m_up A5 2 (upd (A5 2) ((((hd + 2) + (mn * 4)) + 1)) (-1))) 2) ((((hd + 2) + (mn * 4)) + 1)) (Int32.ofNat c9))) 2 (upd ((m_up (m_up A5 2 (upd (A5 2) ((((hd + 2) + (mn * 4)) + 1)) (-1))) 2 (upd ((m_up A5 2 (upd (A5 2) ((((hd + 2) + (mn * 4)) + 1)) (-1))) 2) ((((hd + 2) + (mn * 4)) + 1)) (Int32.ofNat c9))) 2) ((((hd + 2) + (mn * 4)) + 2)) (Int32.ofNat v9))), U), rfl, ⟨((((P6 + 1) + 1) + 1) + 1), rfl, by omega, by omega, ((((hfr6.up (by decide) _).up (by decide) _).up (by decide) _).up (by decide) _), (((((m_fa.rf.up (by decide) _).tr hfa6 (fun k hk => hk)).up (by decide) _).up (by decide) _).up (by decide) _), rfl, rfl, Or.inl rfl⟩, by dsimp only; rw [ht]; exact hP⟩, hS.F ht⟩) hS.2.2 d_Mo_guard_186
                  · have v42 := v42
                    refine lv_if_ne (tgt := 139) hx hb d_Mo_guard_134 (by decide) (fun c54 => absurd rfl c54) (fun _ => ?_)
                    refine lv_iconst (v := 0) hx hb d_Mo_guard_137 (by decide) ?_
                    refine W.widen (k := 0) (n := 0) (Nat.le_of_ble_eq_true rfl) (Nat.le_of_ble_eq_true rfl) ?_
                    exact W.zret (v := 0) hx hb hr (rfl) (fun t ht hW => ⟨⟨0, ((upd (upd (upd I5 6 (Int32.ofNat (P6 + 1))) 6 (Int32.ofNat ((P6 + 1) + 1))) 6 (Int32.ofNat (((P6 + 1) + 1) + 1))), T, (m_up A5 2 (upd (A5 2) ((((hd + 2) + (mn * 4)) + 1)) (-1))), U), rfl, ⟨(((P6 + 1) + 1) + 1), rfl, by omega, by omega, (((hfr6.up (by decide) _).up (by decide) _).up (by decide) _), (((m_fa.rf.up (by decide) _).tr hfa6 (fun k hk => hk)).up (by decide) _), rfl, rfl, Or.inl rfl⟩, by dsimp only; rw [ht]; exact hP⟩, hS.F ht⟩) hS.2.2 d_Mo_guard_138
                · cases h9
                  refine lv_if_eq (tgt := 137) hx hb d_Mo_guard_127 (by decide) (fun _ => ?_) (fun c55 => absurd (by decide) c55)
                  refine lv_iconst (v := 0) hx hb d_Mo_guard_137 (by decide) ?_
                  refine W.widen (k := 0) (n := 0) (Nat.le_of_ble_eq_true rfl) (Nat.le_of_ble_eq_true rfl) ?_
                  exact W.zret (v := 0) hx hb hr (rfl) (fun t ht hW => ⟨⟨0, ((upd (upd I5 6 (Int32.ofNat (P6 + 1))) 6 (Int32.ofNat ((P6 + 1) + 1))), T, (m_up A5 2 (upd (A5 2) ((((hd + 2) + (mn * 4)) + 1)) (-1))), U), rfl, ⟨((P6 + 1) + 1), rfl, by omega, by omega, ((hfr6.up (by decide) _).up (by decide) _), (((m_fa.rf.up (by decide) _).tr hfa6 (fun k hk => hk)).up (by decide) _), rfl, rfl, Or.inl rfl⟩, by dsimp only; rw [ht]; exact hP⟩, hS.F ht⟩) hS.2.2 d_Mo_guard_138
              · refine lv_iconst (v := 0) hx hb d_Mo_guard_109 (by decide) ?_
                refine W.widen (k := 0) (n := 0) (Nat.le_of_ble_eq_true rfl) (Nat.le_of_ble_eq_true rfl) ?_
                exact W.zret (v := 0) hx hb hr (rfl) (fun t ht hW => ⟨⟨0, ((upd I5 6 (Int32.ofNat (P6 + 1))), T, (m_up A5 2 (upd (A5 2) ((((hd + 2) + (mn * 4)) + 1)) (-1))), U), rfl, ⟨(P6 + 1), rfl, by omega, by omega, (hfr6.up (by decide) _), (((m_fa.rf.up (by decide) _).tr hfa6 (fun k hk => hk)).up (by decide) _), rfl, rfl, Or.inl rfl⟩, by dsimp only; rw [ht]; exact hP⟩, hS.F ht⟩) hS.2.2 d_Mo_guard_110
        · cases h9
          refine lv_if_ne (tgt := 70) hx hb d_Mo_guard_65 (by decide) (fun c56 => absurd rfl c56) (fun _ => ?_)
          refine lv_iconst (v := 0) hx hb d_Mo_guard_68 (by decide) ?_
          refine W.widen (k := 0) (n := 0) (Nat.le_of_ble_eq_true rfl) (Nat.le_of_ble_eq_true rfl) ?_
          exact W.zret (v := 0) hx hb hr (rfl) (fun t ht hW => ⟨⟨0, (I5, T, A5, U), rfl, ⟨P6, i66, by omega, by omega, hfr6, ((m_fa.rf.up (by decide) _).tr hfa6 (fun k hk => hk)), rfl, rfl, Or.inl rfl⟩, by dsimp only; rw [ht]; exact hP⟩, hS.F ht⟩) hS.2.2 d_Mo_guard_69
    · have c2 : ¬ dv ≤ 7 := fun h9 => c2 ((x_leN (a := dv) (b := 7) (by omega) (by omega)).mpr h9)
      refine lv_iconst (v := 0) hx hb d_Mo_guard_39 (by decide) ?_
      refine W.widen (k := 0) (n := 0) (Nat.le_of_ble_eq_true rfl) (Nat.le_of_ble_eq_true rfl) ?_
      exact W.zret (v := 0) hx hb hr (rfl) (fun t ht hW => ⟨⟨0, (I, T, A, U), rfl, ⟨P, h6, by omega, by omega, m_fr.rf, m_fa.rf, rfl, rfl, Or.inl rfl⟩, by dsimp only; rw [ht]; exact hP⟩, hS.F ht⟩) hS.2.2 d_Mo_guard_40
