-- ===== 49.read: read of the reference, by program =====
theorem k_975 : (Jvm.Cond.fieldLink "ChannelMachineModel" (171 : Nat) "ChannelMachineModel" "processes" "I") ∈ x_T := x_at 975 (by decide +kernel) (by decide +kernel)
theorem k_1132 : (Jvm.Cond.methodLink "ChannelMachineModel" (174 : Nat) ({ cls := "ChannelMachineModel", name := "closes", desc := "()Z" } : Jvm.MethodName)) ∈ x_T := x_at 1132 (by decide +kernel) (by decide +kernel)
theorem k_1134 : (Jvm.Cond.instanceMethod ({ cls := "ChannelMachineModel", name := "closes", desc := "()Z" } : Jvm.MethodName)) ∈ x_T := x_at 1134 (by decide +kernel) (by decide +kernel)
theorem k_1135 : (Jvm.Cond.code ({ cls := "ChannelMachineModel", name := "closes", desc := "()Z" } : Jvm.MethodName) prog_12_method_20_code (5 : Nat) (Option.some Jvm.ClassFile.FieldType.boolean)) ∈ x_T := x_at 1135 (by decide +kernel) (by decide +kernel)
theorem k_1144 : (Jvm.Cond.methodLink "ChannelMachineModel" (177 : Nat) ({ cls := "ChannelMachineModel", name := "goOn", desc := "()Z" } : Jvm.MethodName)) ∈ x_T := x_at 1144 (by decide +kernel) (by decide +kernel)
theorem k_1146 : (Jvm.Cond.instanceMethod ({ cls := "ChannelMachineModel", name := "goOn", desc := "()Z" } : Jvm.MethodName)) ∈ x_T := x_at 1146 (by decide +kernel) (by decide +kernel)
theorem k_1147 : (Jvm.Cond.code ({ cls := "ChannelMachineModel", name := "goOn", desc := "()Z" } : Jvm.MethodName) prog_12_method_21_code (3 : Nat) (Option.some Jvm.ClassFile.FieldType.boolean)) ∈ x_T := x_at 1147 (by decide +kernel) (by decide +kernel)
theorem k_1156 : (Jvm.Cond.methodLink "ChannelMachineModel" (180 : Nat) ({ cls := "ChannelMachineModel", name := "guard", desc := "(I)Z" } : Jvm.MethodName)) ∈ x_T := x_at 1156 (by decide +kernel) (by decide +kernel)
theorem k_1158 : (Jvm.Cond.instanceMethod ({ cls := "ChannelMachineModel", name := "guard", desc := "(I)Z" } : Jvm.MethodName)) ∈ x_T := x_at 1158 (by decide +kernel) (by decide +kernel)
theorem k_1159 : (Jvm.Cond.code ({ cls := "ChannelMachineModel", name := "guard", desc := "(I)Z" } : Jvm.MethodName) prog_12_method_19_code (6 : Nat) (Option.some Jvm.ClassFile.FieldType.boolean)) ∈ x_T := x_at 1159 (by decide +kernel) (by decide +kernel)
theorem k_1182 : (Jvm.Cond.methodLink "ChannelMachineModel" (183 : Nat) ({ cls := "ChannelMachineModel", name := "start", desc := "(I)I" } : Jvm.MethodName)) ∈ x_T := x_at 1182 (by decide +kernel) (by decide +kernel)
theorem k_1184 : (Jvm.Cond.instanceMethod ({ cls := "ChannelMachineModel", name := "start", desc := "(I)I" } : Jvm.MethodName)) ∈ x_T := x_at 1184 (by decide +kernel) (by decide +kernel)
theorem k_1185 : (Jvm.Cond.code ({ cls := "ChannelMachineModel", name := "start", desc := "(I)I" } : Jvm.MethodName) prog_12_method_18_code (6 : Nat) (Option.some Jvm.ClassFile.FieldType.int)) ∈ x_T := x_at 1185 (by decide +kernel) (by decide +kernel)
theorem kp_51 : (Jvm.Cond.selects "ChannelMachineModel" ({ cls := "ChannelMachineModel", name := "closes", desc := "()Z" } : Jvm.MethodName) ({ cls := "ChannelMachineModel", name := "closes", desc := "()Z" } : Jvm.MethodName)) ∈ x_T := x_sel (q := (({ cls := "ChannelMachineModel", name := "closes", desc := "()Z" } : Jvm.MethodName), 45)) 51 (by decide +kernel) (by decide +kernel)
theorem kp_54 : (Jvm.Cond.selects "ChannelMachineModel" ({ cls := "ChannelMachineModel", name := "goOn", desc := "()Z" } : Jvm.MethodName) ({ cls := "ChannelMachineModel", name := "goOn", desc := "()Z" } : Jvm.MethodName)) ∈ x_T := x_sel (q := (({ cls := "ChannelMachineModel", name := "goOn", desc := "()Z" } : Jvm.MethodName), 45)) 54 (by decide +kernel) (by decide +kernel)
theorem kp_57 : (Jvm.Cond.selects "ChannelMachineModel" ({ cls := "ChannelMachineModel", name := "guard", desc := "(I)Z" } : Jvm.MethodName) ({ cls := "ChannelMachineModel", name := "guard", desc := "(I)Z" } : Jvm.MethodName)) ∈ x_T := x_sel (q := (({ cls := "ChannelMachineModel", name := "guard", desc := "(I)Z" } : Jvm.MethodName), 45)) 57 (by decide +kernel) (by decide +kernel)
theorem kp_62 : (Jvm.Cond.selects "ChannelMachineModel" ({ cls := "ChannelMachineModel", name := "start", desc := "(I)I" } : Jvm.MethodName) ({ cls := "ChannelMachineModel", name := "start", desc := "(I)I" } : Jvm.MethodName)) ∈ x_T := x_sel (q := (({ cls := "ChannelMachineModel", name := "start", desc := "(I)I" } : Jvm.MethodName), 45)) 62 (by decide +kernel) (by decide +kernel)
theorem d_Mo_read_0 : decode prog_12_method_22_code 0 = .ok (.aload_n 0, 1) := by decide +kernel
theorem d_Mo_read_1 : decode prog_12_method_22_code 1 = .ok (.iconst 0, 1) := by decide +kernel
theorem d_Mo_read_2 : decode prog_12_method_22_code 2 = .ok (.putfield 121, 3) := by decide +kernel
theorem d_Mo_read_5 : decode prog_12_method_22_code 5 = .ok (.aload_n 0, 1) := by decide +kernel
theorem d_Mo_read_6 : decode prog_12_method_22_code 6 = .ok (.iconst 0, 1) := by decide +kernel
theorem d_Mo_read_7 : decode prog_12_method_22_code 7 = .ok (.putfield 128, 3) := by decide +kernel
theorem d_Mo_read_10 : decode prog_12_method_22_code 10 = .ok (.aload_n 0, 1) := by decide +kernel
theorem d_Mo_read_11 : decode prog_12_method_22_code 11 = .ok (.iconst 0, 1) := by decide +kernel
theorem d_Mo_read_12 : decode prog_12_method_22_code 12 = .ok (.putfield 159, 3) := by decide +kernel
theorem d_Mo_read_15 : decode prog_12_method_22_code 15 = .ok (.aload_n 0, 1) := by decide +kernel
theorem d_Mo_read_16 : decode prog_12_method_22_code 16 = .ok (.iconst 0, 1) := by decide +kernel
theorem d_Mo_read_17 : decode prog_12_method_22_code 17 = .ok (.putfield 171, 3) := by decide +kernel
theorem d_Mo_read_20 : decode prog_12_method_22_code 20 = .ok (.iconst 1, 1) := by decide +kernel
theorem d_Mo_read_21 : decode prog_12_method_22_code 21 = .ok (.istore_n 1, 1) := by decide +kernel
theorem d_Mo_read_22 : decode prog_12_method_22_code 22 = .ok (.iload_n 1, 1) := by decide +kernel
theorem d_Mo_read_23 : decode prog_12_method_22_code 23 = .ok (.ifCond .eq 167, 3) := by decide +kernel
theorem d_Mo_read_26 : decode prog_12_method_22_code 26 = .ok (.aload_n 0, 1) := by decide +kernel
theorem d_Mo_read_27 : decode prog_12_method_22_code 27 = .ok (.getfield 159, 3) := by decide +kernel
theorem d_Mo_read_30 : decode prog_12_method_22_code 30 = .ok (.ifCond .le 18, 3) := by decide +kernel
theorem d_Mo_read_33 : decode prog_12_method_22_code 33 = .ok (.aload_n 0, 1) := by decide +kernel
theorem d_Mo_read_34 : decode prog_12_method_22_code 34 = .ok (.invokevirtual 174, 3) := by decide +kernel
theorem d_Mo_read_37 : decode prog_12_method_22_code 37 = .ok (.ifCond .eq 11, 3) := by decide +kernel
theorem d_Mo_read_40 : decode prog_12_method_22_code 40 = .ok (.aload_n 0, 1) := by decide +kernel
theorem d_Mo_read_41 : decode prog_12_method_22_code 41 = .ok (.invokevirtual 177, 3) := by decide +kernel
theorem d_Mo_read_44 : decode prog_12_method_22_code 44 = .ok (.istore_n 1, 1) := by decide +kernel
theorem d_Mo_read_45 : decode prog_12_method_22_code 45 = .ok (.goto (-23), 3) := by decide +kernel
theorem d_Mo_read_48 : decode prog_12_method_22_code 48 = .ok (.aload_n 0, 1) := by decide +kernel
theorem d_Mo_read_49 : decode prog_12_method_22_code 49 = .ok (.getfield 159, 3) := by decide +kernel
theorem d_Mo_read_52 : decode prog_12_method_22_code 52 = .ok (.iconst 1, 1) := by decide +kernel
theorem d_Mo_read_53 : decode prog_12_method_22_code 53 = .ok (.isub, 1) := by decide +kernel
theorem d_Mo_read_54 : decode prog_12_method_22_code 54 = .ok (.istore_n 2, 1) := by decide +kernel
theorem d_Mo_read_55 : decode prog_12_method_22_code 55 = .ok (.aload_n 0, 1) := by decide +kernel
theorem d_Mo_read_56 : decode prog_12_method_22_code 56 = .ok (.getfield 159, 3) := by decide +kernel
theorem d_Mo_read_59 : decode prog_12_method_22_code 59 = .ok (.iconst 1, 1) := by decide +kernel
theorem d_Mo_read_60 : decode prog_12_method_22_code 60 = .ok (.iadd, 1) := by decide +kernel
theorem d_Mo_read_61 : decode prog_12_method_22_code 61 = .ok (.istore_n 3, 1) := by decide +kernel
theorem d_Mo_read_62 : decode prog_12_method_22_code 62 = .ok (.aload_n 0, 1) := by decide +kernel
theorem d_Mo_read_63 : decode prog_12_method_22_code 63 = .ok (.getfield 159, 3) := by decide +kernel
theorem d_Mo_read_66 : decode prog_12_method_22_code 66 = .ok (.ifCond .le 24, 3) := by decide +kernel
theorem d_Mo_read_69 : decode prog_12_method_22_code 69 = .ok (.aload_n 0, 1) := by decide +kernel
theorem d_Mo_read_70 : decode prog_12_method_22_code 70 = .ok (.getfield 26, 3) := by decide +kernel
theorem d_Mo_read_73 : decode prog_12_method_22_code 73 = .ok (.iload_n 2, 1) := by decide +kernel
theorem d_Mo_read_74 : decode prog_12_method_22_code 74 = .ok (.iaload, 1) := by decide +kernel
theorem d_Mo_read_75 : decode prog_12_method_22_code 75 = .ok (.bipush 6, 2) := by decide +kernel
theorem d_Mo_read_77 : decode prog_12_method_22_code 77 = .ok (.if_icmp .ne 13, 3) := by decide +kernel
theorem d_Mo_read_80 : decode prog_12_method_22_code 80 = .ok (.aload_n 0, 1) := by decide +kernel
theorem d_Mo_read_81 : decode prog_12_method_22_code 81 = .ok (.iload_n 3, 1) := by decide +kernel
theorem d_Mo_read_82 : decode prog_12_method_22_code 82 = .ok (.invokevirtual 180, 3) := by decide +kernel
theorem d_Mo_read_85 : decode prog_12_method_22_code 85 = .ok (.ifCond .ne 5, 3) := by decide +kernel
theorem d_Mo_read_88 : decode prog_12_method_22_code 88 = .ok (.iconst 0, 1) := by decide +kernel
theorem d_Mo_read_89 : decode prog_12_method_22_code 89 = .ok (.ireturn, 1) := by decide +kernel
theorem d_Mo_read_90 : decode prog_12_method_22_code 90 = .ok (.aload_n 0, 1) := by decide +kernel
theorem d_Mo_read_91 : decode prog_12_method_22_code 91 = .ok (.getfield 159, 3) := by decide +kernel
theorem d_Mo_read_94 : decode prog_12_method_22_code 94 = .ok (.ifCond .le 59, 3) := by decide +kernel
theorem d_Mo_read_97 : decode prog_12_method_22_code 97 = .ok (.aload_n 0, 1) := by decide +kernel
theorem d_Mo_read_98 : decode prog_12_method_22_code 98 = .ok (.getfield 26, 3) := by decide +kernel
theorem d_Mo_read_101 : decode prog_12_method_22_code 101 = .ok (.iload_n 2, 1) := by decide +kernel
theorem d_Mo_read_102 : decode prog_12_method_22_code 102 = .ok (.iaload, 1) := by decide +kernel
theorem d_Mo_read_103 : decode prog_12_method_22_code 103 = .ok (.iconst 2, 1) := by decide +kernel
theorem d_Mo_read_104 : decode prog_12_method_22_code 104 = .ok (.if_icmp .ne 49, 3) := by decide +kernel
theorem d_Mo_read_107 : decode prog_12_method_22_code 107 = .ok (.aload_n 0, 1) := by decide +kernel
theorem d_Mo_read_108 : decode prog_12_method_22_code 108 = .ok (.getfield 32, 3) := by decide +kernel
theorem d_Mo_read_111 : decode prog_12_method_22_code 111 = .ok (.iload_n 2, 1) := by decide +kernel
theorem d_Mo_read_112 : decode prog_12_method_22_code 112 = .ok (.iaload, 1) := by decide +kernel
theorem d_Mo_read_113 : decode prog_12_method_22_code 113 = .ok (.iconst 4, 1) := by decide +kernel
theorem d_Mo_read_114 : decode prog_12_method_22_code 114 = .ok (.if_icmp .ne 5, 3) := by decide +kernel
theorem d_Mo_read_117 : decode prog_12_method_22_code 117 = .ok (.iconst 0, 1) := by decide +kernel
theorem d_Mo_read_118 : decode prog_12_method_22_code 118 = .ok (.ireturn, 1) := by decide +kernel
theorem d_Mo_read_119 : decode prog_12_method_22_code 119 = .ok (.aload_n 0, 1) := by decide +kernel
theorem d_Mo_read_120 : decode prog_12_method_22_code 120 = .ok (.getfield 16, 3) := by decide +kernel
theorem d_Mo_read_123 : decode prog_12_method_22_code 123 = .ok (.aload_n 0, 1) := by decide +kernel
theorem d_Mo_read_124 : decode prog_12_method_22_code 124 = .ok (.getfield 29, 3) := by decide +kernel
theorem d_Mo_read_127 : decode prog_12_method_22_code 127 = .ok (.iload_n 2, 1) := by decide +kernel
theorem d_Mo_read_128 : decode prog_12_method_22_code 128 = .ok (.iaload, 1) := by decide +kernel
theorem d_Mo_read_129 : decode prog_12_method_22_code 129 = .ok (.iconst 2, 1) := by decide +kernel
theorem d_Mo_read_130 : decode prog_12_method_22_code 130 = .ok (.iadd, 1) := by decide +kernel
theorem d_Mo_read_131 : decode prog_12_method_22_code 131 = .ok (.aload_n 0, 1) := by decide +kernel
theorem d_Mo_read_132 : decode prog_12_method_22_code 132 = .ok (.getfield 32, 3) := by decide +kernel
theorem d_Mo_read_135 : decode prog_12_method_22_code 135 = .ok (.iload_n 2, 1) := by decide +kernel
theorem d_Mo_read_136 : decode prog_12_method_22_code 136 = .ok (.iaload, 1) := by decide +kernel
theorem d_Mo_read_137 : decode prog_12_method_22_code 137 = .ok (.iadd, 1) := by decide +kernel
theorem d_Mo_read_138 : decode prog_12_method_22_code 138 = .ok (.aload_n 0, 1) := by decide +kernel
theorem d_Mo_read_139 : decode prog_12_method_22_code 139 = .ok (.getfield 128, 3) := by decide +kernel
theorem d_Mo_read_142 : decode prog_12_method_22_code 142 = .ok (.iastore, 1) := by decide +kernel
theorem d_Mo_read_143 : decode prog_12_method_22_code 143 = .ok (.aload_n 0, 1) := by decide +kernel
theorem d_Mo_read_144 : decode prog_12_method_22_code 144 = .ok (.getfield 32, 3) := by decide +kernel
theorem d_Mo_read_147 : decode prog_12_method_22_code 147 = .ok (.iload_n 2, 1) := by decide +kernel
theorem d_Mo_read_148 : decode prog_12_method_22_code 148 = .ok (.dup2, 1) := by decide +kernel
theorem d_Mo_read_149 : decode prog_12_method_22_code 149 = .ok (.iaload, 1) := by decide +kernel
theorem d_Mo_read_150 : decode prog_12_method_22_code 150 = .ok (.iconst 1, 1) := by decide +kernel
theorem d_Mo_read_151 : decode prog_12_method_22_code 151 = .ok (.iadd, 1) := by decide +kernel
theorem d_Mo_read_152 : decode prog_12_method_22_code 152 = .ok (.iastore, 1) := by decide +kernel
theorem d_Mo_read_153 : decode prog_12_method_22_code 153 = .ok (.aload_n 0, 1) := by decide +kernel
theorem d_Mo_read_154 : decode prog_12_method_22_code 154 = .ok (.iload_n 3, 1) := by decide +kernel
theorem d_Mo_read_155 : decode prog_12_method_22_code 155 = .ok (.invokevirtual 183, 3) := by decide +kernel
theorem d_Mo_read_158 : decode prog_12_method_22_code 158 = .ok (.istore 4, 2) := by decide +kernel
theorem d_Mo_read_160 : decode prog_12_method_22_code 160 = .ok (.iload 4, 2) := by decide +kernel
theorem d_Mo_read_162 : decode prog_12_method_22_code 162 = .ok (.ifCond .ge 5, 3) := by decide +kernel
theorem d_Mo_read_165 : decode prog_12_method_22_code 165 = .ok (.iconst 0, 1) := by decide +kernel
theorem d_Mo_read_166 : decode prog_12_method_22_code 166 = .ok (.ireturn, 1) := by decide +kernel
theorem d_Mo_read_167 : decode prog_12_method_22_code 167 = .ok (.aload_n 0, 1) := by decide +kernel
theorem d_Mo_read_168 : decode prog_12_method_22_code 168 = .ok (.dup, 1) := by decide +kernel
theorem d_Mo_read_169 : decode prog_12_method_22_code 169 = .ok (.getfield 171, 3) := by decide +kernel
theorem d_Mo_read_172 : decode prog_12_method_22_code 172 = .ok (.iconst 1, 1) := by decide +kernel
theorem d_Mo_read_173 : decode prog_12_method_22_code 173 = .ok (.iadd, 1) := by decide +kernel
theorem d_Mo_read_174 : decode prog_12_method_22_code 174 = .ok (.putfield 171, 3) := by decide +kernel
theorem d_Mo_read_177 : decode prog_12_method_22_code 177 = .ok (.iload 4, 2) := by decide +kernel
theorem d_Mo_read_179 : decode prog_12_method_22_code 179 = .ok (.ifCond .ne 8, 3) := by decide +kernel
theorem d_Mo_read_182 : decode prog_12_method_22_code 182 = .ok (.aload_n 0, 1) := by decide +kernel
theorem d_Mo_read_183 : decode prog_12_method_22_code 183 = .ok (.invokevirtual 177, 3) := by decide +kernel
theorem d_Mo_read_186 : decode prog_12_method_22_code 186 = .ok (.istore_n 1, 1) := by decide +kernel
theorem d_Mo_read_187 : decode prog_12_method_22_code 187 = .ok (.goto (-165), 3) := by decide +kernel
theorem d_Mo_read_190 : decode prog_12_method_22_code 190 = .ok (.aload_n 0, 1) := by decide +kernel
theorem d_Mo_read_191 : decode prog_12_method_22_code 191 = .ok (.bipush 12, 2) := by decide +kernel
theorem d_Mo_read_193 : decode prog_12_method_22_code 193 = .ok (.invokevirtual 131, 3) := by decide +kernel
theorem d_Mo_read_196 : decode prog_12_method_22_code 196 = .ok (.aload_n 0, 1) := by decide +kernel
theorem d_Mo_read_197 : decode prog_12_method_22_code 197 = .ok (.getfield 159, 3) := by decide +kernel
theorem d_Mo_read_200 : decode prog_12_method_22_code 200 = .ok (.ifCond .ne 18, 3) := by decide +kernel
theorem d_Mo_read_203 : decode prog_12_method_22_code 203 = .ok (.aload_n 0, 1) := by decide +kernel
theorem d_Mo_read_204 : decode prog_12_method_22_code 204 = .ok (.getfield 121, 3) := by decide +kernel
theorem d_Mo_read_207 : decode prog_12_method_22_code 207 = .ok (.aload_n 0, 1) := by decide +kernel
theorem d_Mo_read_208 : decode prog_12_method_22_code 208 = .ok (.getfield 114, 3) := by decide +kernel
theorem d_Mo_read_211 : decode prog_12_method_22_code 211 = .ok (.if_icmp .ne 7, 3) := by decide +kernel
theorem d_Mo_read_214 : decode prog_12_method_22_code 214 = .ok (.iconst 1, 1) := by decide +kernel
theorem d_Mo_read_215 : decode prog_12_method_22_code 215 = .ok (.goto 4, 3) := by decide +kernel
theorem d_Mo_read_218 : decode prog_12_method_22_code 218 = .ok (.iconst 0, 1) := by decide +kernel
theorem d_Mo_read_219 : decode prog_12_method_22_code 219 = .ok (.ireturn, 1) := by decide +kernel
section RD
variable {f : Nat → Int32} {a1 nb k hd mn ow c : Nat} {jm : Nat → Nat} {L : List m_Lv}
theorem m_S1.hl (h : m_S1 f ((k, hd, mn, ow, c, jm) :: L) a1 nb) : hd ≤ a1 := by
  obtain ⟨V, own, pown, bl, role, Hl, hv, h, hV1, hco, hnb, hi1⟩ := h
  exact h.2.2.2.2.1.1.2.2.2
theorem m_Tp.kd (h : m_Tp f ((k, hd, mn, ow, c, jm) :: L) a1 nb) : 1 ≤ k ∧ k ≤ 6 ∧ mn ≤ 4 ∧ hd ≤ a1 ∧ (k = 2 → hd + 7 ≤ a1) ∧ (k = 6 → hd + 18 ≤ a1 ∧ ∀ i, i < mn → jm i < a1) := by
  obtain ⟨h1, h2⟩ := h
  dsimp only at h1 h2
  by_cases e : k = 2 ∨ k = 6
  · obtain ⟨h3, h4⟩ := h1 e
    obtain ⟨l1, l2, l3, l4, l5⟩ := h3.kd
    refine ⟨l1, l2, l3, ?_, l4, l5⟩
    rcases e with e | e
    · have := l4 e; omega
    · have := (l5 e).1; omega
  · have h3 := h2 e
    obtain ⟨l1, l2, l3, l4, l5⟩ := h3.kd
    exact ⟨l1, l2, l3, h3.hl, fun h => absurd (Or.inl h) e, fun h => absurd (Or.inr h) e⟩
end RD
set_option maxHeartbeats 4000000 in
set_option maxRecDepth 100000 in
theorem m_read (l : Launch) (dC : Nat → ClassId) (dI : Nat → Nat → Nat) (ar : Nat → ClassId) (N0 : Nat) (z : Nat → Nat) (h0 : Nat) (ad : Nat → Nat) (I : Nat → Int32) (T : Int64) (A : Nat → Nat → Int32) (U : Nat → Int64) (S : Nat) (sz : Nat) (h4 : I 4 = Int32.ofNat S) (hS9 : S ≤ 72) : Met l ({ cls := "ChannelMachineModel", name := "read", desc := "()Z" } : Jvm.MethodName) ((Jvm.Cond.code ({ cls := "ChannelMachineModel", name := "read", desc := "()Z" } : Jvm.MethodName) prog_12_method_22_code (5 : Nat) (Option.some Jvm.ClassFile.FieldType.boolean)) :: x_T) ({ frames := 5, cells := 0, slots := 0, locals := 118 }) (x_Pc (dC, dI) ar N0 z (m_W h0 ad ar I T A U) sz [.ref h0]) (va_Qi (fun (r : Int32) (u : (Nat → Int32) × Int64 × (Nat → Nat → Int32) × (Nat → Int64)) => m_fr [6, 7, 8, 10, 18] I u.1 ∧ m_fa [2, 11, 12, 13, 14, 15, 16, 17, 19] A u.2.2.1 ∧ u.2.1 = T ∧ u.2.2.2 = U ∧ (r = 0 ∨ (r = 1 ∧ ∃ a1 : Nat, u.1 7 = Int32.ofNat a1 ∧ a1 ≤ 1000 ∧ ∃ (V : Nat → Prop) (own pown : Nat → Nat) (bl : List Nat) (role : Nat → Nat), m_WF (u.2.2.1 2) V own pown bl role a1))) (fun u t => va_P (dC, dI) x_cl (m_W h0 ad ar u.1 u.2.1 u.2.2.1 u.2.2.2) t.heap) (va_A (m_W h0 ad ar I T A U) sz)) 0 0 (va_A (m_W h0 ad ar I T A U) sz) := by
  refine Met.ofW (cc := prog_12_method_22_code) (maxL := 5) (ret := (some .boolean)) (by decide) rfl ?_
  intro p e s m args below meth c s₁ B hml hv
  obtain ⟨rfl, hsz, hN0, hP, hU, hZ, hD0⟩ := hv
  have hK := hU.1
  have hx := B.exec
  have hb := B.bytes
  have hr := B.returns
  have hts : ∀ w ∈ x_T, w.before ([.ref h0] : List Value).toArray s = true := fun w h => atoms_spec (ws := (Jvm.Cond.code ({ cls := "ChannelMachineModel", name := "read", desc := "()Z" } : Jvm.MethodName) prog_12_method_22_code (5 : Nat) (Option.some Jvm.ClassFile.FieldType.boolean)) :: x_T) B.pre w (List.mem_cons_of_mem _ h)
  have hown : s.vm.findClass "ChannelMachineModel" = some m.cls := findClass_of_methodNamed B.named
  have hlocks := B.notSynchronized
  subst hsz
  have hD := hD0.self (sz := s.heap.size)
  have hAN := x_AN hD0 hN0
  generalize hAe : va_A (m_W h0 ad ar I T A U) s.heap.size = Bq at hD hAN ⊢
  have hA : ∀ q : Nat, s.heap.size ≤ q → Bq q := fun q h => by rw [← hAe]; exact Or.inr h
  have hS : va_S Bq s.heap s.heap [] := va_S.rf
  have hl := lv_entry ([.ref h0]) (n := 5) (Nat.le_of_ble_eq_true rfl)
  rw [lg_entry_eq]
  generalize (lg_sl ([.ref h0]) ++ List.replicate (5 - (lg_sl ([.ref h0])).length) Slot.unset).toArray = ls at hl ⊢
  have hl : lv_has ls 5 [(0, .ref h0)] := hl
  refine lv_aload_n hx hb d_Mo_read_0 rfl (lv_at hl 0 rfl) ?_
  refine lv_iconst (v := 0) hx hb d_Mo_read_1 (by decide) ?_
  refine m_p hx hb hts hown hK hP hD hS 6 (by decide) rfl (hts _ k_973) rfl (by decide +kernel) rfl (by decide) (x := 0) d_Mo_read_2 (fun H locs hP hD hS => ?_)
  refine lv_aload_n hx hb d_Mo_read_5 rfl (lv_at hl 0 rfl) ?_
  refine lv_iconst (v := 0) hx hb d_Mo_read_6 (by decide) ?_
  refine m_p hx hb hts hown hK hP hD hS 7 (by decide) rfl (hts _ k_974) rfl (by decide +kernel) rfl (by decide) (x := 0) d_Mo_read_7 (fun H locs hP hD hS => ?_)
  refine lv_aload_n hx hb d_Mo_read_10 rfl (lv_at hl 0 rfl) ?_
  refine lv_iconst (v := 0) hx hb d_Mo_read_11 (by decide) ?_
  refine m_p hx hb hts hown hK hP hD hS 18 (by decide) rfl (hts _ k_985) rfl (by decide +kernel) rfl (by decide) (x := 0) d_Mo_read_12 (fun H locs hP hD hS => ?_)
  refine lv_aload_n hx hb d_Mo_read_15 rfl (lv_at hl 0 rfl) ?_
  refine lv_iconst (v := 0) hx hb d_Mo_read_16 (by decide) ?_
  refine m_p hx hb hts hown hK hP hD hS 8 (by decide) rfl (hts _ k_975) rfl (by decide +kernel) rfl (by decide) (x := 0) d_Mo_read_17 (fun H locs hP hD hS => ?_)
  refine lv_iconst (v := 1) hx hb d_Mo_read_20 (by decide) ?_
  refine lv_istore_n (lv' := [(1, .int 1), (0, .ref h0)]) hx hb d_Mo_read_21 rfl hl (by decide) rfl (fun ls hl => ?_)
  refine x_while (fun n H locs ls => ∃ (I1 : Nat → Int32) (A1 : Nat → Nat → Int32) (P1 a1 : Nat) (L1 : List m_Lv) (nb : Nat) (w9 : Int32), n = 73 - P1 ∧ P1 ≤ S ∧ I1 6 = Int32.ofNat P1 ∧ I1 7 = Int32.ofNat a1 ∧ I1 18 = Int32.ofNat L1.length ∧ L1.length ≤ 7 ∧ (a1 : Int) ≤ 12 * ((P1 : Nat) : Int) + m_sg L1 ∧ nb ≤ P1 + 1 ∧ m_fr [6, 7, 8, 10, 18] I I1 ∧ m_fa [2, 11, 12, 13, 14, 15, 16, 17, 19] A A1 ∧ ((w9 = 1 ∧ m_ag A1 L1 ∧ m_Tp (A1 2) L1 a1 nb) ∨ (w9 = 0 ∧ (L1 = [] → m_S1 (A1 2) [] a1 nb))) ∧ va_P (dC, dI) x_cl (m_W h0 ad ar I1 T A1 U) H ∧ va_D Bq (m_W h0 ad ar I1 T A1 U) ∧ va_S Bq s.heap H locs ∧ lv_has ls 5 [(0, .ref h0), (1, .int w9)]) (fun n ih H locs ls h9 => ?_) ⟨(upd (upd (upd (upd I 6 0) 7 0) 18 0) 8 0), A, 0, 0, [], 1, 1, rfl, Nat.zero_le _, rfl, rfl, rfl, Nat.zero_le _, Int.le_refl _, Nat.le_refl _, ((((m_fr.rf.up (by decide) _).up (by decide) _).up (by decide) _).up (by decide) _), m_fa.rf, Or.inl ⟨rfl, trivial, m_S1.start _⟩, hP, hD, hS, lv_sub hl [1, 0] rfl⟩
  obtain ⟨I1, A1, P1, a1, L1, nb, w9, hn9, q1, i6, i7, i18, q2, hat, q3, hfr, hfa, hw9, hP, hD, hS, hl⟩ := h9
  have hsg1 := m_sg_le L1
  rcases hw9 with ⟨rfl, hag, hst⟩ | ⟨rfl, hst⟩
  · have hsg1 := hsg1
    rcases L1 with _ | ⟨⟨kd, hd, mn, ow, cc, jm⟩, L2⟩
    · have hl : lv_has ls 5 [(0, .ref h0), (1, .int 1)] := hl
      refine lv_iload_n hx hb d_Mo_read_22 rfl (lv_at hl 1 rfl) ?_
      refine lv_if_eq (tgt := 190) hx hb d_Mo_read_23 (by decide) (fun c1 => absurd c1 (by decide)) (fun _ => ?_)
      refine lv_aload_n hx hb d_Mo_read_26 rfl (lv_at hl 0 rfl) ?_
      refine m_g hx hb hts hown hK hP 18 (by decide) rfl (hts _ k_985) (v := .int 0) (congrArg Value.int i18) d_Mo_read_27 ?_
      refine lv_if_le (tgt := 48) hx hb d_Mo_read_30 (by decide) (fun _ => ?_) (fun c2 => absurd (by decide) c2)
      refine lv_aload_n hx hb d_Mo_read_48 rfl (lv_at hl 0 rfl) ?_
      refine m_g hx hb hts hown hK hP 18 (by decide) rfl (hts _ k_985) (v := .int 0) (congrArg Value.int i18) d_Mo_read_49 ?_
      refine lv_iconst (v := 1) hx hb d_Mo_read_52 (by decide) ?_
      refine lv_isub hx hb d_Mo_read_53 ?_
      refine W.eq (g2 := F0 m 54 ls [.int (-1)]) rfl ?_
      refine lv_istore_n (lv' := [(2, .int (-1)), (0, .ref h0), (1, .int 1)]) hx hb d_Mo_read_54 rfl hl (by decide) rfl (fun ls hl => ?_)
      refine lv_aload_n hx hb d_Mo_read_55 rfl (lv_at hl 1 rfl) ?_
      refine m_g hx hb hts hown hK hP 18 (by decide) rfl (hts _ k_985) (v := .int 0) (congrArg Value.int i18) d_Mo_read_56 ?_
      refine lv_iconst (v := 1) hx hb d_Mo_read_59 (by decide) ?_
      refine lv_iadd hx hb d_Mo_read_60 ?_
      refine W.eq (g2 := F0 m 61 ls [.int 1]) rfl ?_
      refine lv_istore_n (lv' := [(3, .int 1), (2, .int (-1)), (0, .ref h0), (1, .int 1)]) hx hb d_Mo_read_61 rfl hl (by decide) rfl (fun ls hl => ?_)
      refine lv_aload_n hx hb d_Mo_read_62 rfl (lv_at hl 2 rfl) ?_
      refine m_g hx hb hts hown hK hP 18 (by decide) rfl (hts _ k_985) (v := .int 0) (congrArg Value.int i18) d_Mo_read_63 ?_
      refine lv_if_le (tgt := 90) hx hb d_Mo_read_66 (by decide) (fun _ => ?_) (fun c3 => absurd (by decide) c3)
      refine lv_aload_n hx hb d_Mo_read_90 rfl (lv_at hl 2 rfl) ?_
      refine m_g hx hb hts hown hK hP 18 (by decide) rfl (hts _ k_985) (v := .int 0) (congrArg Value.int i18) d_Mo_read_91 ?_
      refine lv_if_le (tgt := 153) hx hb d_Mo_read_94 (by decide) (fun _ => ?_) (fun c4 => absurd (by decide) c4)
      refine lv_aload_n hx hb d_Mo_read_153 rfl (lv_at hl 2 rfl) ?_
      refine lv_iload_n hx hb d_Mo_read_154 rfl (lv_at hl 0 rfl) ?_
      refine W.eq (g2 := F0 m 155 ls [.int (Int32.ofNat 1), .ref h0]) rfl ?_
      have hFc := m_free hD hS hA
      refine va_calli (va_runV (As := [.int (Int32.ofNat 1)]) (rest := []) ⟨hx, hb, hml, hown, hts⟩ (m_start l dC dI ar N0 z h0 ad I1 T A1 U P1 S a1 1 nb ([] : List m_Lv) H.size i6 ((hfr 4 (by decide)).trans h4) (by omega) (by omega) (by omega) i7 i18 rfl (by decide) hat hst) (cwV 1 hts (x_goodV k_1182 k_1184 kp_62 k_9 k_1185) rfl rfl rfl (by decide +kernel) ⟨Nat.le_of_ble_eq_true rfl, Nat.le_of_ble_eq_true rfl⟩) ⟨x_blind, va_recv hK hP (ci := 6) (q0 := 0) rfl rfl, fun U9 hU9 hW9 => x_pre hU9 hW9 hP hD hU hZ hS hAN hN0⟩ rfl rfl hl.1 rfl (lv_room (Nat.le_of_ble_eq_true rfl)) d_Mo_read_155 ⟨Nat.le_of_ble_eq_true rfl, Nat.le_of_ble_eq_true rfl⟩) hS (fun q _ h => hFc q h) hFc (fun r5 u t H1 locs ht hvm hw hB hz1 hk1 hS => ?_)
      obtain ⟨I7, T7, A7, U7⟩ := u
      dsimp only at hw hB
      rw [ht] at hB
      have hP : va_P (dC, dI) x_cl (m_W h0 ad ar I7 T7 A7 U7) H1 := hB
      have hD : va_D Bq (m_W h0 ad ar I7 T7 A7 U7) := m_D hD
      generalize H1 = H at hP hS ⊢
      refine W.widen (k := 0) (n := 0) (Nat.le_of_ble_eq_true rfl) (Nat.le_of_ble_eq_true rfl) ?_
      obtain ⟨P8, j68, j18, j28, fr8, fa8, eT, eU, hres⟩ := hw
      cases eT
      cases eU
      rcases hres with rfl | ⟨rfl, j38, a8, j78, j48, j188, j118, j128, j138, jst8⟩ | ⟨rfl, j38, a8, k8, hk8, j78, j48, j188, j58, j118, j128, j138, jst8⟩
      · refine lv_istore (lv' := [(4, .int (-1)), (3, .int 1), (2, .int (-1)), (0, .ref h0), (1, .int 1)]) hx hb d_Mo_read_158 hl (by decide) rfl (fun ls hl => ?_)
        refine lv_iload hx hb d_Mo_read_160 (lv_at hl 0 rfl) ?_
        refine lv_if_ge (tgt := 167) hx hb d_Mo_read_162 (by decide) (fun c9 => absurd c9 (by decide)) (fun _ => ?_)
        refine lv_iconst (v := 0) hx hb d_Mo_read_165 (by decide) ?_
        refine W.widen (k := 0) (n := 0) (Nat.le_of_ble_eq_true rfl) (Nat.le_of_ble_eq_true rfl) ?_
        exact W.zret (v := 0) hx hb hr (rfl) (fun t ht hW => ⟨⟨0, (I7, T, A7, U), rfl, ⟨(hfr.tr fr8 (by decide)), (hfa.tr fa8 (by decide)), rfl, rfl, Or.inl rfl⟩, by dsimp only; rw [ht]; exact hP⟩, hS.F ht⟩) hS.2.2 d_Mo_read_166
      · have hag3 : m_ag A7 ([] : List m_Lv) := m_ag.same hag (fun b hb => ⟨by rw [j118], by rw [j128], by rw [j138]⟩) (fun j hj => by rw [fa8 14 (by decide)])
        refine lv_istore (lv' := [(4, .int 0), (3, .int 1), (2, .int (-1)), (0, .ref h0), (1, .int 1)]) hx hb d_Mo_read_158 hl (by decide) rfl (fun ls hl => ?_)
        refine lv_iload hx hb d_Mo_read_160 (lv_at hl 0 rfl) ?_
        refine lv_if_ge (tgt := 167) hx hb d_Mo_read_162 (by decide) (fun _ => ?_) (fun c10 => absurd (by decide) c10)
        refine lv_aload_n hx hb d_Mo_read_167 rfl (lv_at hl 3 rfl) ?_
        refine lv_dup hx hb d_Mo_read_168 rfl ?_
        refine m_g hx hb hts hown hK hP 8 (by decide) rfl (hts _ k_975) (v := .int (I7 8)) rfl d_Mo_read_169 ?_
        refine lv_iconst (v := 1) hx hb d_Mo_read_172 (by decide) ?_
        refine lv_iadd hx hb d_Mo_read_173 ?_
        refine m_p hx hb hts hown hK hP hD hS 8 (by decide) rfl (hts _ k_975) rfl (by decide +kernel) rfl (by decide) (x := ((I7 8) + 1)) d_Mo_read_174 (fun H locs hP hD hS => ?_)
        refine lv_iload hx hb d_Mo_read_177 (lv_at hl 0 rfl) ?_
        refine lv_if_ne (tgt := 187) hx hb d_Mo_read_179 (by decide) (fun c11 => absurd rfl c11) (fun _ => ?_)
        refine lv_aload_n hx hb d_Mo_read_182 rfl (lv_at hl 3 rfl) ?_
        have hFc := m_free hD hS hA
        refine va_calli (va_runV (As := []) (rest := []) ⟨hx, hb, hml, hown, hts⟩ (m_goOn l dC dI ar N0 z h0 ad (upd I7 8 ((I7 8) + 1)) T A7 U P8 S a8 nb ([] : List m_Lv) H.size j68 ((fr8 4 (by decide)).trans ((hfr 4 (by decide)).trans h4)) (by omega) (by omega) (by omega) j78 j188 (by decide) hag3 j48 jst8) (cwV 0 hts (x_goodV k_1144 k_1146 kp_54 k_9 k_1147) rfl rfl rfl (by decide +kernel) ⟨Nat.le_of_ble_eq_true rfl, Nat.le_of_ble_eq_true rfl⟩) ⟨x_blind, va_recv hK hP (ci := 6) (q0 := 0) rfl rfl, fun U9 hU9 hW9 => x_pre hU9 hW9 hP hD hU hZ hS hAN hN0⟩ rfl rfl hl.1 rfl (lv_room (Nat.le_of_ble_eq_true rfl)) d_Mo_read_183 ⟨Nat.le_of_ble_eq_true rfl, Nat.le_of_ble_eq_true rfl⟩) hS (fun q _ h => hFc q h) hFc (fun r12 u t H1 locs ht hvm hw hB hz1 hk1 hS => ?_)
        obtain ⟨I14, T14, A14, U14⟩ := u
        dsimp only at hw hB
        rw [ht] at hB
        have hP : va_P (dC, dI) x_cl (m_W h0 ad ar I14 T14 A14 U14) H1 := hB
        have hD : va_D Bq (m_W h0 ad ar I14 T14 A14 U14) := m_D hD
        generalize H1 = H at hP hS ⊢
        refine W.widen (k := 0) (n := 0) (Nat.le_of_ble_eq_true rfl) (Nat.le_of_ble_eq_true rfl) ?_
        obtain ⟨P15, a15, L15, o615, o115, o215, fr15, fa15, eT, eU, o715, o1815, o315, o415, hres⟩ := hw
        cases eT
        cases eU
        rcases hres with ⟨rfl, n1, n2, n3⟩ | ⟨rfl, n1, n2⟩ | ⟨rfl, n1⟩
        · refine lv_istore_n (lv' := [(1, .int 1), (4, .int 0), (3, .int 1), (2, .int (-1)), (0, .ref h0)]) hx hb d_Mo_read_186 rfl hl (by decide) rfl (fun ls hl => ?_)
          refine lv_goto (tgt := 22) hx hb d_Mo_read_187 (by decide) ?_
          exact ih (73 - P15) (by omega) H locs ls ⟨I14, A14, P15, a15, L15, nb, 1, rfl, o215, o615, o715, o1815, by have := (show (([] : List m_Lv)).length ≤ 7 from (by decide)); omega, o415, by omega, (((hfr.tr fr8 (by decide)).up (by decide) _).tr fr15 (by decide)), ((hfa.tr fa8 (by decide)).tr fa15 (by decide)), Or.inl ⟨rfl, n2, n3⟩, hP, hD, hS, lv_sub hl [4, 0] rfl⟩
        · refine lv_istore_n (lv' := [(1, .int 0), (4, .int 0), (3, .int 1), (2, .int (-1)), (0, .ref h0)]) hx hb d_Mo_read_186 rfl hl (by decide) rfl (fun ls hl => ?_)
          refine lv_goto (tgt := 22) hx hb d_Mo_read_187 (by decide) ?_
          exact ih (73 - P15) (by omega) H locs ls ⟨I14, A14, P15, a15, L15, nb, 0, rfl, o215, o615, o715, o1815, by have := (show (([] : List m_Lv)).length ≤ 7 from (by decide)); omega, o415, by omega, (((hfr.tr fr8 (by decide)).up (by decide) _).tr fr15 (by decide)), ((hfa.tr fa8 (by decide)).tr fa15 (by decide)), Or.inr ⟨rfl, fun _ => n2⟩, hP, hD, hS, lv_sub hl [4, 0] rfl⟩
        · refine lv_istore_n (lv' := [(1, .int 0), (4, .int 0), (3, .int 1), (2, .int (-1)), (0, .ref h0)]) hx hb d_Mo_read_186 rfl hl (by decide) rfl (fun ls hl => ?_)
          refine lv_goto (tgt := 22) hx hb d_Mo_read_187 (by decide) ?_
          exact ih (73 - P15) (by omega) H locs ls ⟨I14, A14, P15, a15, L15, nb, 0, rfl, o215, o615, o715, o1815, by have := (show (([] : List m_Lv)).length ≤ 7 from (by decide)); omega, o415, by omega, (((hfr.tr fr8 (by decide)).up (by decide) _).tr fr15 (by decide)), ((hfa.tr fa8 (by decide)).tr fa15 (by decide)), Or.inr ⟨rfl, fun h9 => absurd h9 n1⟩, hP, hD, hS, lv_sub hl [4, 0] rfl⟩
      · have hag3 : m_ag A7 ((k8, a1, 0, m_co ([] : List m_Lv), 0, fun _ => 0) :: ([] : List m_Lv)) := ⟨by rw [j118, upd_s], by rw [j128, upd_s], by rw [j138, upd_s], fun h9 => absurd h9 (by show ¬ k8 = 5; omega), fun _ k hk => absurd hk (Nat.not_lt_zero k), Nat.zero_le _, m_ag.same hag (fun b hb => ⟨by rw [j118, upd_n (by omega)], by rw [j128, upd_n (by omega)], by rw [j138, upd_n (by omega)]⟩) (fun j hj => by rw [fa8 14 (by decide)])⟩
        refine lv_istore (lv' := [(4, .int 1), (3, .int 1), (2, .int (-1)), (0, .ref h0), (1, .int 1)]) hx hb d_Mo_read_158 hl (by decide) rfl (fun ls hl => ?_)
        refine lv_iload hx hb d_Mo_read_160 (lv_at hl 0 rfl) ?_
        refine lv_if_ge (tgt := 167) hx hb d_Mo_read_162 (by decide) (fun _ => ?_) (fun c16 => absurd (by decide) c16)
        refine lv_aload_n hx hb d_Mo_read_167 rfl (lv_at hl 3 rfl) ?_
        refine lv_dup hx hb d_Mo_read_168 rfl ?_
        refine m_g hx hb hts hown hK hP 8 (by decide) rfl (hts _ k_975) (v := .int (I7 8)) rfl d_Mo_read_169 ?_
        refine lv_iconst (v := 1) hx hb d_Mo_read_172 (by decide) ?_
        refine lv_iadd hx hb d_Mo_read_173 ?_
        refine m_p hx hb hts hown hK hP hD hS 8 (by decide) rfl (hts _ k_975) rfl (by decide +kernel) rfl (by decide) (x := ((I7 8) + 1)) d_Mo_read_174 (fun H locs hP hD hS => ?_)
        refine lv_iload hx hb d_Mo_read_177 (lv_at hl 0 rfl) ?_
        refine lv_if_ne (tgt := 187) hx hb d_Mo_read_179 (by decide) (fun _ => ?_) (fun c17 => absurd c17 (by decide))
        refine lv_goto (tgt := 22) hx hb d_Mo_read_187 (by decide) ?_
        exact ih (73 - P8) (by omega) H locs ls ⟨(upd I7 8 ((I7 8) + 1)), A7, P8, a8, ((k8, a1, 0, m_co ([] : List m_Lv), 0, fun _ => 0) :: ([] : List m_Lv)), nb, 1, rfl, j28, j68, j78, j188, by show ([] : List m_Lv).length + 1 ≤ 7; omega, j48, by omega, ((hfr.tr fr8 (by decide)).up (by decide) _), (hfa.tr fa8 (by decide)), Or.inl ⟨rfl, hag3, jst8⟩, hP, hD, hS, lv_sub hl [3, 4] rfl⟩
    · have i18 : I1 18 = Int32.ofNat (L2.length + 1) := i18
      have q2 : L2.length + 1 ≤ 7 := q2
      have hagw := hag
      obtain ⟨g11, g12, g13, g14, g15, g16, g17⟩ := hag
      have hkd := hst.kd
      have hsg := m_sg_le L2
      have ha9 : a1 ≤ 940 := by have hsg1 : m_sg ((kd, hd, mn, ow, cc, jm) :: L2) ≤ 9 * ((L2.length + 1 : Nat) : Int) := hsg1; omega
      have hl : lv_has ls 5 [(0, .ref h0), (1, .int 1)] := hl
      refine lv_iload_n hx hb d_Mo_read_22 rfl (lv_at hl 1 rfl) ?_
      refine lv_if_eq (tgt := 190) hx hb d_Mo_read_23 (by decide) (fun c18 => absurd c18 (by decide)) (fun _ => ?_)
      refine lv_aload_n hx hb d_Mo_read_26 rfl (lv_at hl 0 rfl) ?_
      refine m_g hx hb hts hown hK hP 18 (by decide) rfl (hts _ k_985) (v := .int (Int32.ofNat (L2.length + 1))) (congrArg Value.int i18) d_Mo_read_27 ?_
      refine lv_if_le (tgt := 48) hx hb d_Mo_read_30 (by decide) (fun c19 => absurd ((x_leN (a := L2.length + 1) (b := 0) (by omega) (by omega)).mp c19) (by omega)) (fun _ => ?_)
      refine lv_aload_n hx hb d_Mo_read_33 rfl (lv_at hl 0 rfl) ?_
      have hFc := m_free hD hS hA
      refine va_calli (va_runV (As := []) (rest := []) ⟨hx, hb, hml, hown, hts⟩ (m_closes l dC dI ar N0 z h0 ad I1 T A1 U P1 S a1 (L2.length + 1) mn hd kd jm H.size i6 ((hfr 4 (by decide)).trans h4) (by omega) (by omega) i7 (by omega) i18 (by omega) (by omega) g11 (by omega) (by omega) g13 (by omega) g12 (by omega) (fun e9 => g15 e9) (fun e9 i hi => by have := (hkd.2.2.2.2.2 e9).2 i hi; omega)) (cwV 0 hts (x_goodV k_1132 k_1134 kp_51 k_9 k_1135) rfl rfl rfl (by decide +kernel) ⟨Nat.le_of_ble_eq_true rfl, Nat.le_of_ble_eq_true rfl⟩) ⟨x_blind, va_recv hK hP (ci := 6) (q0 := 0) rfl rfl, fun U9 hU9 hW9 => x_pre hU9 hW9 hP hD hU hZ hS hAN hN0⟩ rfl rfl hl.1 rfl (lv_room (Nat.le_of_ble_eq_true rfl)) d_Mo_read_34 ⟨Nat.le_of_ble_eq_true rfl, Nat.le_of_ble_eq_true rfl⟩) hS (fun q _ h => hFc q h) hFc (fun r20 u t H1 locs ht hvm hw hB hz1 hk1 hS => ?_)
      obtain ⟨I22, T22, A22, U22⟩ := u
      dsimp only at hw hB
      rw [ht] at hB
      have hP : va_P (dC, dI) x_cl (m_W h0 ad ar I22 T22 A22 U22) H1 := hB
      have hD : va_D Bq (m_W h0 ad ar I22 T22 A22 U22) := m_D hD
      generalize H1 = H at hP hS ⊢
      refine W.widen (k := 0) (n := 0) (Nat.le_of_ble_eq_true rfl) (Nat.le_of_ble_eq_true rfl) ?_
      rcases hw with ⟨rfl, h9, _⟩ | ⟨rfl, hps9, e1, e2, e3, fa23, hk9⟩
      · cases h9
        refine lv_if_eq (tgt := 48) hx hb d_Mo_read_37 (by decide) (fun _ => ?_) (fun c24 => absurd (by decide) c24)
        refine lv_aload_n hx hb d_Mo_read_48 rfl (lv_at hl 0 rfl) ?_
        refine m_g hx hb hts hown hK hP 18 (by decide) rfl (hts _ k_985) (v := .int (Int32.ofNat (L2.length + 1))) (congrArg Value.int i18) d_Mo_read_49 ?_
        refine lv_iconst (v := 1) hx hb d_Mo_read_52 (by decide) ?_
        refine lv_isub hx hb d_Mo_read_53 ?_
        refine W.eq (g2 := F0 m 54 ls [.int (Int32.ofNat L2.length)]) (by rw [show (Int32.ofNat (L2.length + 1) - 1 : Int32) = Int32.ofNat L2.length from x_subN (a := L2.length + 1) (b := 1) (by omega)]) ?_
        refine lv_istore_n (lv' := [(2, .int (Int32.ofNat L2.length)), (0, .ref h0), (1, .int 1)]) hx hb d_Mo_read_54 rfl hl (by decide) rfl (fun ls hl => ?_)
        refine lv_aload_n hx hb d_Mo_read_55 rfl (lv_at hl 1 rfl) ?_
        refine m_g hx hb hts hown hK hP 18 (by decide) rfl (hts _ k_985) (v := .int (Int32.ofNat (L2.length + 1))) (congrArg Value.int i18) d_Mo_read_56 ?_
        refine lv_iconst (v := 1) hx hb d_Mo_read_59 (by decide) ?_
        refine lv_iadd hx hb d_Mo_read_60 ?_
        refine W.eq (g2 := F0 m 61 ls [.int (Int32.ofNat ((L2.length + 1) + 1))]) (by rw [← x_addN (a := (L2.length + 1)) (b := 1)] <;> rfl) ?_
        refine lv_istore_n (lv' := [(3, .int (Int32.ofNat ((L2.length + 1) + 1))), (2, .int (Int32.ofNat L2.length)), (0, .ref h0), (1, .int 1)]) hx hb d_Mo_read_61 rfl hl (by decide) rfl (fun ls hl => ?_)
        refine lv_aload_n hx hb d_Mo_read_62 rfl (lv_at hl 2 rfl) ?_
        refine m_g hx hb hts hown hK hP 18 (by decide) rfl (hts _ k_985) (v := .int (Int32.ofNat (L2.length + 1))) (congrArg Value.int i18) d_Mo_read_63 ?_
        refine lv_if_le (tgt := 90) hx hb d_Mo_read_66 (by decide) (fun c25 => absurd ((x_leN (a := L2.length + 1) (b := 0) (by omega) (by omega)).mp c25) (by omega)) (fun _ => ?_)
        refine lv_aload_n hx hb d_Mo_read_69 rfl (lv_at hl 2 rfl) ?_
        refine m_g hx hb hts hown hK hP 11 (by decide) rfl (hts _ k_978) (v := .ref (ad 11)) rfl d_Mo_read_70 ?_
        refine lv_iload_n hx hb d_Mo_read_73 rfl (lv_at hl 1 rfl) ?_
        refine m_ld hx hb hK hP 4 rfl (by decide) (j := (Int32.ofNat L2.length)) (x_inN (by omega) (by decide)) d_Mo_read_74 ?_
        refine W.eq (g2 := F0 m 75 ls [.int (Int32.ofNat kd)]) (by rw [x_nat (a := L2.length) (by omega), g11]) ?_
        refine lv_bipush (v := 6) hx hb d_Mo_read_75 (by decide) ?_
        rcases (show kd = 1 ∨ kd = 2 ∨ kd = 3 ∨ kd = 4 ∨ kd = 5 ∨ kd = 6 by omega) with rfl | rfl | rfl | rfl | rfl | rfl
        · refine W.eq (g2 := F0 m 77 ls [.int 6, .int 1]) rfl ?_
          have hst1 := hst.2 (by simp)
          refine lv_icmp_ne (tgt := 90) hx hb d_Mo_read_77 (by decide) (fun _ => ?_) (fun c26 => absurd c26 (by decide))
          refine lv_aload_n hx hb d_Mo_read_90 rfl (lv_at hl 2 rfl) ?_
          refine m_g hx hb hts hown hK hP 18 (by decide) rfl (hts _ k_985) (v := .int (Int32.ofNat (L2.length + 1))) (congrArg Value.int i18) d_Mo_read_91 ?_
          refine lv_if_le (tgt := 153) hx hb d_Mo_read_94 (by decide) (fun c27 => absurd ((x_leN (a := L2.length + 1) (b := 0) (by omega) (by omega)).mp c27) (by omega)) (fun _ => ?_)
          refine lv_aload_n hx hb d_Mo_read_97 rfl (lv_at hl 2 rfl) ?_
          refine m_g hx hb hts hown hK hP 11 (by decide) rfl (hts _ k_978) (v := .ref (ad 11)) rfl d_Mo_read_98 ?_
          refine lv_iload_n hx hb d_Mo_read_101 rfl (lv_at hl 1 rfl) ?_
          refine m_ld hx hb hK hP 4 rfl (by decide) (j := (Int32.ofNat L2.length)) (x_inN (by omega) (by decide)) d_Mo_read_102 ?_
          refine W.eq (g2 := F0 m 103 ls [.int 1]) (by rw [x_nat (a := L2.length) (by omega), g11]; rfl) ?_
          refine lv_iconst (v := 2) hx hb d_Mo_read_103 (by decide) ?_
          refine lv_icmp_ne (tgt := 153) hx hb d_Mo_read_104 (by decide) (fun _ => ?_) (fun c28 => absurd c28 (by decide))
          refine lv_aload_n hx hb d_Mo_read_153 rfl (lv_at hl 2 rfl) ?_
          refine lv_iload_n hx hb d_Mo_read_154 rfl (lv_at hl 0 rfl) ?_
          have hFc := m_free hD hS hA
          refine va_calli (va_runV (As := [.int (Int32.ofNat ((L2.length + 1) + 1))]) (rest := []) ⟨hx, hb, hml, hown, hts⟩ (m_start l dC dI ar N0 z h0 ad I1 T A1 U P1 S a1 (((L2.length + 1) + 1)) nb ((1, hd, mn, ow, cc, jm) :: L2) H.size i6 ((hfr 4 (by decide)).trans h4) (by omega) (by omega) (by omega) i7 i18 rfl (by show L2.length + 1 ≤ 7; omega) hat hst1) (cwV 1 hts (x_goodV k_1182 k_1184 kp_62 k_9 k_1185) rfl rfl rfl (by decide +kernel) ⟨Nat.le_of_ble_eq_true rfl, Nat.le_of_ble_eq_true rfl⟩) ⟨x_blind, va_recv hK hP (ci := 6) (q0 := 0) rfl rfl, fun U9 hU9 hW9 => x_pre hU9 hW9 hP hD hU hZ hS hAN hN0⟩ rfl rfl hl.1 rfl (lv_room (Nat.le_of_ble_eq_true rfl)) d_Mo_read_155 ⟨Nat.le_of_ble_eq_true rfl, Nat.le_of_ble_eq_true rfl⟩) hS (fun q _ h => hFc q h) hFc (fun r29 u t H1 locs ht hvm hw hB hz1 hk1 hS => ?_)
          obtain ⟨I31, T31, A31, U31⟩ := u
          dsimp only at hw hB
          rw [ht] at hB
          have hP : va_P (dC, dI) x_cl (m_W h0 ad ar I31 T31 A31 U31) H1 := hB
          have hD : va_D Bq (m_W h0 ad ar I31 T31 A31 U31) := m_D hD
          generalize H1 = H at hP hS ⊢
          refine W.widen (k := 0) (n := 0) (Nat.le_of_ble_eq_true rfl) (Nat.le_of_ble_eq_true rfl) ?_
          obtain ⟨P32, j632, j132, j232, fr32, fa32, eT, eU, hres⟩ := hw
          cases eT
          cases eU
          rcases hres with rfl | ⟨rfl, j332, a32, j732, j432, j1832, j1132, j1232, j1332, jst32⟩ | ⟨rfl, j332, a32, k32, hk32, j732, j432, j1832, j532, j1132, j1232, j1332, jst32⟩
          · refine lv_istore (lv' := [(4, .int (-1)), (3, .int (Int32.ofNat ((L2.length + 1) + 1))), (2, .int (Int32.ofNat L2.length)), (0, .ref h0), (1, .int 1)]) hx hb d_Mo_read_158 hl (by decide) rfl (fun ls hl => ?_)
            refine lv_iload hx hb d_Mo_read_160 (lv_at hl 0 rfl) ?_
            refine lv_if_ge (tgt := 167) hx hb d_Mo_read_162 (by decide) (fun c33 => absurd c33 (by decide)) (fun _ => ?_)
            refine lv_iconst (v := 0) hx hb d_Mo_read_165 (by decide) ?_
            refine W.widen (k := 0) (n := 0) (Nat.le_of_ble_eq_true rfl) (Nat.le_of_ble_eq_true rfl) ?_
            exact W.zret (v := 0) hx hb hr (rfl) (fun t ht hW => ⟨⟨0, (I31, T, A31, U), rfl, ⟨(hfr.tr fr32 (by decide)), (hfa.tr fa32 (by decide)), rfl, rfl, Or.inl rfl⟩, by dsimp only; rw [ht]; exact hP⟩, hS.F ht⟩) hS.2.2 d_Mo_read_166
          · have hag3 : m_ag A31 ((1, hd, mn, ow, cc, jm) :: L2) := m_ag.same hagw (fun b hb => ⟨by rw [j1132], by rw [j1232], by rw [j1332]⟩) (fun j hj => by rw [fa32 14 (by decide)])
            refine lv_istore (lv' := [(4, .int 0), (3, .int (Int32.ofNat ((L2.length + 1) + 1))), (2, .int (Int32.ofNat L2.length)), (0, .ref h0), (1, .int 1)]) hx hb d_Mo_read_158 hl (by decide) rfl (fun ls hl => ?_)
            refine lv_iload hx hb d_Mo_read_160 (lv_at hl 0 rfl) ?_
            refine lv_if_ge (tgt := 167) hx hb d_Mo_read_162 (by decide) (fun _ => ?_) (fun c34 => absurd (by decide) c34)
            refine lv_aload_n hx hb d_Mo_read_167 rfl (lv_at hl 3 rfl) ?_
            refine lv_dup hx hb d_Mo_read_168 rfl ?_
            refine m_g hx hb hts hown hK hP 8 (by decide) rfl (hts _ k_975) (v := .int (I31 8)) rfl d_Mo_read_169 ?_
            refine lv_iconst (v := 1) hx hb d_Mo_read_172 (by decide) ?_
            refine lv_iadd hx hb d_Mo_read_173 ?_
            refine m_p hx hb hts hown hK hP hD hS 8 (by decide) rfl (hts _ k_975) rfl (by decide +kernel) rfl (by decide) (x := ((I31 8) + 1)) d_Mo_read_174 (fun H locs hP hD hS => ?_)
            refine lv_iload hx hb d_Mo_read_177 (lv_at hl 0 rfl) ?_
            refine lv_if_ne (tgt := 187) hx hb d_Mo_read_179 (by decide) (fun c35 => absurd rfl c35) (fun _ => ?_)
            refine lv_aload_n hx hb d_Mo_read_182 rfl (lv_at hl 3 rfl) ?_
            have hFc := m_free hD hS hA
            refine va_calli (va_runV (As := []) (rest := []) ⟨hx, hb, hml, hown, hts⟩ (m_goOn l dC dI ar N0 z h0 ad (upd I31 8 ((I31 8) + 1)) T A31 U P32 S a32 nb ((1, hd, mn, ow, cc, jm) :: L2) H.size j632 ((fr32 4 (by decide)).trans ((hfr 4 (by decide)).trans h4)) (by omega) (by omega) (by omega) j732 j1832 (by show L2.length + 1 ≤ 7; omega) hag3 j432 jst32) (cwV 0 hts (x_goodV k_1144 k_1146 kp_54 k_9 k_1147) rfl rfl rfl (by decide +kernel) ⟨Nat.le_of_ble_eq_true rfl, Nat.le_of_ble_eq_true rfl⟩) ⟨x_blind, va_recv hK hP (ci := 6) (q0 := 0) rfl rfl, fun U9 hU9 hW9 => x_pre hU9 hW9 hP hD hU hZ hS hAN hN0⟩ rfl rfl hl.1 rfl (lv_room (Nat.le_of_ble_eq_true rfl)) d_Mo_read_183 ⟨Nat.le_of_ble_eq_true rfl, Nat.le_of_ble_eq_true rfl⟩) hS (fun q _ h => hFc q h) hFc (fun r36 u t H1 locs ht hvm hw hB hz1 hk1 hS => ?_)
            obtain ⟨I38, T38, A38, U38⟩ := u
            dsimp only at hw hB
            rw [ht] at hB
            have hP : va_P (dC, dI) x_cl (m_W h0 ad ar I38 T38 A38 U38) H1 := hB
            have hD : va_D Bq (m_W h0 ad ar I38 T38 A38 U38) := m_D hD
            generalize H1 = H at hP hS ⊢
            refine W.widen (k := 0) (n := 0) (Nat.le_of_ble_eq_true rfl) (Nat.le_of_ble_eq_true rfl) ?_
            obtain ⟨P39, a39, L39, o639, o139, o239, fr39, fa39, eT, eU, o739, o1839, o339, o439, hres⟩ := hw
            cases eT
            cases eU
            rcases hres with ⟨rfl, n1, n2, n3⟩ | ⟨rfl, n1, n2⟩ | ⟨rfl, n1⟩
            · refine lv_istore_n (lv' := [(1, .int 1), (4, .int 0), (3, .int (Int32.ofNat ((L2.length + 1) + 1))), (2, .int (Int32.ofNat L2.length)), (0, .ref h0)]) hx hb d_Mo_read_186 rfl hl (by decide) rfl (fun ls hl => ?_)
              refine lv_goto (tgt := 22) hx hb d_Mo_read_187 (by decide) ?_
              exact ih (73 - P39) (by omega) H locs ls ⟨I38, A38, P39, a39, L39, nb, 1, rfl, o239, o639, o739, o1839, by have := (show (((1, hd, mn, ow, cc, jm) :: L2)).length ≤ 7 from (by show L2.length + 1 ≤ 7; omega)); omega, o439, by omega, (((hfr.tr fr32 (by decide)).up (by decide) _).tr fr39 (by decide)), ((hfa.tr fa32 (by decide)).tr fa39 (by decide)), Or.inl ⟨rfl, n2, n3⟩, hP, hD, hS, lv_sub hl [4, 0] rfl⟩
            · refine lv_istore_n (lv' := [(1, .int 0), (4, .int 0), (3, .int (Int32.ofNat ((L2.length + 1) + 1))), (2, .int (Int32.ofNat L2.length)), (0, .ref h0)]) hx hb d_Mo_read_186 rfl hl (by decide) rfl (fun ls hl => ?_)
              refine lv_goto (tgt := 22) hx hb d_Mo_read_187 (by decide) ?_
              exact ih (73 - P39) (by omega) H locs ls ⟨I38, A38, P39, a39, L39, nb, 0, rfl, o239, o639, o739, o1839, by have := (show (((1, hd, mn, ow, cc, jm) :: L2)).length ≤ 7 from (by show L2.length + 1 ≤ 7; omega)); omega, o439, by omega, (((hfr.tr fr32 (by decide)).up (by decide) _).tr fr39 (by decide)), ((hfa.tr fa32 (by decide)).tr fa39 (by decide)), Or.inr ⟨rfl, fun _ => n2⟩, hP, hD, hS, lv_sub hl [4, 0] rfl⟩
            · refine lv_istore_n (lv' := [(1, .int 0), (4, .int 0), (3, .int (Int32.ofNat ((L2.length + 1) + 1))), (2, .int (Int32.ofNat L2.length)), (0, .ref h0)]) hx hb d_Mo_read_186 rfl hl (by decide) rfl (fun ls hl => ?_)
              refine lv_goto (tgt := 22) hx hb d_Mo_read_187 (by decide) ?_
              exact ih (73 - P39) (by omega) H locs ls ⟨I38, A38, P39, a39, L39, nb, 0, rfl, o239, o639, o739, o1839, by have := (show (((1, hd, mn, ow, cc, jm) :: L2)).length ≤ 7 from (by show L2.length + 1 ≤ 7; omega)); omega, o439, by omega, (((hfr.tr fr32 (by decide)).up (by decide) _).tr fr39 (by decide)), ((hfa.tr fa32 (by decide)).tr fa39 (by decide)), Or.inr ⟨rfl, fun h9 => absurd h9 n1⟩, hP, hD, hS, lv_sub hl [4, 0] rfl⟩
          · have hag3 : m_ag A31 ((k32, a1, 0, m_co ((1, hd, mn, ow, cc, jm) :: L2), 0, fun _ => 0) :: ((1, hd, mn, ow, cc, jm) :: L2)) := ⟨by rw [j1132, upd_s], by rw [j1232, upd_s], by rw [j1332, upd_s], fun h9 => absurd h9 (by show ¬ k32 = 5; omega), fun _ k hk => absurd hk (Nat.not_lt_zero k), Nat.zero_le _, m_ag.same hagw (fun b hb => ⟨by rw [j1132, upd_n (by omega)], by rw [j1232, upd_n (by omega)], by rw [j1332, upd_n (by omega)]⟩) (fun j hj => by rw [fa32 14 (by decide)])⟩
            refine lv_istore (lv' := [(4, .int 1), (3, .int (Int32.ofNat ((L2.length + 1) + 1))), (2, .int (Int32.ofNat L2.length)), (0, .ref h0), (1, .int 1)]) hx hb d_Mo_read_158 hl (by decide) rfl (fun ls hl => ?_)
            refine lv_iload hx hb d_Mo_read_160 (lv_at hl 0 rfl) ?_
            refine lv_if_ge (tgt := 167) hx hb d_Mo_read_162 (by decide) (fun _ => ?_) (fun c40 => absurd (by decide) c40)
            refine lv_aload_n hx hb d_Mo_read_167 rfl (lv_at hl 3 rfl) ?_
            refine lv_dup hx hb d_Mo_read_168 rfl ?_
            refine m_g hx hb hts hown hK hP 8 (by decide) rfl (hts _ k_975) (v := .int (I31 8)) rfl d_Mo_read_169 ?_
            refine lv_iconst (v := 1) hx hb d_Mo_read_172 (by decide) ?_
            refine lv_iadd hx hb d_Mo_read_173 ?_
            refine m_p hx hb hts hown hK hP hD hS 8 (by decide) rfl (hts _ k_975) rfl (by decide +kernel) rfl (by decide) (x := ((I31 8) + 1)) d_Mo_read_174 (fun H locs hP hD hS => ?_)
            refine lv_iload hx hb d_Mo_read_177 (lv_at hl 0 rfl) ?_
            refine lv_if_ne (tgt := 187) hx hb d_Mo_read_179 (by decide) (fun _ => ?_) (fun c41 => absurd c41 (by decide))
            refine lv_goto (tgt := 22) hx hb d_Mo_read_187 (by decide) ?_
            exact ih (73 - P32) (by omega) H locs ls ⟨(upd I31 8 ((I31 8) + 1)), A31, P32, a32, ((k32, a1, 0, m_co ((1, hd, mn, ow, cc, jm) :: L2), 0, fun _ => 0) :: ((1, hd, mn, ow, cc, jm) :: L2)), nb, 1, rfl, j232, j632, j732, j1832, by show ((1, hd, mn, ow, cc, jm) :: L2).length + 1 ≤ 7; omega, j432, by omega, ((hfr.tr fr32 (by decide)).up (by decide) _), (hfa.tr fa32 (by decide)), Or.inl ⟨rfl, hag3, jst32⟩, hP, hD, hS, lv_sub hl [3, 4] rfl⟩
        · refine W.eq (g2 := F0 m 77 ls [.int 6, .int 2]) rfl ?_
          refine lv_icmp_ne (tgt := 90) hx hb d_Mo_read_77 (by decide) (fun _ => ?_) (fun c42 => absurd c42 (by decide))
          refine lv_aload_n hx hb d_Mo_read_90 rfl (lv_at hl 2 rfl) ?_
          refine m_g hx hb hts hown hK hP 18 (by decide) rfl (hts _ k_985) (v := .int (Int32.ofNat (L2.length + 1))) (congrArg Value.int i18) d_Mo_read_91 ?_
          refine lv_if_le (tgt := 153) hx hb d_Mo_read_94 (by decide) (fun c43 => absurd ((x_leN (a := L2.length + 1) (b := 0) (by omega) (by omega)).mp c43) (by omega)) (fun _ => ?_)
          refine lv_aload_n hx hb d_Mo_read_97 rfl (lv_at hl 2 rfl) ?_
          refine m_g hx hb hts hown hK hP 11 (by decide) rfl (hts _ k_978) (v := .ref (ad 11)) rfl d_Mo_read_98 ?_
          refine lv_iload_n hx hb d_Mo_read_101 rfl (lv_at hl 1 rfl) ?_
          refine m_ld hx hb hK hP 4 rfl (by decide) (j := (Int32.ofNat L2.length)) (x_inN (by omega) (by decide)) d_Mo_read_102 ?_
          refine W.eq (g2 := F0 m 103 ls [.int 2]) (by rw [x_nat (a := L2.length) (by omega), g11]; rfl) ?_
          refine lv_iconst (v := 2) hx hb d_Mo_read_103 (by decide) ?_
          refine lv_icmp_ne (tgt := 153) hx hb d_Mo_read_104 (by decide) (fun c44 => absurd rfl c44) (fun _ => ?_)
          refine lv_aload_n hx hb d_Mo_read_107 rfl (lv_at hl 2 rfl) ?_
          refine m_g hx hb hts hown hK hP 13 (by decide) rfl (hts _ k_980) (v := .ref (ad 13)) rfl d_Mo_read_108 ?_
          refine lv_iload_n hx hb d_Mo_read_111 rfl (lv_at hl 1 rfl) ?_
          refine m_ld hx hb hK hP 6 rfl (by decide) (j := (Int32.ofNat L2.length)) (x_inN (by omega) (by decide)) d_Mo_read_112 ?_
          refine W.eq (g2 := F0 m 113 ls [.int (Int32.ofNat mn)]) (by rw [x_nat (a := L2.length) (by omega), g13]) ?_
          refine lv_iconst (v := 4) hx hb d_Mo_read_113 (by decide) ?_
          refine lv_icmp_ne (tgt := 119) hx hb d_Mo_read_114 (by decide) (fun c45 => ?_) (fun c45 => ?_)
          · have c45 : ¬ mn = 4 := fun h9 => c45 ((x_eqN (a := mn) (b := 4) (by omega) (by omega)).mpr h9)
            refine lv_aload_n hx hb d_Mo_read_119 rfl (lv_at hl 2 rfl) ?_
            refine m_g hx hb hts hown hK hP 2 (by decide) rfl (hts _ k_969) (v := .ref (ad 2)) rfl d_Mo_read_120 ?_
            refine lv_aload_n hx hb d_Mo_read_123 rfl (lv_at hl 2 rfl) ?_
            refine m_g hx hb hts hown hK hP 12 (by decide) rfl (hts _ k_979) (v := .ref (ad 12)) rfl d_Mo_read_124 ?_
            refine lv_iload_n hx hb d_Mo_read_127 rfl (lv_at hl 1 rfl) ?_
            refine m_ld hx hb hK hP 5 rfl (by decide) (j := (Int32.ofNat L2.length)) (x_inN (by omega) (by decide)) d_Mo_read_128 ?_
            refine W.eq (g2 := F0 m 129 ls [.int (Int32.ofNat hd), .ref (ad 2)]) (by rw [x_nat (a := L2.length) (by omega), g12]) ?_
            refine lv_iconst (v := 2) hx hb d_Mo_read_129 (by decide) ?_
            refine lv_iadd hx hb d_Mo_read_130 ?_
            refine W.eq (g2 := F0 m 131 ls [.int (Int32.ofNat (hd + 2)), .ref (ad 2)]) (by rw [← x_addN (a := hd) (b := 2)] <;> rfl) ?_
            refine lv_aload_n hx hb d_Mo_read_131 rfl (lv_at hl 2 rfl) ?_
            refine m_g hx hb hts hown hK hP 13 (by decide) rfl (hts _ k_980) (v := .ref (ad 13)) rfl d_Mo_read_132 ?_
            refine lv_iload_n hx hb d_Mo_read_135 rfl (lv_at hl 1 rfl) ?_
            have hh7 := hkd.2.2.2.2.1 rfl
            refine m_ld hx hb hK hP 6 rfl (by decide) (j := (Int32.ofNat L2.length)) (x_inN (by omega) (by decide)) d_Mo_read_136 ?_
            refine W.eq (g2 := F0 m 137 ls [.int (Int32.ofNat mn), .int (Int32.ofNat (hd + 2)), .ref (ad 2)]) (by rw [x_nat (a := L2.length) (by omega), g13]) ?_
            refine lv_iadd hx hb d_Mo_read_137 ?_
            refine W.eq (g2 := F0 m 138 ls [.int (Int32.ofNat ((hd + 2) + mn)), .ref (ad 2)]) (by rw [← x_addN (a := (hd + 2)) (b := mn)] <;> rfl) ?_
            refine lv_aload_n hx hb d_Mo_read_138 rfl (lv_at hl 2 rfl) ?_
            refine m_g hx hb hts hown hK hP 7 (by decide) rfl (hts _ k_974) (v := .int (Int32.ofNat a1)) (congrArg Value.int i7) d_Mo_read_139 ?_
            refine m_st hx hb hK hP hD hS 2 rfl (by decide) (j := (Int32.ofNat ((hd + 2) + mn))) (x := (Int32.ofNat a1)) (x_inN (by omega) (by decide)) d_Mo_read_142 (fun H locs hP hD hS => ?_)
            rw [x_nat (a := ((hd + 2) + mn)) (by omega)] at hP hD
            refine lv_aload_n hx hb d_Mo_read_143 rfl (lv_at hl 2 rfl) ?_
            refine m_g hx hb hts hown hK hP 13 (by decide) rfl (hts _ k_980) (v := .ref (ad 13)) rfl d_Mo_read_144 ?_
            refine lv_iload_n hx hb d_Mo_read_147 rfl (lv_at hl 1 rfl) ?_
            refine lv_dup2_11 hx hb d_Mo_read_148 rfl rfl ?_
            refine m_ld hx hb hK hP 6 rfl (by decide) (j := (Int32.ofNat L2.length)) (x_inN (by omega) (by decide)) d_Mo_read_149 ?_
            refine W.eq (g2 := F0 m 150 ls [.int (Int32.ofNat mn), .int (Int32.ofNat L2.length), .ref (ad 13)]) (by rw [x_nat (a := L2.length) (by omega), show (m_up A1 2 (upd (A1 2) (((hd + 2) + mn)) (Int32.ofNat a1))) 13 L2.length = A1 13 L2.length from rfl, g13]) ?_
            refine lv_iconst (v := 1) hx hb d_Mo_read_150 (by decide) ?_
            refine lv_iadd hx hb d_Mo_read_151 ?_
            refine W.eq (g2 := F0 m 152 ls [.int (Int32.ofNat (mn + 1)), .int (Int32.ofNat L2.length), .ref (ad 13)]) (by rw [← x_addN (a := mn) (b := 1)] <;> rfl) ?_
            refine m_st hx hb hK hP hD hS 6 rfl (by decide) (j := (Int32.ofNat L2.length)) (x := (Int32.ofNat (mn + 1))) (x_inN (by omega) (by decide)) d_Mo_read_152 (fun H locs hP hD hS => ?_)
            rw [x_nat (a := L2.length) (by omega)] at hP hD
            have hs0 := (hst.1 (by simp)).1
            have hgs := hs0.branch (by omega) (by omega)
            have hat : (a1 : Int) ≤ 12 * ((P1 : Nat) : Int) + m_sg ((2, hd, mn + 1, ow, a1, jm) :: L2) := hat
            have hag2 : m_ag (m_up (m_up A1 2 (upd (A1 2) (((hd + 2) + mn)) (Int32.ofNat a1))) 13 (upd ((m_up A1 2 (upd (A1 2) (((hd + 2) + mn)) (Int32.ofNat a1))) 13) (L2.length) (Int32.ofNat (mn + 1)))) ((2, hd, mn + 1, ow, a1, jm) :: L2) := ⟨g11, g12, (show upd (A1 13) L2.length (Int32.ofNat (mn + 1)) L2.length = _ from upd_s), fun h9 => absurd h9 (by simp), fun h9 => absurd h9 (by simp), by show mn + 1 ≤ 4; omega, g17.same (fun b hb => ⟨rfl, rfl, show upd (A1 13) L2.length (Int32.ofNat (mn + 1)) b = _ from upd_n (by omega)⟩) (fun j hj => rfl)⟩
            refine lv_aload_n hx hb d_Mo_read_153 rfl (lv_at hl 2 rfl) ?_
            refine lv_iload_n hx hb d_Mo_read_154 rfl (lv_at hl 0 rfl) ?_
            have hFc := m_free hD hS hA
            refine va_calli (va_runV (As := [.int (Int32.ofNat ((L2.length + 1) + 1))]) (rest := []) ⟨hx, hb, hml, hown, hts⟩ (m_start l dC dI ar N0 z h0 ad I1 T (m_up (m_up A1 2 (upd (A1 2) (((hd + 2) + mn)) (Int32.ofNat a1))) 13 (upd ((m_up A1 2 (upd (A1 2) (((hd + 2) + mn)) (Int32.ofNat a1))) 13) (L2.length) (Int32.ofNat (mn + 1)))) U P1 S a1 (((L2.length + 1) + 1)) ((nb + 1)) ((2, hd, mn + 1, ow, a1, jm) :: L2) H.size i6 ((hfr 4 (by decide)).trans h4) (by omega) (by omega) (by omega) i7 i18 rfl (by show L2.length + 1 ≤ 7; omega) hat hgs) (cwV 1 hts (x_goodV k_1182 k_1184 kp_62 k_9 k_1185) rfl rfl rfl (by decide +kernel) ⟨Nat.le_of_ble_eq_true rfl, Nat.le_of_ble_eq_true rfl⟩) ⟨x_blind, va_recv hK hP (ci := 6) (q0 := 0) rfl rfl, fun U9 hU9 hW9 => x_pre hU9 hW9 hP hD hU hZ hS hAN hN0⟩ rfl rfl hl.1 rfl (lv_room (Nat.le_of_ble_eq_true rfl)) d_Mo_read_155 ⟨Nat.le_of_ble_eq_true rfl, Nat.le_of_ble_eq_true rfl⟩) hS (fun q _ h => hFc q h) hFc (fun r46 u t H1 locs ht hvm hw hB hz1 hk1 hS => ?_)
            obtain ⟨I48, T48, A48, U48⟩ := u
            dsimp only at hw hB
            rw [ht] at hB
            have hP : va_P (dC, dI) x_cl (m_W h0 ad ar I48 T48 A48 U48) H1 := hB
            have hD : va_D Bq (m_W h0 ad ar I48 T48 A48 U48) := m_D hD
            generalize H1 = H at hP hS ⊢
            refine W.widen (k := 0) (n := 0) (Nat.le_of_ble_eq_true rfl) (Nat.le_of_ble_eq_true rfl) ?_
            obtain ⟨P49, j649, j149, j249, fr49, fa49, eT, eU, hres⟩ := hw
            cases eT
            cases eU
            rcases hres with rfl | ⟨rfl, j349, a49, j749, j449, j1849, j1149, j1249, j1349, jst49⟩ | ⟨rfl, j349, a49, k49, hk49, j749, j449, j1849, j549, j1149, j1249, j1349, jst49⟩
            · refine lv_istore (lv' := [(4, .int (-1)), (3, .int (Int32.ofNat ((L2.length + 1) + 1))), (2, .int (Int32.ofNat L2.length)), (0, .ref h0), (1, .int 1)]) hx hb d_Mo_read_158 hl (by decide) rfl (fun ls hl => ?_)
              refine lv_iload hx hb d_Mo_read_160 (lv_at hl 0 rfl) ?_
              refine lv_if_ge (tgt := 167) hx hb d_Mo_read_162 (by decide) (fun c50 => absurd c50 (by decide)) (fun _ => ?_)
              refine lv_iconst (v := 0) hx hb d_Mo_read_165 (by decide) ?_
              refine W.widen (k := 0) (n := 0) (Nat.le_of_ble_eq_true rfl) (Nat.le_of_ble_eq_true rfl) ?_
              exact W.zret (v := 0) hx hb hr (rfl) (fun t ht hW => ⟨⟨0, (I48, T, A48, U), rfl, ⟨(hfr.tr fr49 (by decide)), (((hfa.up (by decide) _).up (by decide) _).tr fa49 (by decide)), rfl, rfl, Or.inl rfl⟩, by dsimp only; rw [ht]; exact hP⟩, hS.F ht⟩) hS.2.2 d_Mo_read_166
            · have hag3 : m_ag A48 ((2, hd, mn + 1, ow, a1, jm) :: L2) := m_ag.same hag2 (fun b hb => ⟨by rw [j1149], by rw [j1249], by rw [j1349]⟩) (fun j hj => by rw [fa49 14 (by decide)])
              refine lv_istore (lv' := [(4, .int 0), (3, .int (Int32.ofNat ((L2.length + 1) + 1))), (2, .int (Int32.ofNat L2.length)), (0, .ref h0), (1, .int 1)]) hx hb d_Mo_read_158 hl (by decide) rfl (fun ls hl => ?_)
              refine lv_iload hx hb d_Mo_read_160 (lv_at hl 0 rfl) ?_
              refine lv_if_ge (tgt := 167) hx hb d_Mo_read_162 (by decide) (fun _ => ?_) (fun c51 => absurd (by decide) c51)
              refine lv_aload_n hx hb d_Mo_read_167 rfl (lv_at hl 3 rfl) ?_
              refine lv_dup hx hb d_Mo_read_168 rfl ?_
              refine m_g hx hb hts hown hK hP 8 (by decide) rfl (hts _ k_975) (v := .int (I48 8)) rfl d_Mo_read_169 ?_
              refine lv_iconst (v := 1) hx hb d_Mo_read_172 (by decide) ?_
              refine lv_iadd hx hb d_Mo_read_173 ?_
              refine m_p hx hb hts hown hK hP hD hS 8 (by decide) rfl (hts _ k_975) rfl (by decide +kernel) rfl (by decide) (x := ((I48 8) + 1)) d_Mo_read_174 (fun H locs hP hD hS => ?_)
              refine lv_iload hx hb d_Mo_read_177 (lv_at hl 0 rfl) ?_
              refine lv_if_ne (tgt := 187) hx hb d_Mo_read_179 (by decide) (fun c52 => absurd rfl c52) (fun _ => ?_)
              refine lv_aload_n hx hb d_Mo_read_182 rfl (lv_at hl 3 rfl) ?_
              have hFc := m_free hD hS hA
              refine va_calli (va_runV (As := []) (rest := []) ⟨hx, hb, hml, hown, hts⟩ (m_goOn l dC dI ar N0 z h0 ad (upd I48 8 ((I48 8) + 1)) T A48 U P49 S a49 ((nb + 1)) ((2, hd, mn + 1, ow, a1, jm) :: L2) H.size j649 ((fr49 4 (by decide)).trans ((hfr 4 (by decide)).trans h4)) (by omega) (by omega) (by omega) j749 j1849 (by show L2.length + 1 ≤ 7; omega) hag3 j449 jst49) (cwV 0 hts (x_goodV k_1144 k_1146 kp_54 k_9 k_1147) rfl rfl rfl (by decide +kernel) ⟨Nat.le_of_ble_eq_true rfl, Nat.le_of_ble_eq_true rfl⟩) ⟨x_blind, va_recv hK hP (ci := 6) (q0 := 0) rfl rfl, fun U9 hU9 hW9 => x_pre hU9 hW9 hP hD hU hZ hS hAN hN0⟩ rfl rfl hl.1 rfl (lv_room (Nat.le_of_ble_eq_true rfl)) d_Mo_read_183 ⟨Nat.le_of_ble_eq_true rfl, Nat.le_of_ble_eq_true rfl⟩) hS (fun q _ h => hFc q h) hFc (fun r53 u t H1 locs ht hvm hw hB hz1 hk1 hS => ?_)
              obtain ⟨I55, T55, A55, U55⟩ := u
              dsimp only at hw hB
              rw [ht] at hB
              have hP : va_P (dC, dI) x_cl (m_W h0 ad ar I55 T55 A55 U55) H1 := hB
              have hD : va_D Bq (m_W h0 ad ar I55 T55 A55 U55) := m_D hD
              generalize H1 = H at hP hS ⊢
              refine W.widen (k := 0) (n := 0) (Nat.le_of_ble_eq_true rfl) (Nat.le_of_ble_eq_true rfl) ?_
              obtain ⟨P56, a56, L56, o656, o156, o256, fr56, fa56, eT, eU, o756, o1856, o356, o456, hres⟩ := hw
              cases eT
              cases eU
              rcases hres with ⟨rfl, n1, n2, n3⟩ | ⟨rfl, n1, n2⟩ | ⟨rfl, n1⟩
              · refine lv_istore_n (lv' := [(1, .int 1), (4, .int 0), (3, .int (Int32.ofNat ((L2.length + 1) + 1))), (2, .int (Int32.ofNat L2.length)), (0, .ref h0)]) hx hb d_Mo_read_186 rfl hl (by decide) rfl (fun ls hl => ?_)
                refine lv_goto (tgt := 22) hx hb d_Mo_read_187 (by decide) ?_
                exact ih (73 - P56) (by omega) H locs ls ⟨I55, A55, P56, a56, L56, (nb + 1), 1, rfl, o256, o656, o756, o1856, by have := (show (((2, hd, mn + 1, ow, a1, jm) :: L2)).length ≤ 7 from (by show L2.length + 1 ≤ 7; omega)); omega, o456, by omega, (((hfr.tr fr49 (by decide)).up (by decide) _).tr fr56 (by decide)), ((((hfa.up (by decide) _).up (by decide) _).tr fa49 (by decide)).tr fa56 (by decide)), Or.inl ⟨rfl, n2, n3⟩, hP, hD, hS, lv_sub hl [4, 0] rfl⟩
              · refine lv_istore_n (lv' := [(1, .int 0), (4, .int 0), (3, .int (Int32.ofNat ((L2.length + 1) + 1))), (2, .int (Int32.ofNat L2.length)), (0, .ref h0)]) hx hb d_Mo_read_186 rfl hl (by decide) rfl (fun ls hl => ?_)
                refine lv_goto (tgt := 22) hx hb d_Mo_read_187 (by decide) ?_
                exact ih (73 - P56) (by omega) H locs ls ⟨I55, A55, P56, a56, L56, (nb + 1), 0, rfl, o256, o656, o756, o1856, by have := (show (((2, hd, mn + 1, ow, a1, jm) :: L2)).length ≤ 7 from (by show L2.length + 1 ≤ 7; omega)); omega, o456, by omega, (((hfr.tr fr49 (by decide)).up (by decide) _).tr fr56 (by decide)), ((((hfa.up (by decide) _).up (by decide) _).tr fa49 (by decide)).tr fa56 (by decide)), Or.inr ⟨rfl, fun _ => n2⟩, hP, hD, hS, lv_sub hl [4, 0] rfl⟩
              · refine lv_istore_n (lv' := [(1, .int 0), (4, .int 0), (3, .int (Int32.ofNat ((L2.length + 1) + 1))), (2, .int (Int32.ofNat L2.length)), (0, .ref h0)]) hx hb d_Mo_read_186 rfl hl (by decide) rfl (fun ls hl => ?_)
                refine lv_goto (tgt := 22) hx hb d_Mo_read_187 (by decide) ?_
                exact ih (73 - P56) (by omega) H locs ls ⟨I55, A55, P56, a56, L56, (nb + 1), 0, rfl, o256, o656, o756, o1856, by have := (show (((2, hd, mn + 1, ow, a1, jm) :: L2)).length ≤ 7 from (by show L2.length + 1 ≤ 7; omega)); omega, o456, by omega, (((hfr.tr fr49 (by decide)).up (by decide) _).tr fr56 (by decide)), ((((hfa.up (by decide) _).up (by decide) _).tr fa49 (by decide)).tr fa56 (by decide)), Or.inr ⟨rfl, fun h9 => absurd h9 n1⟩, hP, hD, hS, lv_sub hl [4, 0] rfl⟩
            · have hag3 : m_ag A48 ((k49, a1, 0, m_co ((2, hd, mn + 1, ow, a1, jm) :: L2), 0, fun _ => 0) :: ((2, hd, mn + 1, ow, a1, jm) :: L2)) := ⟨by rw [j1149, upd_s], by rw [j1249, upd_s], by rw [j1349, upd_s], fun h9 => absurd h9 (by show ¬ k49 = 5; omega), fun _ k hk => absurd hk (Nat.not_lt_zero k), Nat.zero_le _, m_ag.same hag2 (fun b hb => ⟨by rw [j1149, upd_n (by omega)], by rw [j1249, upd_n (by omega)], by rw [j1349, upd_n (by omega)]⟩) (fun j hj => by rw [fa49 14 (by decide)])⟩
              refine lv_istore (lv' := [(4, .int 1), (3, .int (Int32.ofNat ((L2.length + 1) + 1))), (2, .int (Int32.ofNat L2.length)), (0, .ref h0), (1, .int 1)]) hx hb d_Mo_read_158 hl (by decide) rfl (fun ls hl => ?_)
              refine lv_iload hx hb d_Mo_read_160 (lv_at hl 0 rfl) ?_
              refine lv_if_ge (tgt := 167) hx hb d_Mo_read_162 (by decide) (fun _ => ?_) (fun c57 => absurd (by decide) c57)
              refine lv_aload_n hx hb d_Mo_read_167 rfl (lv_at hl 3 rfl) ?_
              refine lv_dup hx hb d_Mo_read_168 rfl ?_
              refine m_g hx hb hts hown hK hP 8 (by decide) rfl (hts _ k_975) (v := .int (I48 8)) rfl d_Mo_read_169 ?_
              refine lv_iconst (v := 1) hx hb d_Mo_read_172 (by decide) ?_
              refine lv_iadd hx hb d_Mo_read_173 ?_
              refine m_p hx hb hts hown hK hP hD hS 8 (by decide) rfl (hts _ k_975) rfl (by decide +kernel) rfl (by decide) (x := ((I48 8) + 1)) d_Mo_read_174 (fun H locs hP hD hS => ?_)
              refine lv_iload hx hb d_Mo_read_177 (lv_at hl 0 rfl) ?_
              refine lv_if_ne (tgt := 187) hx hb d_Mo_read_179 (by decide) (fun _ => ?_) (fun c58 => absurd c58 (by decide))
              refine lv_goto (tgt := 22) hx hb d_Mo_read_187 (by decide) ?_
              exact ih (73 - P49) (by omega) H locs ls ⟨(upd I48 8 ((I48 8) + 1)), A48, P49, a49, ((k49, a1, 0, m_co ((2, hd, mn + 1, ow, a1, jm) :: L2), 0, fun _ => 0) :: ((2, hd, mn + 1, ow, a1, jm) :: L2)), (nb + 1), 1, rfl, j249, j649, j749, j1849, by show ((2, hd, mn + 1, ow, a1, jm) :: L2).length + 1 ≤ 7; omega, j449, by omega, ((hfr.tr fr49 (by decide)).up (by decide) _), (((hfa.up (by decide) _).up (by decide) _).tr fa49 (by decide)), Or.inl ⟨rfl, hag3, jst49⟩, hP, hD, hS, lv_sub hl [3, 4] rfl⟩
          · have c45 : mn = 4 := (x_eqN (a := mn) (b := 4) (by omega) (by omega)).mp c45
            refine lv_iconst (v := 0) hx hb d_Mo_read_117 (by decide) ?_
            refine W.widen (k := 0) (n := 0) (Nat.le_of_ble_eq_true rfl) (Nat.le_of_ble_eq_true rfl) ?_
            exact W.zret (v := 0) hx hb hr (rfl) (fun t ht hW => ⟨⟨0, (I1, T, A1, U), rfl, ⟨hfr, hfa, rfl, rfl, Or.inl rfl⟩, by dsimp only; rw [ht]; exact hP⟩, hS.F ht⟩) hS.2.2 d_Mo_read_118
        · refine W.eq (g2 := F0 m 77 ls [.int 6, .int 3]) rfl ?_
          have hst1 := hst.2 (by simp)
          refine lv_icmp_ne (tgt := 90) hx hb d_Mo_read_77 (by decide) (fun _ => ?_) (fun c59 => absurd c59 (by decide))
          refine lv_aload_n hx hb d_Mo_read_90 rfl (lv_at hl 2 rfl) ?_
          refine m_g hx hb hts hown hK hP 18 (by decide) rfl (hts _ k_985) (v := .int (Int32.ofNat (L2.length + 1))) (congrArg Value.int i18) d_Mo_read_91 ?_
          refine lv_if_le (tgt := 153) hx hb d_Mo_read_94 (by decide) (fun c60 => absurd ((x_leN (a := L2.length + 1) (b := 0) (by omega) (by omega)).mp c60) (by omega)) (fun _ => ?_)
          refine lv_aload_n hx hb d_Mo_read_97 rfl (lv_at hl 2 rfl) ?_
          refine m_g hx hb hts hown hK hP 11 (by decide) rfl (hts _ k_978) (v := .ref (ad 11)) rfl d_Mo_read_98 ?_
          refine lv_iload_n hx hb d_Mo_read_101 rfl (lv_at hl 1 rfl) ?_
          refine m_ld hx hb hK hP 4 rfl (by decide) (j := (Int32.ofNat L2.length)) (x_inN (by omega) (by decide)) d_Mo_read_102 ?_
          refine W.eq (g2 := F0 m 103 ls [.int 3]) (by rw [x_nat (a := L2.length) (by omega), g11]; rfl) ?_
          refine lv_iconst (v := 2) hx hb d_Mo_read_103 (by decide) ?_
          refine lv_icmp_ne (tgt := 153) hx hb d_Mo_read_104 (by decide) (fun _ => ?_) (fun c61 => absurd c61 (by decide))
          refine lv_aload_n hx hb d_Mo_read_153 rfl (lv_at hl 2 rfl) ?_
          refine lv_iload_n hx hb d_Mo_read_154 rfl (lv_at hl 0 rfl) ?_
          have hFc := m_free hD hS hA
          refine va_calli (va_runV (As := [.int (Int32.ofNat ((L2.length + 1) + 1))]) (rest := []) ⟨hx, hb, hml, hown, hts⟩ (m_start l dC dI ar N0 z h0 ad I1 T A1 U P1 S a1 (((L2.length + 1) + 1)) nb ((3, hd, mn, ow, cc, jm) :: L2) H.size i6 ((hfr 4 (by decide)).trans h4) (by omega) (by omega) (by omega) i7 i18 rfl (by show L2.length + 1 ≤ 7; omega) hat hst1) (cwV 1 hts (x_goodV k_1182 k_1184 kp_62 k_9 k_1185) rfl rfl rfl (by decide +kernel) ⟨Nat.le_of_ble_eq_true rfl, Nat.le_of_ble_eq_true rfl⟩) ⟨x_blind, va_recv hK hP (ci := 6) (q0 := 0) rfl rfl, fun U9 hU9 hW9 => x_pre hU9 hW9 hP hD hU hZ hS hAN hN0⟩ rfl rfl hl.1 rfl (lv_room (Nat.le_of_ble_eq_true rfl)) d_Mo_read_155 ⟨Nat.le_of_ble_eq_true rfl, Nat.le_of_ble_eq_true rfl⟩) hS (fun q _ h => hFc q h) hFc (fun r62 u t H1 locs ht hvm hw hB hz1 hk1 hS => ?_)
          obtain ⟨I64, T64, A64, U64⟩ := u
          dsimp only at hw hB
          rw [ht] at hB
          have hP : va_P (dC, dI) x_cl (m_W h0 ad ar I64 T64 A64 U64) H1 := hB
          have hD : va_D Bq (m_W h0 ad ar I64 T64 A64 U64) := m_D hD
          generalize H1 = H at hP hS ⊢
          refine W.widen (k := 0) (n := 0) (Nat.le_of_ble_eq_true rfl) (Nat.le_of_ble_eq_true rfl) ?_
          obtain ⟨P65, j665, j165, j265, fr65, fa65, eT, eU, hres⟩ := hw
          cases eT
          cases eU
          rcases hres with rfl | ⟨rfl, j365, a65, j765, j465, j1865, j1165, j1265, j1365, jst65⟩ | ⟨rfl, j365, a65, k65, hk65, j765, j465, j1865, j565, j1165, j1265, j1365, jst65⟩
          · refine lv_istore (lv' := [(4, .int (-1)), (3, .int (Int32.ofNat ((L2.length + 1) + 1))), (2, .int (Int32.ofNat L2.length)), (0, .ref h0), (1, .int 1)]) hx hb d_Mo_read_158 hl (by decide) rfl (fun ls hl => ?_)
            refine lv_iload hx hb d_Mo_read_160 (lv_at hl 0 rfl) ?_
            refine lv_if_ge (tgt := 167) hx hb d_Mo_read_162 (by decide) (fun c66 => absurd c66 (by decide)) (fun _ => ?_)
            refine lv_iconst (v := 0) hx hb d_Mo_read_165 (by decide) ?_
            refine W.widen (k := 0) (n := 0) (Nat.le_of_ble_eq_true rfl) (Nat.le_of_ble_eq_true rfl) ?_
            exact W.zret (v := 0) hx hb hr (rfl) (fun t ht hW => ⟨⟨0, (I64, T, A64, U), rfl, ⟨(hfr.tr fr65 (by decide)), (hfa.tr fa65 (by decide)), rfl, rfl, Or.inl rfl⟩, by dsimp only; rw [ht]; exact hP⟩, hS.F ht⟩) hS.2.2 d_Mo_read_166
          · have hag3 : m_ag A64 ((3, hd, mn, ow, cc, jm) :: L2) := m_ag.same hagw (fun b hb => ⟨by rw [j1165], by rw [j1265], by rw [j1365]⟩) (fun j hj => by rw [fa65 14 (by decide)])
            refine lv_istore (lv' := [(4, .int 0), (3, .int (Int32.ofNat ((L2.length + 1) + 1))), (2, .int (Int32.ofNat L2.length)), (0, .ref h0), (1, .int 1)]) hx hb d_Mo_read_158 hl (by decide) rfl (fun ls hl => ?_)
            refine lv_iload hx hb d_Mo_read_160 (lv_at hl 0 rfl) ?_
            refine lv_if_ge (tgt := 167) hx hb d_Mo_read_162 (by decide) (fun _ => ?_) (fun c67 => absurd (by decide) c67)
            refine lv_aload_n hx hb d_Mo_read_167 rfl (lv_at hl 3 rfl) ?_
            refine lv_dup hx hb d_Mo_read_168 rfl ?_
            refine m_g hx hb hts hown hK hP 8 (by decide) rfl (hts _ k_975) (v := .int (I64 8)) rfl d_Mo_read_169 ?_
            refine lv_iconst (v := 1) hx hb d_Mo_read_172 (by decide) ?_
            refine lv_iadd hx hb d_Mo_read_173 ?_
            refine m_p hx hb hts hown hK hP hD hS 8 (by decide) rfl (hts _ k_975) rfl (by decide +kernel) rfl (by decide) (x := ((I64 8) + 1)) d_Mo_read_174 (fun H locs hP hD hS => ?_)
            refine lv_iload hx hb d_Mo_read_177 (lv_at hl 0 rfl) ?_
            refine lv_if_ne (tgt := 187) hx hb d_Mo_read_179 (by decide) (fun c68 => absurd rfl c68) (fun _ => ?_)
            refine lv_aload_n hx hb d_Mo_read_182 rfl (lv_at hl 3 rfl) ?_
            have hFc := m_free hD hS hA
            refine va_calli (va_runV (As := []) (rest := []) ⟨hx, hb, hml, hown, hts⟩ (m_goOn l dC dI ar N0 z h0 ad (upd I64 8 ((I64 8) + 1)) T A64 U P65 S a65 nb ((3, hd, mn, ow, cc, jm) :: L2) H.size j665 ((fr65 4 (by decide)).trans ((hfr 4 (by decide)).trans h4)) (by omega) (by omega) (by omega) j765 j1865 (by show L2.length + 1 ≤ 7; omega) hag3 j465 jst65) (cwV 0 hts (x_goodV k_1144 k_1146 kp_54 k_9 k_1147) rfl rfl rfl (by decide +kernel) ⟨Nat.le_of_ble_eq_true rfl, Nat.le_of_ble_eq_true rfl⟩) ⟨x_blind, va_recv hK hP (ci := 6) (q0 := 0) rfl rfl, fun U9 hU9 hW9 => x_pre hU9 hW9 hP hD hU hZ hS hAN hN0⟩ rfl rfl hl.1 rfl (lv_room (Nat.le_of_ble_eq_true rfl)) d_Mo_read_183 ⟨Nat.le_of_ble_eq_true rfl, Nat.le_of_ble_eq_true rfl⟩) hS (fun q _ h => hFc q h) hFc (fun r69 u t H1 locs ht hvm hw hB hz1 hk1 hS => ?_)
            obtain ⟨I71, T71, A71, U71⟩ := u
            dsimp only at hw hB
            rw [ht] at hB
            have hP : va_P (dC, dI) x_cl (m_W h0 ad ar I71 T71 A71 U71) H1 := hB
            have hD : va_D Bq (m_W h0 ad ar I71 T71 A71 U71) := m_D hD
            generalize H1 = H at hP hS ⊢
            refine W.widen (k := 0) (n := 0) (Nat.le_of_ble_eq_true rfl) (Nat.le_of_ble_eq_true rfl) ?_
            obtain ⟨P72, a72, L72, o672, o172, o272, fr72, fa72, eT, eU, o772, o1872, o372, o472, hres⟩ := hw
            cases eT
            cases eU
            rcases hres with ⟨rfl, n1, n2, n3⟩ | ⟨rfl, n1, n2⟩ | ⟨rfl, n1⟩
            · refine lv_istore_n (lv' := [(1, .int 1), (4, .int 0), (3, .int (Int32.ofNat ((L2.length + 1) + 1))), (2, .int (Int32.ofNat L2.length)), (0, .ref h0)]) hx hb d_Mo_read_186 rfl hl (by decide) rfl (fun ls hl => ?_)
              refine lv_goto (tgt := 22) hx hb d_Mo_read_187 (by decide) ?_
              exact ih (73 - P72) (by omega) H locs ls ⟨I71, A71, P72, a72, L72, nb, 1, rfl, o272, o672, o772, o1872, by have := (show (((3, hd, mn, ow, cc, jm) :: L2)).length ≤ 7 from (by show L2.length + 1 ≤ 7; omega)); omega, o472, by omega, (((hfr.tr fr65 (by decide)).up (by decide) _).tr fr72 (by decide)), ((hfa.tr fa65 (by decide)).tr fa72 (by decide)), Or.inl ⟨rfl, n2, n3⟩, hP, hD, hS, lv_sub hl [4, 0] rfl⟩
            · refine lv_istore_n (lv' := [(1, .int 0), (4, .int 0), (3, .int (Int32.ofNat ((L2.length + 1) + 1))), (2, .int (Int32.ofNat L2.length)), (0, .ref h0)]) hx hb d_Mo_read_186 rfl hl (by decide) rfl (fun ls hl => ?_)
              refine lv_goto (tgt := 22) hx hb d_Mo_read_187 (by decide) ?_
              exact ih (73 - P72) (by omega) H locs ls ⟨I71, A71, P72, a72, L72, nb, 0, rfl, o272, o672, o772, o1872, by have := (show (((3, hd, mn, ow, cc, jm) :: L2)).length ≤ 7 from (by show L2.length + 1 ≤ 7; omega)); omega, o472, by omega, (((hfr.tr fr65 (by decide)).up (by decide) _).tr fr72 (by decide)), ((hfa.tr fa65 (by decide)).tr fa72 (by decide)), Or.inr ⟨rfl, fun _ => n2⟩, hP, hD, hS, lv_sub hl [4, 0] rfl⟩
            · refine lv_istore_n (lv' := [(1, .int 0), (4, .int 0), (3, .int (Int32.ofNat ((L2.length + 1) + 1))), (2, .int (Int32.ofNat L2.length)), (0, .ref h0)]) hx hb d_Mo_read_186 rfl hl (by decide) rfl (fun ls hl => ?_)
              refine lv_goto (tgt := 22) hx hb d_Mo_read_187 (by decide) ?_
              exact ih (73 - P72) (by omega) H locs ls ⟨I71, A71, P72, a72, L72, nb, 0, rfl, o272, o672, o772, o1872, by have := (show (((3, hd, mn, ow, cc, jm) :: L2)).length ≤ 7 from (by show L2.length + 1 ≤ 7; omega)); omega, o472, by omega, (((hfr.tr fr65 (by decide)).up (by decide) _).tr fr72 (by decide)), ((hfa.tr fa65 (by decide)).tr fa72 (by decide)), Or.inr ⟨rfl, fun h9 => absurd h9 n1⟩, hP, hD, hS, lv_sub hl [4, 0] rfl⟩
          · have hag3 : m_ag A64 ((k65, a1, 0, m_co ((3, hd, mn, ow, cc, jm) :: L2), 0, fun _ => 0) :: ((3, hd, mn, ow, cc, jm) :: L2)) := ⟨by rw [j1165, upd_s], by rw [j1265, upd_s], by rw [j1365, upd_s], fun h9 => absurd h9 (by show ¬ k65 = 5; omega), fun _ k hk => absurd hk (Nat.not_lt_zero k), Nat.zero_le _, m_ag.same hagw (fun b hb => ⟨by rw [j1165, upd_n (by omega)], by rw [j1265, upd_n (by omega)], by rw [j1365, upd_n (by omega)]⟩) (fun j hj => by rw [fa65 14 (by decide)])⟩
            refine lv_istore (lv' := [(4, .int 1), (3, .int (Int32.ofNat ((L2.length + 1) + 1))), (2, .int (Int32.ofNat L2.length)), (0, .ref h0), (1, .int 1)]) hx hb d_Mo_read_158 hl (by decide) rfl (fun ls hl => ?_)
            refine lv_iload hx hb d_Mo_read_160 (lv_at hl 0 rfl) ?_
            refine lv_if_ge (tgt := 167) hx hb d_Mo_read_162 (by decide) (fun _ => ?_) (fun c73 => absurd (by decide) c73)
            refine lv_aload_n hx hb d_Mo_read_167 rfl (lv_at hl 3 rfl) ?_
            refine lv_dup hx hb d_Mo_read_168 rfl ?_
            refine m_g hx hb hts hown hK hP 8 (by decide) rfl (hts _ k_975) (v := .int (I64 8)) rfl d_Mo_read_169 ?_
            refine lv_iconst (v := 1) hx hb d_Mo_read_172 (by decide) ?_
            refine lv_iadd hx hb d_Mo_read_173 ?_
            refine m_p hx hb hts hown hK hP hD hS 8 (by decide) rfl (hts _ k_975) rfl (by decide +kernel) rfl (by decide) (x := ((I64 8) + 1)) d_Mo_read_174 (fun H locs hP hD hS => ?_)
            refine lv_iload hx hb d_Mo_read_177 (lv_at hl 0 rfl) ?_
            refine lv_if_ne (tgt := 187) hx hb d_Mo_read_179 (by decide) (fun _ => ?_) (fun c74 => absurd c74 (by decide))
            refine lv_goto (tgt := 22) hx hb d_Mo_read_187 (by decide) ?_
            exact ih (73 - P65) (by omega) H locs ls ⟨(upd I64 8 ((I64 8) + 1)), A64, P65, a65, ((k65, a1, 0, m_co ((3, hd, mn, ow, cc, jm) :: L2), 0, fun _ => 0) :: ((3, hd, mn, ow, cc, jm) :: L2)), nb, 1, rfl, j265, j665, j765, j1865, by show ((3, hd, mn, ow, cc, jm) :: L2).length + 1 ≤ 7; omega, j465, by omega, ((hfr.tr fr65 (by decide)).up (by decide) _), (hfa.tr fa65 (by decide)), Or.inl ⟨rfl, hag3, jst65⟩, hP, hD, hS, lv_sub hl [3, 4] rfl⟩
        · refine W.eq (g2 := F0 m 77 ls [.int 6, .int 4]) rfl ?_
          have hst1 := hst.2 (by simp)
          refine lv_icmp_ne (tgt := 90) hx hb d_Mo_read_77 (by decide) (fun _ => ?_) (fun c75 => absurd c75 (by decide))
          refine lv_aload_n hx hb d_Mo_read_90 rfl (lv_at hl 2 rfl) ?_
          refine m_g hx hb hts hown hK hP 18 (by decide) rfl (hts _ k_985) (v := .int (Int32.ofNat (L2.length + 1))) (congrArg Value.int i18) d_Mo_read_91 ?_
          refine lv_if_le (tgt := 153) hx hb d_Mo_read_94 (by decide) (fun c76 => absurd ((x_leN (a := L2.length + 1) (b := 0) (by omega) (by omega)).mp c76) (by omega)) (fun _ => ?_)
          refine lv_aload_n hx hb d_Mo_read_97 rfl (lv_at hl 2 rfl) ?_
          refine m_g hx hb hts hown hK hP 11 (by decide) rfl (hts _ k_978) (v := .ref (ad 11)) rfl d_Mo_read_98 ?_
          refine lv_iload_n hx hb d_Mo_read_101 rfl (lv_at hl 1 rfl) ?_
          refine m_ld hx hb hK hP 4 rfl (by decide) (j := (Int32.ofNat L2.length)) (x_inN (by omega) (by decide)) d_Mo_read_102 ?_
          refine W.eq (g2 := F0 m 103 ls [.int 4]) (by rw [x_nat (a := L2.length) (by omega), g11]; rfl) ?_
          refine lv_iconst (v := 2) hx hb d_Mo_read_103 (by decide) ?_
          refine lv_icmp_ne (tgt := 153) hx hb d_Mo_read_104 (by decide) (fun _ => ?_) (fun c77 => absurd c77 (by decide))
          refine lv_aload_n hx hb d_Mo_read_153 rfl (lv_at hl 2 rfl) ?_
          refine lv_iload_n hx hb d_Mo_read_154 rfl (lv_at hl 0 rfl) ?_
          have hFc := m_free hD hS hA
          refine va_calli (va_runV (As := [.int (Int32.ofNat ((L2.length + 1) + 1))]) (rest := []) ⟨hx, hb, hml, hown, hts⟩ (m_start l dC dI ar N0 z h0 ad I1 T A1 U P1 S a1 (((L2.length + 1) + 1)) nb ((4, hd, mn, ow, cc, jm) :: L2) H.size i6 ((hfr 4 (by decide)).trans h4) (by omega) (by omega) (by omega) i7 i18 rfl (by show L2.length + 1 ≤ 7; omega) hat hst1) (cwV 1 hts (x_goodV k_1182 k_1184 kp_62 k_9 k_1185) rfl rfl rfl (by decide +kernel) ⟨Nat.le_of_ble_eq_true rfl, Nat.le_of_ble_eq_true rfl⟩) ⟨x_blind, va_recv hK hP (ci := 6) (q0 := 0) rfl rfl, fun U9 hU9 hW9 => x_pre hU9 hW9 hP hD hU hZ hS hAN hN0⟩ rfl rfl hl.1 rfl (lv_room (Nat.le_of_ble_eq_true rfl)) d_Mo_read_155 ⟨Nat.le_of_ble_eq_true rfl, Nat.le_of_ble_eq_true rfl⟩) hS (fun q _ h => hFc q h) hFc (fun r78 u t H1 locs ht hvm hw hB hz1 hk1 hS => ?_)
          obtain ⟨I80, T80, A80, U80⟩ := u
          dsimp only at hw hB
          rw [ht] at hB
          have hP : va_P (dC, dI) x_cl (m_W h0 ad ar I80 T80 A80 U80) H1 := hB
          have hD : va_D Bq (m_W h0 ad ar I80 T80 A80 U80) := m_D hD
          generalize H1 = H at hP hS ⊢
          refine W.widen (k := 0) (n := 0) (Nat.le_of_ble_eq_true rfl) (Nat.le_of_ble_eq_true rfl) ?_
          obtain ⟨P81, j681, j181, j281, fr81, fa81, eT, eU, hres⟩ := hw
          cases eT
          cases eU
          rcases hres with rfl | ⟨rfl, j381, a81, j781, j481, j1881, j1181, j1281, j1381, jst81⟩ | ⟨rfl, j381, a81, k81, hk81, j781, j481, j1881, j581, j1181, j1281, j1381, jst81⟩
          · refine lv_istore (lv' := [(4, .int (-1)), (3, .int (Int32.ofNat ((L2.length + 1) + 1))), (2, .int (Int32.ofNat L2.length)), (0, .ref h0), (1, .int 1)]) hx hb d_Mo_read_158 hl (by decide) rfl (fun ls hl => ?_)
            refine lv_iload hx hb d_Mo_read_160 (lv_at hl 0 rfl) ?_
            refine lv_if_ge (tgt := 167) hx hb d_Mo_read_162 (by decide) (fun c82 => absurd c82 (by decide)) (fun _ => ?_)
            refine lv_iconst (v := 0) hx hb d_Mo_read_165 (by decide) ?_
            refine W.widen (k := 0) (n := 0) (Nat.le_of_ble_eq_true rfl) (Nat.le_of_ble_eq_true rfl) ?_
            exact W.zret (v := 0) hx hb hr (rfl) (fun t ht hW => ⟨⟨0, (I80, T, A80, U), rfl, ⟨(hfr.tr fr81 (by decide)), (hfa.tr fa81 (by decide)), rfl, rfl, Or.inl rfl⟩, by dsimp only; rw [ht]; exact hP⟩, hS.F ht⟩) hS.2.2 d_Mo_read_166
          · have hag3 : m_ag A80 ((4, hd, mn, ow, cc, jm) :: L2) := m_ag.same hagw (fun b hb => ⟨by rw [j1181], by rw [j1281], by rw [j1381]⟩) (fun j hj => by rw [fa81 14 (by decide)])
            refine lv_istore (lv' := [(4, .int 0), (3, .int (Int32.ofNat ((L2.length + 1) + 1))), (2, .int (Int32.ofNat L2.length)), (0, .ref h0), (1, .int 1)]) hx hb d_Mo_read_158 hl (by decide) rfl (fun ls hl => ?_)
            refine lv_iload hx hb d_Mo_read_160 (lv_at hl 0 rfl) ?_
            refine lv_if_ge (tgt := 167) hx hb d_Mo_read_162 (by decide) (fun _ => ?_) (fun c83 => absurd (by decide) c83)
            refine lv_aload_n hx hb d_Mo_read_167 rfl (lv_at hl 3 rfl) ?_
            refine lv_dup hx hb d_Mo_read_168 rfl ?_
            refine m_g hx hb hts hown hK hP 8 (by decide) rfl (hts _ k_975) (v := .int (I80 8)) rfl d_Mo_read_169 ?_
            refine lv_iconst (v := 1) hx hb d_Mo_read_172 (by decide) ?_
            refine lv_iadd hx hb d_Mo_read_173 ?_
            refine m_p hx hb hts hown hK hP hD hS 8 (by decide) rfl (hts _ k_975) rfl (by decide +kernel) rfl (by decide) (x := ((I80 8) + 1)) d_Mo_read_174 (fun H locs hP hD hS => ?_)
            refine lv_iload hx hb d_Mo_read_177 (lv_at hl 0 rfl) ?_
            refine lv_if_ne (tgt := 187) hx hb d_Mo_read_179 (by decide) (fun c84 => absurd rfl c84) (fun _ => ?_)
            refine lv_aload_n hx hb d_Mo_read_182 rfl (lv_at hl 3 rfl) ?_
            have hFc := m_free hD hS hA
            refine va_calli (va_runV (As := []) (rest := []) ⟨hx, hb, hml, hown, hts⟩ (m_goOn l dC dI ar N0 z h0 ad (upd I80 8 ((I80 8) + 1)) T A80 U P81 S a81 nb ((4, hd, mn, ow, cc, jm) :: L2) H.size j681 ((fr81 4 (by decide)).trans ((hfr 4 (by decide)).trans h4)) (by omega) (by omega) (by omega) j781 j1881 (by show L2.length + 1 ≤ 7; omega) hag3 j481 jst81) (cwV 0 hts (x_goodV k_1144 k_1146 kp_54 k_9 k_1147) rfl rfl rfl (by decide +kernel) ⟨Nat.le_of_ble_eq_true rfl, Nat.le_of_ble_eq_true rfl⟩) ⟨x_blind, va_recv hK hP (ci := 6) (q0 := 0) rfl rfl, fun U9 hU9 hW9 => x_pre hU9 hW9 hP hD hU hZ hS hAN hN0⟩ rfl rfl hl.1 rfl (lv_room (Nat.le_of_ble_eq_true rfl)) d_Mo_read_183 ⟨Nat.le_of_ble_eq_true rfl, Nat.le_of_ble_eq_true rfl⟩) hS (fun q _ h => hFc q h) hFc (fun r85 u t H1 locs ht hvm hw hB hz1 hk1 hS => ?_)
            obtain ⟨I87, T87, A87, U87⟩ := u
            dsimp only at hw hB
            rw [ht] at hB
            have hP : va_P (dC, dI) x_cl (m_W h0 ad ar I87 T87 A87 U87) H1 := hB
            have hD : va_D Bq (m_W h0 ad ar I87 T87 A87 U87) := m_D hD
            generalize H1 = H at hP hS ⊢
            refine W.widen (k := 0) (n := 0) (Nat.le_of_ble_eq_true rfl) (Nat.le_of_ble_eq_true rfl) ?_
            obtain ⟨P88, a88, L88, o688, o188, o288, fr88, fa88, eT, eU, o788, o1888, o388, o488, hres⟩ := hw
            cases eT
            cases eU
            rcases hres with ⟨rfl, n1, n2, n3⟩ | ⟨rfl, n1, n2⟩ | ⟨rfl, n1⟩
            · refine lv_istore_n (lv' := [(1, .int 1), (4, .int 0), (3, .int (Int32.ofNat ((L2.length + 1) + 1))), (2, .int (Int32.ofNat L2.length)), (0, .ref h0)]) hx hb d_Mo_read_186 rfl hl (by decide) rfl (fun ls hl => ?_)
              refine lv_goto (tgt := 22) hx hb d_Mo_read_187 (by decide) ?_
              exact ih (73 - P88) (by omega) H locs ls ⟨I87, A87, P88, a88, L88, nb, 1, rfl, o288, o688, o788, o1888, by have := (show (((4, hd, mn, ow, cc, jm) :: L2)).length ≤ 7 from (by show L2.length + 1 ≤ 7; omega)); omega, o488, by omega, (((hfr.tr fr81 (by decide)).up (by decide) _).tr fr88 (by decide)), ((hfa.tr fa81 (by decide)).tr fa88 (by decide)), Or.inl ⟨rfl, n2, n3⟩, hP, hD, hS, lv_sub hl [4, 0] rfl⟩
            · refine lv_istore_n (lv' := [(1, .int 0), (4, .int 0), (3, .int (Int32.ofNat ((L2.length + 1) + 1))), (2, .int (Int32.ofNat L2.length)), (0, .ref h0)]) hx hb d_Mo_read_186 rfl hl (by decide) rfl (fun ls hl => ?_)
              refine lv_goto (tgt := 22) hx hb d_Mo_read_187 (by decide) ?_
              exact ih (73 - P88) (by omega) H locs ls ⟨I87, A87, P88, a88, L88, nb, 0, rfl, o288, o688, o788, o1888, by have := (show (((4, hd, mn, ow, cc, jm) :: L2)).length ≤ 7 from (by show L2.length + 1 ≤ 7; omega)); omega, o488, by omega, (((hfr.tr fr81 (by decide)).up (by decide) _).tr fr88 (by decide)), ((hfa.tr fa81 (by decide)).tr fa88 (by decide)), Or.inr ⟨rfl, fun _ => n2⟩, hP, hD, hS, lv_sub hl [4, 0] rfl⟩
            · refine lv_istore_n (lv' := [(1, .int 0), (4, .int 0), (3, .int (Int32.ofNat ((L2.length + 1) + 1))), (2, .int (Int32.ofNat L2.length)), (0, .ref h0)]) hx hb d_Mo_read_186 rfl hl (by decide) rfl (fun ls hl => ?_)
              refine lv_goto (tgt := 22) hx hb d_Mo_read_187 (by decide) ?_
              exact ih (73 - P88) (by omega) H locs ls ⟨I87, A87, P88, a88, L88, nb, 0, rfl, o288, o688, o788, o1888, by have := (show (((4, hd, mn, ow, cc, jm) :: L2)).length ≤ 7 from (by show L2.length + 1 ≤ 7; omega)); omega, o488, by omega, (((hfr.tr fr81 (by decide)).up (by decide) _).tr fr88 (by decide)), ((hfa.tr fa81 (by decide)).tr fa88 (by decide)), Or.inr ⟨rfl, fun h9 => absurd h9 n1⟩, hP, hD, hS, lv_sub hl [4, 0] rfl⟩
          · have hag3 : m_ag A80 ((k81, a1, 0, m_co ((4, hd, mn, ow, cc, jm) :: L2), 0, fun _ => 0) :: ((4, hd, mn, ow, cc, jm) :: L2)) := ⟨by rw [j1181, upd_s], by rw [j1281, upd_s], by rw [j1381, upd_s], fun h9 => absurd h9 (by show ¬ k81 = 5; omega), fun _ k hk => absurd hk (Nat.not_lt_zero k), Nat.zero_le _, m_ag.same hagw (fun b hb => ⟨by rw [j1181, upd_n (by omega)], by rw [j1281, upd_n (by omega)], by rw [j1381, upd_n (by omega)]⟩) (fun j hj => by rw [fa81 14 (by decide)])⟩
            refine lv_istore (lv' := [(4, .int 1), (3, .int (Int32.ofNat ((L2.length + 1) + 1))), (2, .int (Int32.ofNat L2.length)), (0, .ref h0), (1, .int 1)]) hx hb d_Mo_read_158 hl (by decide) rfl (fun ls hl => ?_)
            refine lv_iload hx hb d_Mo_read_160 (lv_at hl 0 rfl) ?_
            refine lv_if_ge (tgt := 167) hx hb d_Mo_read_162 (by decide) (fun _ => ?_) (fun c89 => absurd (by decide) c89)
            refine lv_aload_n hx hb d_Mo_read_167 rfl (lv_at hl 3 rfl) ?_
            refine lv_dup hx hb d_Mo_read_168 rfl ?_
            refine m_g hx hb hts hown hK hP 8 (by decide) rfl (hts _ k_975) (v := .int (I80 8)) rfl d_Mo_read_169 ?_
            refine lv_iconst (v := 1) hx hb d_Mo_read_172 (by decide) ?_
            refine lv_iadd hx hb d_Mo_read_173 ?_
            refine m_p hx hb hts hown hK hP hD hS 8 (by decide) rfl (hts _ k_975) rfl (by decide +kernel) rfl (by decide) (x := ((I80 8) + 1)) d_Mo_read_174 (fun H locs hP hD hS => ?_)
            refine lv_iload hx hb d_Mo_read_177 (lv_at hl 0 rfl) ?_
            refine lv_if_ne (tgt := 187) hx hb d_Mo_read_179 (by decide) (fun _ => ?_) (fun c90 => absurd c90 (by decide))
            refine lv_goto (tgt := 22) hx hb d_Mo_read_187 (by decide) ?_
            exact ih (73 - P81) (by omega) H locs ls ⟨(upd I80 8 ((I80 8) + 1)), A80, P81, a81, ((k81, a1, 0, m_co ((4, hd, mn, ow, cc, jm) :: L2), 0, fun _ => 0) :: ((4, hd, mn, ow, cc, jm) :: L2)), nb, 1, rfl, j281, j681, j781, j1881, by show ((4, hd, mn, ow, cc, jm) :: L2).length + 1 ≤ 7; omega, j481, by omega, ((hfr.tr fr81 (by decide)).up (by decide) _), (hfa.tr fa81 (by decide)), Or.inl ⟨rfl, hag3, jst81⟩, hP, hD, hS, lv_sub hl [3, 4] rfl⟩
        · refine W.eq (g2 := F0 m 77 ls [.int 6, .int 5]) rfl ?_
          have hst1 := hst.2 (by simp)
          refine lv_icmp_ne (tgt := 90) hx hb d_Mo_read_77 (by decide) (fun _ => ?_) (fun c91 => absurd c91 (by decide))
          refine lv_aload_n hx hb d_Mo_read_90 rfl (lv_at hl 2 rfl) ?_
          refine m_g hx hb hts hown hK hP 18 (by decide) rfl (hts _ k_985) (v := .int (Int32.ofNat (L2.length + 1))) (congrArg Value.int i18) d_Mo_read_91 ?_
          refine lv_if_le (tgt := 153) hx hb d_Mo_read_94 (by decide) (fun c92 => absurd ((x_leN (a := L2.length + 1) (b := 0) (by omega) (by omega)).mp c92) (by omega)) (fun _ => ?_)
          refine lv_aload_n hx hb d_Mo_read_97 rfl (lv_at hl 2 rfl) ?_
          refine m_g hx hb hts hown hK hP 11 (by decide) rfl (hts _ k_978) (v := .ref (ad 11)) rfl d_Mo_read_98 ?_
          refine lv_iload_n hx hb d_Mo_read_101 rfl (lv_at hl 1 rfl) ?_
          refine m_ld hx hb hK hP 4 rfl (by decide) (j := (Int32.ofNat L2.length)) (x_inN (by omega) (by decide)) d_Mo_read_102 ?_
          refine W.eq (g2 := F0 m 103 ls [.int 5]) (by rw [x_nat (a := L2.length) (by omega), g11]; rfl) ?_
          refine lv_iconst (v := 2) hx hb d_Mo_read_103 (by decide) ?_
          refine lv_icmp_ne (tgt := 153) hx hb d_Mo_read_104 (by decide) (fun _ => ?_) (fun c93 => absurd c93 (by decide))
          refine lv_aload_n hx hb d_Mo_read_153 rfl (lv_at hl 2 rfl) ?_
          refine lv_iload_n hx hb d_Mo_read_154 rfl (lv_at hl 0 rfl) ?_
          have hFc := m_free hD hS hA
          refine va_calli (va_runV (As := [.int (Int32.ofNat ((L2.length + 1) + 1))]) (rest := []) ⟨hx, hb, hml, hown, hts⟩ (m_start l dC dI ar N0 z h0 ad I1 T A1 U P1 S a1 (((L2.length + 1) + 1)) nb ((5, hd, mn, ow, cc, jm) :: L2) H.size i6 ((hfr 4 (by decide)).trans h4) (by omega) (by omega) (by omega) i7 i18 rfl (by show L2.length + 1 ≤ 7; omega) hat hst1) (cwV 1 hts (x_goodV k_1182 k_1184 kp_62 k_9 k_1185) rfl rfl rfl (by decide +kernel) ⟨Nat.le_of_ble_eq_true rfl, Nat.le_of_ble_eq_true rfl⟩) ⟨x_blind, va_recv hK hP (ci := 6) (q0 := 0) rfl rfl, fun U9 hU9 hW9 => x_pre hU9 hW9 hP hD hU hZ hS hAN hN0⟩ rfl rfl hl.1 rfl (lv_room (Nat.le_of_ble_eq_true rfl)) d_Mo_read_155 ⟨Nat.le_of_ble_eq_true rfl, Nat.le_of_ble_eq_true rfl⟩) hS (fun q _ h => hFc q h) hFc (fun r94 u t H1 locs ht hvm hw hB hz1 hk1 hS => ?_)
          obtain ⟨I96, T96, A96, U96⟩ := u
          dsimp only at hw hB
          rw [ht] at hB
          have hP : va_P (dC, dI) x_cl (m_W h0 ad ar I96 T96 A96 U96) H1 := hB
          have hD : va_D Bq (m_W h0 ad ar I96 T96 A96 U96) := m_D hD
          generalize H1 = H at hP hS ⊢
          refine W.widen (k := 0) (n := 0) (Nat.le_of_ble_eq_true rfl) (Nat.le_of_ble_eq_true rfl) ?_
          obtain ⟨P97, j697, j197, j297, fr97, fa97, eT, eU, hres⟩ := hw
          cases eT
          cases eU
          rcases hres with rfl | ⟨rfl, j397, a97, j797, j497, j1897, j1197, j1297, j1397, jst97⟩ | ⟨rfl, j397, a97, k97, hk97, j797, j497, j1897, j597, j1197, j1297, j1397, jst97⟩
          · refine lv_istore (lv' := [(4, .int (-1)), (3, .int (Int32.ofNat ((L2.length + 1) + 1))), (2, .int (Int32.ofNat L2.length)), (0, .ref h0), (1, .int 1)]) hx hb d_Mo_read_158 hl (by decide) rfl (fun ls hl => ?_)
            refine lv_iload hx hb d_Mo_read_160 (lv_at hl 0 rfl) ?_
            refine lv_if_ge (tgt := 167) hx hb d_Mo_read_162 (by decide) (fun c98 => absurd c98 (by decide)) (fun _ => ?_)
            refine lv_iconst (v := 0) hx hb d_Mo_read_165 (by decide) ?_
            refine W.widen (k := 0) (n := 0) (Nat.le_of_ble_eq_true rfl) (Nat.le_of_ble_eq_true rfl) ?_
            exact W.zret (v := 0) hx hb hr (rfl) (fun t ht hW => ⟨⟨0, (I96, T, A96, U), rfl, ⟨(hfr.tr fr97 (by decide)), (hfa.tr fa97 (by decide)), rfl, rfl, Or.inl rfl⟩, by dsimp only; rw [ht]; exact hP⟩, hS.F ht⟩) hS.2.2 d_Mo_read_166
          · have hag3 : m_ag A96 ((5, hd, mn, ow, cc, jm) :: L2) := m_ag.same hagw (fun b hb => ⟨by rw [j1197], by rw [j1297], by rw [j1397]⟩) (fun j hj => by rw [fa97 14 (by decide)])
            refine lv_istore (lv' := [(4, .int 0), (3, .int (Int32.ofNat ((L2.length + 1) + 1))), (2, .int (Int32.ofNat L2.length)), (0, .ref h0), (1, .int 1)]) hx hb d_Mo_read_158 hl (by decide) rfl (fun ls hl => ?_)
            refine lv_iload hx hb d_Mo_read_160 (lv_at hl 0 rfl) ?_
            refine lv_if_ge (tgt := 167) hx hb d_Mo_read_162 (by decide) (fun _ => ?_) (fun c99 => absurd (by decide) c99)
            refine lv_aload_n hx hb d_Mo_read_167 rfl (lv_at hl 3 rfl) ?_
            refine lv_dup hx hb d_Mo_read_168 rfl ?_
            refine m_g hx hb hts hown hK hP 8 (by decide) rfl (hts _ k_975) (v := .int (I96 8)) rfl d_Mo_read_169 ?_
            refine lv_iconst (v := 1) hx hb d_Mo_read_172 (by decide) ?_
            refine lv_iadd hx hb d_Mo_read_173 ?_
            refine m_p hx hb hts hown hK hP hD hS 8 (by decide) rfl (hts _ k_975) rfl (by decide +kernel) rfl (by decide) (x := ((I96 8) + 1)) d_Mo_read_174 (fun H locs hP hD hS => ?_)
            refine lv_iload hx hb d_Mo_read_177 (lv_at hl 0 rfl) ?_
            refine lv_if_ne (tgt := 187) hx hb d_Mo_read_179 (by decide) (fun c100 => absurd rfl c100) (fun _ => ?_)
            refine lv_aload_n hx hb d_Mo_read_182 rfl (lv_at hl 3 rfl) ?_
            have hFc := m_free hD hS hA
            refine va_calli (va_runV (As := []) (rest := []) ⟨hx, hb, hml, hown, hts⟩ (m_goOn l dC dI ar N0 z h0 ad (upd I96 8 ((I96 8) + 1)) T A96 U P97 S a97 nb ((5, hd, mn, ow, cc, jm) :: L2) H.size j697 ((fr97 4 (by decide)).trans ((hfr 4 (by decide)).trans h4)) (by omega) (by omega) (by omega) j797 j1897 (by show L2.length + 1 ≤ 7; omega) hag3 j497 jst97) (cwV 0 hts (x_goodV k_1144 k_1146 kp_54 k_9 k_1147) rfl rfl rfl (by decide +kernel) ⟨Nat.le_of_ble_eq_true rfl, Nat.le_of_ble_eq_true rfl⟩) ⟨x_blind, va_recv hK hP (ci := 6) (q0 := 0) rfl rfl, fun U9 hU9 hW9 => x_pre hU9 hW9 hP hD hU hZ hS hAN hN0⟩ rfl rfl hl.1 rfl (lv_room (Nat.le_of_ble_eq_true rfl)) d_Mo_read_183 ⟨Nat.le_of_ble_eq_true rfl, Nat.le_of_ble_eq_true rfl⟩) hS (fun q _ h => hFc q h) hFc (fun r101 u t H1 locs ht hvm hw hB hz1 hk1 hS => ?_)
            obtain ⟨I103, T103, A103, U103⟩ := u
            dsimp only at hw hB
            rw [ht] at hB
            have hP : va_P (dC, dI) x_cl (m_W h0 ad ar I103 T103 A103 U103) H1 := hB
            have hD : va_D Bq (m_W h0 ad ar I103 T103 A103 U103) := m_D hD
            generalize H1 = H at hP hS ⊢
            refine W.widen (k := 0) (n := 0) (Nat.le_of_ble_eq_true rfl) (Nat.le_of_ble_eq_true rfl) ?_
            obtain ⟨P104, a104, L104, o6104, o1104, o2104, fr104, fa104, eT, eU, o7104, o18104, o3104, o4104, hres⟩ := hw
            cases eT
            cases eU
            rcases hres with ⟨rfl, n1, n2, n3⟩ | ⟨rfl, n1, n2⟩ | ⟨rfl, n1⟩
            · refine lv_istore_n (lv' := [(1, .int 1), (4, .int 0), (3, .int (Int32.ofNat ((L2.length + 1) + 1))), (2, .int (Int32.ofNat L2.length)), (0, .ref h0)]) hx hb d_Mo_read_186 rfl hl (by decide) rfl (fun ls hl => ?_)
              refine lv_goto (tgt := 22) hx hb d_Mo_read_187 (by decide) ?_
              exact ih (73 - P104) (by omega) H locs ls ⟨I103, A103, P104, a104, L104, nb, 1, rfl, o2104, o6104, o7104, o18104, by have := (show (((5, hd, mn, ow, cc, jm) :: L2)).length ≤ 7 from (by show L2.length + 1 ≤ 7; omega)); omega, o4104, by omega, (((hfr.tr fr97 (by decide)).up (by decide) _).tr fr104 (by decide)), ((hfa.tr fa97 (by decide)).tr fa104 (by decide)), Or.inl ⟨rfl, n2, n3⟩, hP, hD, hS, lv_sub hl [4, 0] rfl⟩
            · refine lv_istore_n (lv' := [(1, .int 0), (4, .int 0), (3, .int (Int32.ofNat ((L2.length + 1) + 1))), (2, .int (Int32.ofNat L2.length)), (0, .ref h0)]) hx hb d_Mo_read_186 rfl hl (by decide) rfl (fun ls hl => ?_)
              refine lv_goto (tgt := 22) hx hb d_Mo_read_187 (by decide) ?_
              exact ih (73 - P104) (by omega) H locs ls ⟨I103, A103, P104, a104, L104, nb, 0, rfl, o2104, o6104, o7104, o18104, by have := (show (((5, hd, mn, ow, cc, jm) :: L2)).length ≤ 7 from (by show L2.length + 1 ≤ 7; omega)); omega, o4104, by omega, (((hfr.tr fr97 (by decide)).up (by decide) _).tr fr104 (by decide)), ((hfa.tr fa97 (by decide)).tr fa104 (by decide)), Or.inr ⟨rfl, fun _ => n2⟩, hP, hD, hS, lv_sub hl [4, 0] rfl⟩
            · refine lv_istore_n (lv' := [(1, .int 0), (4, .int 0), (3, .int (Int32.ofNat ((L2.length + 1) + 1))), (2, .int (Int32.ofNat L2.length)), (0, .ref h0)]) hx hb d_Mo_read_186 rfl hl (by decide) rfl (fun ls hl => ?_)
              refine lv_goto (tgt := 22) hx hb d_Mo_read_187 (by decide) ?_
              exact ih (73 - P104) (by omega) H locs ls ⟨I103, A103, P104, a104, L104, nb, 0, rfl, o2104, o6104, o7104, o18104, by have := (show (((5, hd, mn, ow, cc, jm) :: L2)).length ≤ 7 from (by show L2.length + 1 ≤ 7; omega)); omega, o4104, by omega, (((hfr.tr fr97 (by decide)).up (by decide) _).tr fr104 (by decide)), ((hfa.tr fa97 (by decide)).tr fa104 (by decide)), Or.inr ⟨rfl, fun h9 => absurd h9 n1⟩, hP, hD, hS, lv_sub hl [4, 0] rfl⟩
          · have hag3 : m_ag A96 ((k97, a1, 0, m_co ((5, hd, mn, ow, cc, jm) :: L2), 0, fun _ => 0) :: ((5, hd, mn, ow, cc, jm) :: L2)) := ⟨by rw [j1197, upd_s], by rw [j1297, upd_s], by rw [j1397, upd_s], fun h9 => absurd h9 (by show ¬ k97 = 5; omega), fun _ k hk => absurd hk (Nat.not_lt_zero k), Nat.zero_le _, m_ag.same hagw (fun b hb => ⟨by rw [j1197, upd_n (by omega)], by rw [j1297, upd_n (by omega)], by rw [j1397, upd_n (by omega)]⟩) (fun j hj => by rw [fa97 14 (by decide)])⟩
            refine lv_istore (lv' := [(4, .int 1), (3, .int (Int32.ofNat ((L2.length + 1) + 1))), (2, .int (Int32.ofNat L2.length)), (0, .ref h0), (1, .int 1)]) hx hb d_Mo_read_158 hl (by decide) rfl (fun ls hl => ?_)
            refine lv_iload hx hb d_Mo_read_160 (lv_at hl 0 rfl) ?_
            refine lv_if_ge (tgt := 167) hx hb d_Mo_read_162 (by decide) (fun _ => ?_) (fun c105 => absurd (by decide) c105)
            refine lv_aload_n hx hb d_Mo_read_167 rfl (lv_at hl 3 rfl) ?_
            refine lv_dup hx hb d_Mo_read_168 rfl ?_
            refine m_g hx hb hts hown hK hP 8 (by decide) rfl (hts _ k_975) (v := .int (I96 8)) rfl d_Mo_read_169 ?_
            refine lv_iconst (v := 1) hx hb d_Mo_read_172 (by decide) ?_
            refine lv_iadd hx hb d_Mo_read_173 ?_
            refine m_p hx hb hts hown hK hP hD hS 8 (by decide) rfl (hts _ k_975) rfl (by decide +kernel) rfl (by decide) (x := ((I96 8) + 1)) d_Mo_read_174 (fun H locs hP hD hS => ?_)
            refine lv_iload hx hb d_Mo_read_177 (lv_at hl 0 rfl) ?_
            refine lv_if_ne (tgt := 187) hx hb d_Mo_read_179 (by decide) (fun _ => ?_) (fun c106 => absurd c106 (by decide))
            refine lv_goto (tgt := 22) hx hb d_Mo_read_187 (by decide) ?_
            exact ih (73 - P97) (by omega) H locs ls ⟨(upd I96 8 ((I96 8) + 1)), A96, P97, a97, ((k97, a1, 0, m_co ((5, hd, mn, ow, cc, jm) :: L2), 0, fun _ => 0) :: ((5, hd, mn, ow, cc, jm) :: L2)), nb, 1, rfl, j297, j697, j797, j1897, by show ((5, hd, mn, ow, cc, jm) :: L2).length + 1 ≤ 7; omega, j497, by omega, ((hfr.tr fr97 (by decide)).up (by decide) _), (hfa.tr fa97 (by decide)), Or.inl ⟨rfl, hag3, jst97⟩, hP, hD, hS, lv_sub hl [3, 4] rfl⟩
        · refine W.eq (g2 := F0 m 77 ls [.int 6, .int 6]) rfl ?_
          refine lv_icmp_ne (tgt := 90) hx hb d_Mo_read_77 (by decide) (fun c107 => absurd rfl c107) (fun _ => ?_)
          refine lv_aload_n hx hb d_Mo_read_80 rfl (lv_at hl 2 rfl) ?_
          refine lv_iload_n hx hb d_Mo_read_81 rfl (lv_at hl 0 rfl) ?_
          have hFc := m_free hD hS hA
          refine va_calli (va_runV (As := [.int (Int32.ofNat ((L2.length + 1) + 1))]) (rest := []) ⟨hx, hb, hml, hown, hts⟩ (m_guard l dC dI ar N0 z h0 ad I1 T A1 U P1 S a1 (L2.length + 1) mn hd (L2.length + 1 + 1) H.size i6 ((hfr 4 (by decide)).trans h4) (by omega) (by omega) (by omega) i7 (by omega) i18 (by omega) (by omega) g13 (by omega) g12 (by have := (hkd.2.2.2.2.2 rfl).1; omega) (by omega)) (cwV 1 hts (x_goodV k_1156 k_1158 kp_57 k_9 k_1159) rfl rfl rfl (by decide +kernel) ⟨Nat.le_of_ble_eq_true rfl, Nat.le_of_ble_eq_true rfl⟩) ⟨x_blind, va_recv hK hP (ci := 6) (q0 := 0) rfl rfl, fun U9 hU9 hW9 => x_pre hU9 hW9 hP hD hU hZ hS hAN hN0⟩ rfl rfl hl.1 rfl (lv_room (Nat.le_of_ble_eq_true rfl)) d_Mo_read_82 ⟨Nat.le_of_ble_eq_true rfl, Nat.le_of_ble_eq_true rfl⟩) hS (fun q _ h => hFc q h) hFc (fun r108 u t H1 locs ht hvm hw hB hz1 hk1 hS => ?_)
          obtain ⟨I110, T110, A110, U110⟩ := u
          dsimp only at hw hB
          rw [ht] at hB
          have hP : va_P (dC, dI) x_cl (m_W h0 ad ar I110 T110 A110 U110) H1 := hB
          have hD : va_D Bq (m_W h0 ad ar I110 T110 A110 U110) := m_D hD
          generalize H1 = H at hP hS ⊢
          refine W.widen (k := 0) (n := 0) (Nat.le_of_ble_eq_true rfl) (Nat.le_of_ble_eq_true rfl) ?_
          obtain ⟨P111, j6111, j1111, j2111, fr111, fa111, eT, eU, hres⟩ := hw
          cases eT
          cases eU
          rcases hres with rfl | ⟨rfl, j3111, jm4111, jdv111, q111, j7111, jl1111, jl2111, ja111, jt111, jo111, jb111, jc111, jd111⟩
          · refine lv_if_ne (tgt := 90) hx hb d_Mo_read_85 (by decide) (fun c112 => absurd rfl c112) (fun _ => ?_)
            refine lv_iconst (v := 0) hx hb d_Mo_read_88 (by decide) ?_
            refine W.widen (k := 0) (n := 0) (Nat.le_of_ble_eq_true rfl) (Nat.le_of_ble_eq_true rfl) ?_
            exact W.zret (v := 0) hx hb hr (rfl) (fun t ht hW => ⟨⟨0, (I110, T, A110, U), rfl, ⟨(hfr.tr fr111 (by decide)), (hfa.tr fa111 (by decide)), rfl, rfl, Or.inl rfl⟩, by dsimp only; rw [ht]; exact hP⟩, hS.F ht⟩) hS.2.2 d_Mo_read_89
          · obtain ⟨hs0, ecc⟩ := hst.1 (by simp)
            have ecc : cc = mn := ecc rfl
            subst ecc
            have hgs := hs0.guard jm4111 jt111 jo111 ja111 jb111 jc111 jd111
            have hat : (a1 : Int) ≤ 12 * P1 + (m_sg L2 + 9) := hat
            have hga : ((q111 + 1 : Nat) : Int) ≤ 12 * ((P111 : Nat) : Int) + m_sg ((6, hd, cc, ow, cc + 1, jm) :: L2) := by show ((q111 + 1 : Nat) : Int) ≤ 12 * ((P111 : Nat) : Int) + (m_sg L2 + 9); omega
            have hag2 : m_ag A110 ((6, hd, cc, ow, cc + 1, jm) :: L2) := ⟨by rw [fa111 11 (by decide)]; exact g11, by rw [fa111 12 (by decide)]; exact g12, by rw [fa111 13 (by decide)]; exact g13, fun h9 => absurd h9 (by simp), fun _ k hk => by rw [fa111 14 (by decide)]; exact g15 rfl k hk, g16, g17.same (fun b hb => ⟨by rw [fa111 11 (by decide)], by rw [fa111 12 (by decide)], by rw [fa111 13 (by decide)]⟩) (fun j hj => by rw [fa111 14 (by decide)])⟩
            refine lv_if_ne (tgt := 90) hx hb d_Mo_read_85 (by decide) (fun _ => ?_) (fun c113 => absurd c113 (by decide))
            refine lv_aload_n hx hb d_Mo_read_90 rfl (lv_at hl 2 rfl) ?_
            refine m_g hx hb hts hown hK hP 18 (by decide) rfl (hts _ k_985) (v := .int (Int32.ofNat (L2.length + 1))) (congrArg Value.int ((fr111 18 (by decide)).trans i18)) d_Mo_read_91 ?_
            refine lv_if_le (tgt := 153) hx hb d_Mo_read_94 (by decide) (fun c114 => absurd ((x_leN (a := L2.length + 1) (b := 0) (by omega) (by omega)).mp c114) (by omega)) (fun _ => ?_)
            refine lv_aload_n hx hb d_Mo_read_97 rfl (lv_at hl 2 rfl) ?_
            refine m_g hx hb hts hown hK hP 11 (by decide) rfl (hts _ k_978) (v := .ref (ad 11)) rfl d_Mo_read_98 ?_
            refine lv_iload_n hx hb d_Mo_read_101 rfl (lv_at hl 1 rfl) ?_
            refine m_ld hx hb hK hP 4 rfl (by decide) (j := (Int32.ofNat L2.length)) (x_inN (by omega) (by decide)) d_Mo_read_102 ?_
            refine W.eq (g2 := F0 m 103 ls [.int 6]) (by rw [x_nat (a := L2.length) (by omega), show A110 11 = A1 11 from fa111 11 (by decide), g11]; rfl) ?_
            refine lv_iconst (v := 2) hx hb d_Mo_read_103 (by decide) ?_
            refine lv_icmp_ne (tgt := 153) hx hb d_Mo_read_104 (by decide) (fun _ => ?_) (fun c115 => absurd c115 (by decide))
            refine lv_aload_n hx hb d_Mo_read_153 rfl (lv_at hl 2 rfl) ?_
            refine lv_iload_n hx hb d_Mo_read_154 rfl (lv_at hl 0 rfl) ?_
            have hFc := m_free hD hS hA
            refine va_calli (va_runV (As := [.int (Int32.ofNat ((L2.length + 1) + 1))]) (rest := []) ⟨hx, hb, hml, hown, hts⟩ (m_start l dC dI ar N0 z h0 ad I110 T A110 U P111 S ((q111 + 1)) (((L2.length + 1) + 1)) nb ((6, hd, cc, ow, cc + 1, jm) :: L2) H.size j6111 ((fr111 4 (by decide)).trans ((hfr 4 (by decide)).trans h4)) (by omega) (by omega) (by omega) j7111 ((fr111 18 (by decide)).trans i18) rfl (by show L2.length + 1 ≤ 7; omega) hga hgs) (cwV 1 hts (x_goodV k_1182 k_1184 kp_62 k_9 k_1185) rfl rfl rfl (by decide +kernel) ⟨Nat.le_of_ble_eq_true rfl, Nat.le_of_ble_eq_true rfl⟩) ⟨x_blind, va_recv hK hP (ci := 6) (q0 := 0) rfl rfl, fun U9 hU9 hW9 => x_pre hU9 hW9 hP hD hU hZ hS hAN hN0⟩ rfl rfl hl.1 rfl (lv_room (Nat.le_of_ble_eq_true rfl)) d_Mo_read_155 ⟨Nat.le_of_ble_eq_true rfl, Nat.le_of_ble_eq_true rfl⟩) hS (fun q _ h => hFc q h) hFc (fun r116 u t H1 locs ht hvm hw hB hz1 hk1 hS => ?_)
            obtain ⟨I118, T118, A118, U118⟩ := u
            dsimp only at hw hB
            rw [ht] at hB
            have hP : va_P (dC, dI) x_cl (m_W h0 ad ar I118 T118 A118 U118) H1 := hB
            have hD : va_D Bq (m_W h0 ad ar I118 T118 A118 U118) := m_D hD
            generalize H1 = H at hP hS ⊢
            refine W.widen (k := 0) (n := 0) (Nat.le_of_ble_eq_true rfl) (Nat.le_of_ble_eq_true rfl) ?_
            obtain ⟨P119, j6119, j1119, j2119, fr119, fa119, eT, eU, hres⟩ := hw
            cases eT
            cases eU
            rcases hres with rfl | ⟨rfl, j3119, a119, j7119, j4119, j18119, j11119, j12119, j13119, jst119⟩ | ⟨rfl, j3119, a119, k119, hk119, j7119, j4119, j18119, j5119, j11119, j12119, j13119, jst119⟩
            · refine lv_istore (lv' := [(4, .int (-1)), (3, .int (Int32.ofNat ((L2.length + 1) + 1))), (2, .int (Int32.ofNat L2.length)), (0, .ref h0), (1, .int 1)]) hx hb d_Mo_read_158 hl (by decide) rfl (fun ls hl => ?_)
              refine lv_iload hx hb d_Mo_read_160 (lv_at hl 0 rfl) ?_
              refine lv_if_ge (tgt := 167) hx hb d_Mo_read_162 (by decide) (fun c120 => absurd c120 (by decide)) (fun _ => ?_)
              refine lv_iconst (v := 0) hx hb d_Mo_read_165 (by decide) ?_
              refine W.widen (k := 0) (n := 0) (Nat.le_of_ble_eq_true rfl) (Nat.le_of_ble_eq_true rfl) ?_
              exact W.zret (v := 0) hx hb hr (rfl) (fun t ht hW => ⟨⟨0, (I118, T, A118, U), rfl, ⟨((hfr.tr fr111 (by decide)).tr fr119 (by decide)), ((hfa.tr fa111 (by decide)).tr fa119 (by decide)), rfl, rfl, Or.inl rfl⟩, by dsimp only; rw [ht]; exact hP⟩, hS.F ht⟩) hS.2.2 d_Mo_read_166
            · have hag3 : m_ag A118 ((6, hd, cc, ow, cc + 1, jm) :: L2) := m_ag.same hag2 (fun b hb => ⟨by rw [j11119], by rw [j12119], by rw [j13119]⟩) (fun j hj => by rw [fa119 14 (by decide)])
              refine lv_istore (lv' := [(4, .int 0), (3, .int (Int32.ofNat ((L2.length + 1) + 1))), (2, .int (Int32.ofNat L2.length)), (0, .ref h0), (1, .int 1)]) hx hb d_Mo_read_158 hl (by decide) rfl (fun ls hl => ?_)
              refine lv_iload hx hb d_Mo_read_160 (lv_at hl 0 rfl) ?_
              refine lv_if_ge (tgt := 167) hx hb d_Mo_read_162 (by decide) (fun _ => ?_) (fun c121 => absurd (by decide) c121)
              refine lv_aload_n hx hb d_Mo_read_167 rfl (lv_at hl 3 rfl) ?_
              refine lv_dup hx hb d_Mo_read_168 rfl ?_
              refine m_g hx hb hts hown hK hP 8 (by decide) rfl (hts _ k_975) (v := .int (I118 8)) rfl d_Mo_read_169 ?_
              refine lv_iconst (v := 1) hx hb d_Mo_read_172 (by decide) ?_
              refine lv_iadd hx hb d_Mo_read_173 ?_
              refine m_p hx hb hts hown hK hP hD hS 8 (by decide) rfl (hts _ k_975) rfl (by decide +kernel) rfl (by decide) (x := ((I118 8) + 1)) d_Mo_read_174 (fun H locs hP hD hS => ?_)
              refine lv_iload hx hb d_Mo_read_177 (lv_at hl 0 rfl) ?_
              refine lv_if_ne (tgt := 187) hx hb d_Mo_read_179 (by decide) (fun c122 => absurd rfl c122) (fun _ => ?_)
              refine lv_aload_n hx hb d_Mo_read_182 rfl (lv_at hl 3 rfl) ?_
              have hFc := m_free hD hS hA
              refine va_calli (va_runV (As := []) (rest := []) ⟨hx, hb, hml, hown, hts⟩ (m_goOn l dC dI ar N0 z h0 ad (upd I118 8 ((I118 8) + 1)) T A118 U P119 S a119 nb ((6, hd, cc, ow, cc + 1, jm) :: L2) H.size j6119 ((fr119 4 (by decide)).trans ((fr111 4 (by decide)).trans ((hfr 4 (by decide)).trans h4))) (by omega) (by omega) (by omega) j7119 j18119 (by show L2.length + 1 ≤ 7; omega) hag3 j4119 jst119) (cwV 0 hts (x_goodV k_1144 k_1146 kp_54 k_9 k_1147) rfl rfl rfl (by decide +kernel) ⟨Nat.le_of_ble_eq_true rfl, Nat.le_of_ble_eq_true rfl⟩) ⟨x_blind, va_recv hK hP (ci := 6) (q0 := 0) rfl rfl, fun U9 hU9 hW9 => x_pre hU9 hW9 hP hD hU hZ hS hAN hN0⟩ rfl rfl hl.1 rfl (lv_room (Nat.le_of_ble_eq_true rfl)) d_Mo_read_183 ⟨Nat.le_of_ble_eq_true rfl, Nat.le_of_ble_eq_true rfl⟩) hS (fun q _ h => hFc q h) hFc (fun r123 u t H1 locs ht hvm hw hB hz1 hk1 hS => ?_)
              obtain ⟨I125, T125, A125, U125⟩ := u
              dsimp only at hw hB
              rw [ht] at hB
              have hP : va_P (dC, dI) x_cl (m_W h0 ad ar I125 T125 A125 U125) H1 := hB
              have hD : va_D Bq (m_W h0 ad ar I125 T125 A125 U125) := m_D hD
              generalize H1 = H at hP hS ⊢
              refine W.widen (k := 0) (n := 0) (Nat.le_of_ble_eq_true rfl) (Nat.le_of_ble_eq_true rfl) ?_
              obtain ⟨P126, a126, L126, o6126, o1126, o2126, fr126, fa126, eT, eU, o7126, o18126, o3126, o4126, hres⟩ := hw
              cases eT
              cases eU
              rcases hres with ⟨rfl, n1, n2, n3⟩ | ⟨rfl, n1, n2⟩ | ⟨rfl, n1⟩
              · refine lv_istore_n (lv' := [(1, .int 1), (4, .int 0), (3, .int (Int32.ofNat ((L2.length + 1) + 1))), (2, .int (Int32.ofNat L2.length)), (0, .ref h0)]) hx hb d_Mo_read_186 rfl hl (by decide) rfl (fun ls hl => ?_)
                refine lv_goto (tgt := 22) hx hb d_Mo_read_187 (by decide) ?_
                exact ih (73 - P126) (by omega) H locs ls ⟨I125, A125, P126, a126, L126, nb, 1, rfl, o2126, o6126, o7126, o18126, by have := (show (((6, hd, cc, ow, cc + 1, jm) :: L2)).length ≤ 7 from (by show L2.length + 1 ≤ 7; omega)); omega, o4126, by omega, ((((hfr.tr fr111 (by decide)).tr fr119 (by decide)).up (by decide) _).tr fr126 (by decide)), (((hfa.tr fa111 (by decide)).tr fa119 (by decide)).tr fa126 (by decide)), Or.inl ⟨rfl, n2, n3⟩, hP, hD, hS, lv_sub hl [4, 0] rfl⟩
              · refine lv_istore_n (lv' := [(1, .int 0), (4, .int 0), (3, .int (Int32.ofNat ((L2.length + 1) + 1))), (2, .int (Int32.ofNat L2.length)), (0, .ref h0)]) hx hb d_Mo_read_186 rfl hl (by decide) rfl (fun ls hl => ?_)
                refine lv_goto (tgt := 22) hx hb d_Mo_read_187 (by decide) ?_
                exact ih (73 - P126) (by omega) H locs ls ⟨I125, A125, P126, a126, L126, nb, 0, rfl, o2126, o6126, o7126, o18126, by have := (show (((6, hd, cc, ow, cc + 1, jm) :: L2)).length ≤ 7 from (by show L2.length + 1 ≤ 7; omega)); omega, o4126, by omega, ((((hfr.tr fr111 (by decide)).tr fr119 (by decide)).up (by decide) _).tr fr126 (by decide)), (((hfa.tr fa111 (by decide)).tr fa119 (by decide)).tr fa126 (by decide)), Or.inr ⟨rfl, fun _ => n2⟩, hP, hD, hS, lv_sub hl [4, 0] rfl⟩
              · refine lv_istore_n (lv' := [(1, .int 0), (4, .int 0), (3, .int (Int32.ofNat ((L2.length + 1) + 1))), (2, .int (Int32.ofNat L2.length)), (0, .ref h0)]) hx hb d_Mo_read_186 rfl hl (by decide) rfl (fun ls hl => ?_)
                refine lv_goto (tgt := 22) hx hb d_Mo_read_187 (by decide) ?_
                exact ih (73 - P126) (by omega) H locs ls ⟨I125, A125, P126, a126, L126, nb, 0, rfl, o2126, o6126, o7126, o18126, by have := (show (((6, hd, cc, ow, cc + 1, jm) :: L2)).length ≤ 7 from (by show L2.length + 1 ≤ 7; omega)); omega, o4126, by omega, ((((hfr.tr fr111 (by decide)).tr fr119 (by decide)).up (by decide) _).tr fr126 (by decide)), (((hfa.tr fa111 (by decide)).tr fa119 (by decide)).tr fa126 (by decide)), Or.inr ⟨rfl, fun h9 => absurd h9 n1⟩, hP, hD, hS, lv_sub hl [4, 0] rfl⟩
            · have hag3 : m_ag A118 ((k119, (q111 + 1), 0, m_co ((6, hd, cc, ow, cc + 1, jm) :: L2), 0, fun _ => 0) :: ((6, hd, cc, ow, cc + 1, jm) :: L2)) := ⟨by rw [j11119, upd_s], by rw [j12119, upd_s], by rw [j13119, upd_s], fun h9 => absurd h9 (by show ¬ k119 = 5; omega), fun _ k hk => absurd hk (Nat.not_lt_zero k), Nat.zero_le _, m_ag.same hag2 (fun b hb => ⟨by rw [j11119, upd_n (by omega)], by rw [j12119, upd_n (by omega)], by rw [j13119, upd_n (by omega)]⟩) (fun j hj => by rw [fa119 14 (by decide)])⟩
              refine lv_istore (lv' := [(4, .int 1), (3, .int (Int32.ofNat ((L2.length + 1) + 1))), (2, .int (Int32.ofNat L2.length)), (0, .ref h0), (1, .int 1)]) hx hb d_Mo_read_158 hl (by decide) rfl (fun ls hl => ?_)
              refine lv_iload hx hb d_Mo_read_160 (lv_at hl 0 rfl) ?_
              refine lv_if_ge (tgt := 167) hx hb d_Mo_read_162 (by decide) (fun _ => ?_) (fun c127 => absurd (by decide) c127)
              refine lv_aload_n hx hb d_Mo_read_167 rfl (lv_at hl 3 rfl) ?_
              refine lv_dup hx hb d_Mo_read_168 rfl ?_
              refine m_g hx hb hts hown hK hP 8 (by decide) rfl (hts _ k_975) (v := .int (I118 8)) rfl d_Mo_read_169 ?_
              refine lv_iconst (v := 1) hx hb d_Mo_read_172 (by decide) ?_
              refine lv_iadd hx hb d_Mo_read_173 ?_
              refine m_p hx hb hts hown hK hP hD hS 8 (by decide) rfl (hts _ k_975) rfl (by decide +kernel) rfl (by decide) (x := ((I118 8) + 1)) d_Mo_read_174 (fun H locs hP hD hS => ?_)
              refine lv_iload hx hb d_Mo_read_177 (lv_at hl 0 rfl) ?_
              refine lv_if_ne (tgt := 187) hx hb d_Mo_read_179 (by decide) (fun _ => ?_) (fun c128 => absurd c128 (by decide))
              refine lv_goto (tgt := 22) hx hb d_Mo_read_187 (by decide) ?_
              exact ih (73 - P119) (by omega) H locs ls ⟨(upd I118 8 ((I118 8) + 1)), A118, P119, a119, ((k119, (q111 + 1), 0, m_co ((6, hd, cc, ow, cc + 1, jm) :: L2), 0, fun _ => 0) :: ((6, hd, cc, ow, cc + 1, jm) :: L2)), nb, 1, rfl, j2119, j6119, j7119, j18119, by show ((6, hd, cc, ow, cc + 1, jm) :: L2).length + 1 ≤ 7; omega, j4119, by omega, (((hfr.tr fr111 (by decide)).tr fr119 (by decide)).up (by decide) _), ((hfa.tr fa111 (by decide)).tr fa119 (by decide)), Or.inl ⟨rfl, hag3, jst119⟩, hP, hD, hS, lv_sub hl [3, 4] rfl⟩
      · cases e1
        cases e2
        cases e3
        have hP : va_P (dC, dI) x_cl (m_W h0 ad ar (upd (upd I1 6 (Int32.ofNat (P1 + 1))) 18 (Int32.ofNat L2.length)) T A22 U) H := hP
        have hD : va_D Bq (m_W h0 ad ar (upd (upd I1 6 (Int32.ofNat (P1 + 1))) 18 (Int32.ofNat L2.length)) T A22 U) := hD
        have hag2 : m_ag A22 L2 := g17.same (fun b hb => ⟨by rw [fa23 11 (by decide)], by rw [fa23 12 (by decide)], by rw [fa23 13 (by decide)]⟩) (fun j hj => by rw [fa23 14 (by decide)])
        have hcl : m_S1 (A22 2) L2 a1 nb ∧ (a1 : Int) + 3 ≤ 12 * ((P1 + 1 : Nat) : Int) + m_sg L2 := by
          rcases hk9 with ⟨rfl, ek⟩ | ⟨rfl, ek⟩ | ⟨rfl, ek1, ek2⟩
          · have hat : (a1 : Int) ≤ 12 * P1 + (m_sg L2 + 9) := hat
            exact ⟨by rw [ek]; exact (hst.2 (by simp)).pop1, by omega⟩
          · have hat : (a1 : Int) ≤ 12 * P1 + (m_sg L2 + 9) := hat
            exact ⟨by rw [ek]; exact (hst.1 (by simp)).1.pop2, by omega⟩
          · have hat : (a1 : Int) ≤ 12 * P1 + (m_sg L2 + 9) := hat
            obtain ⟨hs0, ecc⟩ := hst.1 (by simp)
            have ecc : cc = mn := ecc rfl
            subst ecc
            exact ⟨hs0.pop6 ek1 ek2, by omega⟩
        refine lv_if_eq (tgt := 48) hx hb d_Mo_read_37 (by decide) (fun c129 => absurd c129 (by decide)) (fun _ => ?_)
        refine lv_aload_n hx hb d_Mo_read_40 rfl (lv_at hl 0 rfl) ?_
        have hFc := m_free hD hS hA
        refine va_calli (va_runV (As := []) (rest := []) ⟨hx, hb, hml, hown, hts⟩ (m_goOn l dC dI ar N0 z h0 ad (upd (upd I1 6 (Int32.ofNat (P1 + 1))) 18 (Int32.ofNat L2.length)) T A22 U ((P1 + 1)) S a1 nb L2 H.size rfl ((hfr 4 (by decide)).trans h4) (by omega) (by omega) (by omega) i7 rfl (by omega) hag2 hcl.2 hcl.1) (cwV 0 hts (x_goodV k_1144 k_1146 kp_54 k_9 k_1147) rfl rfl rfl (by decide +kernel) ⟨Nat.le_of_ble_eq_true rfl, Nat.le_of_ble_eq_true rfl⟩) ⟨x_blind, va_recv hK hP (ci := 6) (q0 := 0) rfl rfl, fun U9 hU9 hW9 => x_pre hU9 hW9 hP hD hU hZ hS hAN hN0⟩ rfl rfl hl.1 rfl (lv_room (Nat.le_of_ble_eq_true rfl)) d_Mo_read_41 ⟨Nat.le_of_ble_eq_true rfl, Nat.le_of_ble_eq_true rfl⟩) hS (fun q _ h => hFc q h) hFc (fun r130 u t H1 locs ht hvm hw hB hz1 hk1 hS => ?_)
        obtain ⟨I132, T132, A132, U132⟩ := u
        dsimp only at hw hB
        rw [ht] at hB
        have hP : va_P (dC, dI) x_cl (m_W h0 ad ar I132 T132 A132 U132) H1 := hB
        have hD : va_D Bq (m_W h0 ad ar I132 T132 A132 U132) := m_D hD
        generalize H1 = H at hP hS ⊢
        refine W.widen (k := 0) (n := 0) (Nat.le_of_ble_eq_true rfl) (Nat.le_of_ble_eq_true rfl) ?_
        obtain ⟨P133, a133, L133, o6133, o1133, o2133, fr133, fa133, eT, eU, o7133, o18133, o3133, o4133, hres⟩ := hw
        cases eT
        cases eU
        rcases hres with ⟨rfl, n1, n2, n3⟩ | ⟨rfl, n1, n2⟩ | ⟨rfl, n1⟩
        · refine lv_istore_n (lv' := [(1, .int 1), (0, .ref h0)]) hx hb d_Mo_read_44 rfl hl (by decide) rfl (fun ls hl => ?_)
          refine lv_goto (tgt := 22) hx hb d_Mo_read_45 (by decide) ?_
          exact ih (73 - P133) (by omega) H locs ls ⟨I132, A132, P133, a133, L133, nb, 1, rfl, o2133, o6133, o7133, o18133, by have := (show (L2).length ≤ 7 from (by omega)); omega, o4133, by omega, (((hfr.up (by decide) _).up (by decide) _).tr fr133 (by decide)), ((hfa.tr fa23 (by decide)).tr fa133 (by decide)), Or.inl ⟨rfl, n2, n3⟩, hP, hD, hS, lv_sub hl [1, 0] rfl⟩
        · refine lv_istore_n (lv' := [(1, .int 0), (0, .ref h0)]) hx hb d_Mo_read_44 rfl hl (by decide) rfl (fun ls hl => ?_)
          refine lv_goto (tgt := 22) hx hb d_Mo_read_45 (by decide) ?_
          exact ih (73 - P133) (by omega) H locs ls ⟨I132, A132, P133, a133, L133, nb, 0, rfl, o2133, o6133, o7133, o18133, by have := (show (L2).length ≤ 7 from (by omega)); omega, o4133, by omega, (((hfr.up (by decide) _).up (by decide) _).tr fr133 (by decide)), ((hfa.tr fa23 (by decide)).tr fa133 (by decide)), Or.inr ⟨rfl, fun _ => n2⟩, hP, hD, hS, lv_sub hl [1, 0] rfl⟩
        · refine lv_istore_n (lv' := [(1, .int 0), (0, .ref h0)]) hx hb d_Mo_read_44 rfl hl (by decide) rfl (fun ls hl => ?_)
          refine lv_goto (tgt := 22) hx hb d_Mo_read_45 (by decide) ?_
          exact ih (73 - P133) (by omega) H locs ls ⟨I132, A132, P133, a133, L133, nb, 0, rfl, o2133, o6133, o7133, o18133, by have := (show (L2).length ≤ 7 from (by omega)); omega, o4133, by omega, (((hfr.up (by decide) _).up (by decide) _).tr fr133 (by decide)), ((hfa.tr fa23 (by decide)).tr fa133 (by decide)), Or.inr ⟨rfl, fun h9 => absurd h9 n1⟩, hP, hD, hS, lv_sub hl [1, 0] rfl⟩
  · have hl : lv_has ls 5 [(0, .ref h0), (1, .int 0)] := hl
    refine lv_iload_n hx hb d_Mo_read_22 rfl (lv_at hl 1 rfl) ?_
    refine lv_if_eq (tgt := 190) hx hb d_Mo_read_23 (by decide) (fun _ => ?_) (fun c134 => absurd (by decide) c134)
    have ha9 : a1 ≤ 940 := by omega
    refine lv_aload_n hx hb d_Mo_read_190 rfl (lv_at hl 0 rfl) ?_
    refine lv_bipush (v := 12) hx hb d_Mo_read_191 (by decide) ?_
    have hFc := m_free hD hS hA
    refine va_callv (va_runV (As := [.int 12]) (rest := []) ⟨hx, hb, hml, hown, hts⟩ (m_emit l dC dI ar N0 z h0 ad I1 T A1 U a1 (12) H.size i7 (by omega)) (cwV 1 hts (x_goodV k_1148 k_1150 kp_55 k_9 k_1151) rfl rfl rfl (by decide +kernel) ⟨Nat.le_of_ble_eq_true rfl, Nat.le_of_ble_eq_true rfl⟩) ⟨x_blind, va_recv hK hP (ci := 6) (q0 := 0) rfl rfl, fun U9 hU9 hW9 => x_pre hU9 hW9 hP hD hU hZ hS hAN hN0⟩ rfl rfl hl.1 rfl (lv_room (Nat.le_of_ble_eq_true rfl)) d_Mo_read_193 ⟨Nat.le_of_ble_eq_true rfl, Nat.le_of_ble_eq_true rfl⟩) hS (fun q _ h => hFc q h) hFc (fun u t H1 locs ht hvm hw hB hz1 hk1 hS => ?_)
    obtain ⟨I136, T136, A136, U136⟩ := u
    dsimp only at hw hB
    rw [ht] at hB
    have hP : va_P (dC, dI) x_cl (m_W h0 ad ar I136 T136 A136 U136) H1 := hB
    have hD : va_D Bq (m_W h0 ad ar I136 T136 A136 U136) := m_D hD
    generalize H1 = H at hP hS ⊢
    refine W.widen (k := 0) (n := 0) (Nat.le_of_ble_eq_true rfl) (Nat.le_of_ble_eq_true rfl) ?_
    cases hw
    refine lv_aload_n hx hb d_Mo_read_196 rfl (lv_at hl 0 rfl) ?_
    refine m_g hx hb hts hown hK hP 18 (by decide) rfl (hts _ k_985) (v := .int (Int32.ofNat L1.length)) (congrArg Value.int i18) d_Mo_read_197 ?_
    refine lv_if_ne (tgt := 218) hx hb d_Mo_read_200 (by decide) (fun c137 => ?_) (fun c137 => ?_)
    · have c137 : ¬ L1.length = 0 := fun h9 => c137 ((x_eqN (a := L1.length) (b := 0) (by omega) (by omega)).mpr h9)
      refine lv_iconst (v := 0) hx hb d_Mo_read_218 (by decide) ?_
      refine W.widen (k := 0) (n := 0) (Nat.le_of_ble_eq_true rfl) (Nat.le_of_ble_eq_true rfl) ?_
      exact W.zret (v := 0) hx hb hr (rfl) (fun t ht hW => ⟨⟨0, ((upd I1 7 (Int32.ofNat (a1 + 1))), T, (m_up A1 2 (upd (A1 2) a1 12)), U), rfl, ⟨(hfr.up (by decide) _), (hfa.up (by decide) _), rfl, rfl, Or.inl rfl⟩, by dsimp only; rw [ht]; exact hP⟩, hS.F ht⟩) hS.2.2 d_Mo_read_219
    · have c137 : L1.length = 0 := (x_eqN (a := L1.length) (b := 0) (by omega) (by omega)).mp c137
      refine lv_aload_n hx hb d_Mo_read_203 rfl (lv_at hl 0 rfl) ?_
      refine m_g hx hb hts hown hK hP 6 (by decide) rfl (hts _ k_973) (v := .int (Int32.ofNat P1)) (congrArg Value.int i6) d_Mo_read_204 ?_
      refine lv_aload_n hx hb d_Mo_read_207 rfl (lv_at hl 0 rfl) ?_
      refine m_g hx hb hts hown hK hP 4 (by decide) rfl (hts _ k_971) (v := .int (Int32.ofNat S)) (congrArg Value.int ((hfr 4 (by decide)).trans h4)) d_Mo_read_208 ?_
      refine lv_icmp_ne (tgt := 218) hx hb d_Mo_read_211 (by decide) (fun c138 => ?_) (fun c138 => ?_)
      · have c138 : ¬ P1 = S := fun h9 => c138 ((x_eqN (a := P1) (b := S) (by omega) (by omega)).mpr h9)
        refine lv_iconst (v := 0) hx hb d_Mo_read_218 (by decide) ?_
        refine W.widen (k := 0) (n := 0) (Nat.le_of_ble_eq_true rfl) (Nat.le_of_ble_eq_true rfl) ?_
        exact W.zret (v := 0) hx hb hr (rfl) (fun t ht hW => ⟨⟨0, ((upd I1 7 (Int32.ofNat (a1 + 1))), T, (m_up A1 2 (upd (A1 2) a1 12)), U), rfl, ⟨(hfr.up (by decide) _), (hfa.up (by decide) _), rfl, rfl, Or.inl rfl⟩, by dsimp only; rw [ht]; exact hP⟩, hS.F ht⟩) hS.2.2 d_Mo_read_219
      · have c138 : P1 = S := (x_eqN (a := P1) (b := S) (by omega) (by omega)).mp c138
        refine lv_iconst (v := 1) hx hb d_Mo_read_214 (by decide) ?_
        refine lv_goto (tgt := 219) hx hb d_Mo_read_215 (by decide) ?_
        refine W.widen (k := 0) (n := 0) (Nat.le_of_ble_eq_true rfl) (Nat.le_of_ble_eq_true rfl) ?_
        exact W.zret (v := 1) hx hb hr (rfl) (fun t ht hW => ⟨⟨1, ((upd I1 7 (Int32.ofNat (a1 + 1))), T, (m_up A1 2 (upd (A1 2) a1 12)), U), rfl, ⟨(hfr.up (by decide) _), (hfa.up (by decide) _), rfl, rfl, Or.inr ⟨rfl, a1 + 1, rfl, by omega, (hst (List.eq_nil_of_length_eq_zero c137)).fin (by dsimp only; rw [m_up_s, upd_s]) (fun j hj => by dsimp only; rw [m_up_s, upd_n (by omega)]) (by omega)⟩⟩, by dsimp only; rw [ht]; exact hP⟩, hS.F ht⟩) hS.2.2 d_Mo_read_219
