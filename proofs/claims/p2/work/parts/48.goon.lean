-- ===== 48.goon: goOn of the reference, by program =====
theorem d_Mo_goOn_0 : decode prog_12_method_21_code 0 = .ok (.aload_n 0, 1) := by decide +kernel
theorem d_Mo_goOn_1 : decode prog_12_method_21_code 1 = .ok (.getfield 159, 3) := by decide +kernel
theorem d_Mo_goOn_4 : decode prog_12_method_21_code 4 = .ok (.ifCond .le 230, 3) := by decide +kernel
theorem d_Mo_goOn_7 : decode prog_12_method_21_code 7 = .ok (.aload_n 0, 1) := by decide +kernel
theorem d_Mo_goOn_8 : decode prog_12_method_21_code 8 = .ok (.getfield 159, 3) := by decide +kernel
theorem d_Mo_goOn_11 : decode prog_12_method_21_code 11 = .ok (.iconst 1, 1) := by decide +kernel
theorem d_Mo_goOn_12 : decode prog_12_method_21_code 12 = .ok (.isub, 1) := by decide +kernel
theorem d_Mo_goOn_13 : decode prog_12_method_21_code 13 = .ok (.istore_n 1, 1) := by decide +kernel
theorem d_Mo_goOn_14 : decode prog_12_method_21_code 14 = .ok (.aload_n 0, 1) := by decide +kernel
theorem d_Mo_goOn_15 : decode prog_12_method_21_code 15 = .ok (.getfield 29, 3) := by decide +kernel
theorem d_Mo_goOn_18 : decode prog_12_method_21_code 18 = .ok (.iload_n 1, 1) := by decide +kernel
theorem d_Mo_goOn_19 : decode prog_12_method_21_code 19 = .ok (.iaload, 1) := by decide +kernel
theorem d_Mo_goOn_20 : decode prog_12_method_21_code 20 = .ok (.istore_n 2, 1) := by decide +kernel
theorem d_Mo_goOn_21 : decode prog_12_method_21_code 21 = .ok (.aload_n 0, 1) := by decide +kernel
theorem d_Mo_goOn_22 : decode prog_12_method_21_code 22 = .ok (.getfield 26, 3) := by decide +kernel
theorem d_Mo_goOn_25 : decode prog_12_method_21_code 25 = .ok (.iload_n 1, 1) := by decide +kernel
theorem d_Mo_goOn_26 : decode prog_12_method_21_code 26 = .ok (.iaload, 1) := by decide +kernel
theorem d_Mo_goOn_27 : decode prog_12_method_21_code 27 = .ok (.tableswitch 164 1 5 #[33, 35, 43, 81, 134], 33) := by decide +kernel
theorem d_Mo_goOn_60 : decode prog_12_method_21_code 60 = .ok (.iconst 1, 1) := by decide +kernel
theorem d_Mo_goOn_61 : decode prog_12_method_21_code 61 = .ok (.ireturn, 1) := by decide +kernel
theorem d_Mo_goOn_62 : decode prog_12_method_21_code 62 = .ok (.aload_n 0, 1) := by decide +kernel
theorem d_Mo_goOn_63 : decode prog_12_method_21_code 63 = .ok (.bipush 12, 2) := by decide +kernel
theorem d_Mo_goOn_65 : decode prog_12_method_21_code 65 = .ok (.invokevirtual 131, 3) := by decide +kernel
theorem d_Mo_goOn_68 : decode prog_12_method_21_code 68 = .ok (.iconst 1, 1) := by decide +kernel
theorem d_Mo_goOn_69 : decode prog_12_method_21_code 69 = .ok (.ireturn, 1) := by decide +kernel
theorem d_Mo_goOn_70 : decode prog_12_method_21_code 70 = .ok (.aload_n 0, 1) := by decide +kernel
theorem d_Mo_goOn_71 : decode prog_12_method_21_code 71 = .ok (.bipush 11, 2) := by decide +kernel
theorem d_Mo_goOn_73 : decode prog_12_method_21_code 73 = .ok (.invokevirtual 131, 3) := by decide +kernel
theorem d_Mo_goOn_76 : decode prog_12_method_21_code 76 = .ok (.aload_n 0, 1) := by decide +kernel
theorem d_Mo_goOn_77 : decode prog_12_method_21_code 77 = .ok (.bipush 10, 2) := by decide +kernel
theorem d_Mo_goOn_79 : decode prog_12_method_21_code 79 = .ok (.iload_n 2, 1) := by decide +kernel
theorem d_Mo_goOn_80 : decode prog_12_method_21_code 80 = .ok (.invokevirtual 138, 3) := by decide +kernel
theorem d_Mo_goOn_83 : decode prog_12_method_21_code 83 = .ok (.aload_n 0, 1) := by decide +kernel
theorem d_Mo_goOn_84 : decode prog_12_method_21_code 84 = .ok (.getfield 16, 3) := by decide +kernel
theorem d_Mo_goOn_87 : decode prog_12_method_21_code 87 = .ok (.iload_n 2, 1) := by decide +kernel
theorem d_Mo_goOn_88 : decode prog_12_method_21_code 88 = .ok (.iconst 1, 1) := by decide +kernel
theorem d_Mo_goOn_89 : decode prog_12_method_21_code 89 = .ok (.iadd, 1) := by decide +kernel
theorem d_Mo_goOn_90 : decode prog_12_method_21_code 90 = .ok (.aload_n 0, 1) := by decide +kernel
theorem d_Mo_goOn_91 : decode prog_12_method_21_code 91 = .ok (.getfield 128, 3) := by decide +kernel
theorem d_Mo_goOn_94 : decode prog_12_method_21_code 94 = .ok (.iastore, 1) := by decide +kernel
theorem d_Mo_goOn_95 : decode prog_12_method_21_code 95 = .ok (.aload_n 0, 1) := by decide +kernel
theorem d_Mo_goOn_96 : decode prog_12_method_21_code 96 = .ok (.dup, 1) := by decide +kernel
theorem d_Mo_goOn_97 : decode prog_12_method_21_code 97 = .ok (.getfield 159, 3) := by decide +kernel
theorem d_Mo_goOn_100 : decode prog_12_method_21_code 100 = .ok (.iconst 1, 1) := by decide +kernel
theorem d_Mo_goOn_101 : decode prog_12_method_21_code 101 = .ok (.isub, 1) := by decide +kernel
theorem d_Mo_goOn_102 : decode prog_12_method_21_code 102 = .ok (.putfield 159, 3) := by decide +kernel
theorem d_Mo_goOn_105 : decode prog_12_method_21_code 105 = .ok (.goto 126, 3) := by decide +kernel
theorem d_Mo_goOn_108 : decode prog_12_method_21_code 108 = .ok (.aload_n 0, 1) := by decide +kernel
theorem d_Mo_goOn_109 : decode prog_12_method_21_code 109 = .ok (.bipush 44, 2) := by decide +kernel
theorem d_Mo_goOn_111 : decode prog_12_method_21_code 111 = .ok (.invokevirtual 155, 3) := by decide +kernel
theorem d_Mo_goOn_114 : decode prog_12_method_21_code 114 = .ok (.ifCond .ne 5, 3) := by decide +kernel
theorem d_Mo_goOn_117 : decode prog_12_method_21_code 117 = .ok (.iconst 0, 1) := by decide +kernel
theorem d_Mo_goOn_118 : decode prog_12_method_21_code 118 = .ok (.ireturn, 1) := by decide +kernel
theorem d_Mo_goOn_119 : decode prog_12_method_21_code 119 = .ok (.aload_n 0, 1) := by decide +kernel
theorem d_Mo_goOn_120 : decode prog_12_method_21_code 120 = .ok (.bipush 10, 2) := by decide +kernel
theorem d_Mo_goOn_122 : decode prog_12_method_21_code 122 = .ok (.iconst 0, 1) := by decide +kernel
theorem d_Mo_goOn_123 : decode prog_12_method_21_code 123 = .ok (.invokevirtual 138, 3) := by decide +kernel
theorem d_Mo_goOn_126 : decode prog_12_method_21_code 126 = .ok (.aload_n 0, 1) := by decide +kernel
theorem d_Mo_goOn_127 : decode prog_12_method_21_code 127 = .ok (.getfield 16, 3) := by decide +kernel
theorem d_Mo_goOn_130 : decode prog_12_method_21_code 130 = .ok (.iload_n 2, 1) := by decide +kernel
theorem d_Mo_goOn_131 : decode prog_12_method_21_code 131 = .ok (.iconst 1, 1) := by decide +kernel
theorem d_Mo_goOn_132 : decode prog_12_method_21_code 132 = .ok (.iadd, 1) := by decide +kernel
theorem d_Mo_goOn_133 : decode prog_12_method_21_code 133 = .ok (.aload_n 0, 1) := by decide +kernel
theorem d_Mo_goOn_134 : decode prog_12_method_21_code 134 = .ok (.getfield 128, 3) := by decide +kernel
theorem d_Mo_goOn_137 : decode prog_12_method_21_code 137 = .ok (.iastore, 1) := by decide +kernel
theorem d_Mo_goOn_138 : decode prog_12_method_21_code 138 = .ok (.aload_n 0, 1) := by decide +kernel
theorem d_Mo_goOn_139 : decode prog_12_method_21_code 139 = .ok (.getfield 35, 3) := by decide +kernel
theorem d_Mo_goOn_142 : decode prog_12_method_21_code 142 = .ok (.iload_n 1, 1) := by decide +kernel
theorem d_Mo_goOn_143 : decode prog_12_method_21_code 143 = .ok (.iconst 4, 1) := by decide +kernel
theorem d_Mo_goOn_144 : decode prog_12_method_21_code 144 = .ok (.imul, 1) := by decide +kernel
theorem d_Mo_goOn_145 : decode prog_12_method_21_code 145 = .ok (.aload_n 0, 1) := by decide +kernel
theorem d_Mo_goOn_146 : decode prog_12_method_21_code 146 = .ok (.getfield 128, 3) := by decide +kernel
theorem d_Mo_goOn_149 : decode prog_12_method_21_code 149 = .ok (.iconst 1, 1) := by decide +kernel
theorem d_Mo_goOn_150 : decode prog_12_method_21_code 150 = .ok (.isub, 1) := by decide +kernel
theorem d_Mo_goOn_151 : decode prog_12_method_21_code 151 = .ok (.iastore, 1) := by decide +kernel
theorem d_Mo_goOn_152 : decode prog_12_method_21_code 152 = .ok (.aload_n 0, 1) := by decide +kernel
theorem d_Mo_goOn_153 : decode prog_12_method_21_code 153 = .ok (.getfield 26, 3) := by decide +kernel
theorem d_Mo_goOn_156 : decode prog_12_method_21_code 156 = .ok (.iload_n 1, 1) := by decide +kernel
theorem d_Mo_goOn_157 : decode prog_12_method_21_code 157 = .ok (.iconst 5, 1) := by decide +kernel
theorem d_Mo_goOn_158 : decode prog_12_method_21_code 158 = .ok (.iastore, 1) := by decide +kernel
theorem d_Mo_goOn_159 : decode prog_12_method_21_code 159 = .ok (.iconst 1, 1) := by decide +kernel
theorem d_Mo_goOn_160 : decode prog_12_method_21_code 160 = .ok (.ireturn, 1) := by decide +kernel
theorem d_Mo_goOn_161 : decode prog_12_method_21_code 161 = .ok (.aload_n 0, 1) := by decide +kernel
theorem d_Mo_goOn_162 : decode prog_12_method_21_code 162 = .ok (.getfield 16, 3) := by decide +kernel
theorem d_Mo_goOn_165 : decode prog_12_method_21_code 165 = .ok (.aload_n 0, 1) := by decide +kernel
theorem d_Mo_goOn_166 : decode prog_12_method_21_code 166 = .ok (.getfield 35, 3) := by decide +kernel
theorem d_Mo_goOn_169 : decode prog_12_method_21_code 169 = .ok (.iload_n 1, 1) := by decide +kernel
theorem d_Mo_goOn_170 : decode prog_12_method_21_code 170 = .ok (.iconst 4, 1) := by decide +kernel
theorem d_Mo_goOn_171 : decode prog_12_method_21_code 171 = .ok (.imul, 1) := by decide +kernel
theorem d_Mo_goOn_172 : decode prog_12_method_21_code 172 = .ok (.iaload, 1) := by decide +kernel
theorem d_Mo_goOn_173 : decode prog_12_method_21_code 173 = .ok (.aload_n 0, 1) := by decide +kernel
theorem d_Mo_goOn_174 : decode prog_12_method_21_code 174 = .ok (.getfield 128, 3) := by decide +kernel
theorem d_Mo_goOn_177 : decode prog_12_method_21_code 177 = .ok (.iastore, 1) := by decide +kernel
theorem d_Mo_goOn_178 : decode prog_12_method_21_code 178 = .ok (.aload_n 0, 1) := by decide +kernel
theorem d_Mo_goOn_179 : decode prog_12_method_21_code 179 = .ok (.dup, 1) := by decide +kernel
theorem d_Mo_goOn_180 : decode prog_12_method_21_code 180 = .ok (.getfield 159, 3) := by decide +kernel
theorem d_Mo_goOn_183 : decode prog_12_method_21_code 183 = .ok (.iconst 1, 1) := by decide +kernel
theorem d_Mo_goOn_184 : decode prog_12_method_21_code 184 = .ok (.isub, 1) := by decide +kernel
theorem d_Mo_goOn_185 : decode prog_12_method_21_code 185 = .ok (.putfield 159, 3) := by decide +kernel
theorem d_Mo_goOn_188 : decode prog_12_method_21_code 188 = .ok (.goto 43, 3) := by decide +kernel
theorem d_Mo_goOn_191 : decode prog_12_method_21_code 191 = .ok (.aload_n 0, 1) := by decide +kernel
theorem d_Mo_goOn_192 : decode prog_12_method_21_code 192 = .ok (.bipush 10, 2) := by decide +kernel
theorem d_Mo_goOn_194 : decode prog_12_method_21_code 194 = .ok (.iconst 0, 1) := by decide +kernel
theorem d_Mo_goOn_195 : decode prog_12_method_21_code 195 = .ok (.invokevirtual 138, 3) := by decide +kernel
theorem d_Mo_goOn_198 : decode prog_12_method_21_code 198 = .ok (.aload_n 0, 1) := by decide +kernel
theorem d_Mo_goOn_199 : decode prog_12_method_21_code 199 = .ok (.getfield 35, 3) := by decide +kernel
theorem d_Mo_goOn_202 : decode prog_12_method_21_code 202 = .ok (.iload_n 1, 1) := by decide +kernel
theorem d_Mo_goOn_203 : decode prog_12_method_21_code 203 = .ok (.iconst 4, 1) := by decide +kernel
theorem d_Mo_goOn_204 : decode prog_12_method_21_code 204 = .ok (.imul, 1) := by decide +kernel
theorem d_Mo_goOn_205 : decode prog_12_method_21_code 205 = .ok (.aload_n 0, 1) := by decide +kernel
theorem d_Mo_goOn_206 : decode prog_12_method_21_code 206 = .ok (.getfield 32, 3) := by decide +kernel
theorem d_Mo_goOn_209 : decode prog_12_method_21_code 209 = .ok (.iload_n 1, 1) := by decide +kernel
theorem d_Mo_goOn_210 : decode prog_12_method_21_code 210 = .ok (.iaload, 1) := by decide +kernel
theorem d_Mo_goOn_211 : decode prog_12_method_21_code 211 = .ok (.iadd, 1) := by decide +kernel
theorem d_Mo_goOn_212 : decode prog_12_method_21_code 212 = .ok (.aload_n 0, 1) := by decide +kernel
theorem d_Mo_goOn_213 : decode prog_12_method_21_code 213 = .ok (.getfield 128, 3) := by decide +kernel
theorem d_Mo_goOn_216 : decode prog_12_method_21_code 216 = .ok (.iconst 1, 1) := by decide +kernel
theorem d_Mo_goOn_217 : decode prog_12_method_21_code 217 = .ok (.isub, 1) := by decide +kernel
theorem d_Mo_goOn_218 : decode prog_12_method_21_code 218 = .ok (.iastore, 1) := by decide +kernel
theorem d_Mo_goOn_219 : decode prog_12_method_21_code 219 = .ok (.aload_n 0, 1) := by decide +kernel
theorem d_Mo_goOn_220 : decode prog_12_method_21_code 220 = .ok (.getfield 32, 3) := by decide +kernel
theorem d_Mo_goOn_223 : decode prog_12_method_21_code 223 = .ok (.iload_n 1, 1) := by decide +kernel
theorem d_Mo_goOn_224 : decode prog_12_method_21_code 224 = .ok (.dup2, 1) := by decide +kernel
theorem d_Mo_goOn_225 : decode prog_12_method_21_code 225 = .ok (.iaload, 1) := by decide +kernel
theorem d_Mo_goOn_226 : decode prog_12_method_21_code 226 = .ok (.iconst 1, 1) := by decide +kernel
theorem d_Mo_goOn_227 : decode prog_12_method_21_code 227 = .ok (.iadd, 1) := by decide +kernel
theorem d_Mo_goOn_228 : decode prog_12_method_21_code 228 = .ok (.iastore, 1) := by decide +kernel
theorem d_Mo_goOn_229 : decode prog_12_method_21_code 229 = .ok (.iconst 1, 1) := by decide +kernel
theorem d_Mo_goOn_230 : decode prog_12_method_21_code 230 = .ok (.ireturn, 1) := by decide +kernel
theorem d_Mo_goOn_231 : decode prog_12_method_21_code 231 = .ok (.goto (-231), 3) := by decide +kernel
theorem d_Mo_goOn_234 : decode prog_12_method_21_code 234 = .ok (.iconst 0, 1) := by decide +kernel
theorem d_Mo_goOn_235 : decode prog_12_method_21_code 235 = .ok (.ireturn, 1) := by decide +kernel
section GO
variable {f : Nat → Int32} {a1 nb k hd mn ow c : Nat} {jm : Nat → Nat} {L : List m_Lv}
theorem m_S1.kd (h : m_S1 f ((k, hd, mn, ow, c, jm) :: L) a1 nb) : 1 ≤ k ∧ k ≤ 6 ∧ mn ≤ 4 ∧ (k ≠ 1 → hd < a1) ∧ ((k = 3 ∨ k = 4) → hd + 1 < a1) := by
  obtain ⟨V, own, pown, bl, role, Hl, hv, h, hV1, hco, hnb, hi1⟩ := h
  obtain ⟨⟨⟨l1, l2, l3, l4⟩, l5, l6, l7, l8, l9⟩, ho, hi, hL0⟩ := h.2.2.2.2
  refine ⟨l1, l2, l3, fun h9 => ?_, fun h9 => (l5 (hd + 1) (Or.inr (Or.inl ⟨h9, rfl⟩))).2.2.2⟩
  rcases l6 with l6 | l6
  · exact absurd l6 h9
  · exact l6.2.2.2
theorem m_S0.kd (h : m_S0 f ((k, hd, mn, ow, c, jm) :: L) a1 nb) : 1 ≤ k ∧ k ≤ 6 ∧ mn ≤ 4 ∧ (k = 2 → hd + 7 ≤ a1) ∧ (k = 6 → hd + 18 ≤ a1 ∧ ∀ i, i < mn → jm i < a1) := by
  obtain ⟨V, own, pown, bl, role, Hl, hv, h, hV1, hnb⟩ := h
  obtain ⟨⟨⟨l1, l2, l3, l4⟩, l5, l6, l7, l8, l9⟩, ho, hi, hL0⟩ := h.2.2.2.2
  exact ⟨l1, l2, l3, fun h9 => (l8 h9).2.1, fun h9 => ⟨(l9 h9).2.1, fun i hi => (l5 (jm i) (Or.inr (Or.inr (Or.inr ⟨h9, i, hi, rfl⟩)))).2.2.2⟩⟩
end GO
set_option maxHeartbeats 4000000 in
set_option maxRecDepth 100000 in
theorem m_goOn (l : Launch) (dC : Nat → ClassId) (dI : Nat → Nat → Nat) (ar : Nat → ClassId) (N0 : Nat) (z : Nat → Nat) (h0 : Nat) (ad : Nat → Nat) (I : Nat → Int32) (T : Int64) (A : Nat → Nat → Int32) (U : Nat → Int64) (P S a0 nb : Nat) (L : List m_Lv) (sz : Nat) (h6 : I 6 = Int32.ofNat P) (h4 : I 4 = Int32.ofNat S) (hP9 : P ≤ 72) (hS9 : S ≤ 72) (hPS : P ≤ S) (h7 : I 7 = Int32.ofNat a0) (h18 : I 18 = Int32.ofNat L.length) (hL : L.length ≤ 7) (hag : m_ag A L) (hat : (a0 : Int) + 3 ≤ 12 * P + m_sg L) (hst : m_S1 (A 2) L a0 nb) : Met l ({ cls := "ChannelMachineModel", name := "goOn", desc := "()Z" } : Jvm.MethodName) ((Jvm.Cond.code ({ cls := "ChannelMachineModel", name := "goOn", desc := "()Z" } : Jvm.MethodName) prog_12_method_21_code (3 : Nat) (Option.some Jvm.ClassFile.FieldType.boolean)) :: x_T) ({ frames := 2, cells := 0, slots := 0, locals := 43 }) (x_Pc (dC, dI) ar N0 z (m_W h0 ad ar I T A U) sz [.ref h0]) (va_Qi (fun (r : Int32) (u : (Nat → Int32) × Int64 × (Nat → Nat → Int32) × (Nat → Int64)) => ∃ (P1 a1 : Nat) (L1 : List m_Lv), u.1 6 = Int32.ofNat P1 ∧ P ≤ P1 ∧ P1 ≤ S ∧ m_fr [6, 7, 18] I u.1 ∧ m_fa [2, 11, 13, 14] A u.2.2.1 ∧ u.2.1 = T ∧ u.2.2.2 = U ∧ u.1 7 = Int32.ofNat a1 ∧ u.1 18 = Int32.ofNat L1.length ∧ L1.length ≤ L.length ∧ (a1 : Int) ≤ 12 * P1 + m_sg L1 ∧ ((r = 1 ∧ L1 ≠ [] ∧ m_ag u.2.2.1 L1 ∧ m_Tp (u.2.2.1 2) L1 a1 nb) ∨ (r = 0 ∧ L1 = [] ∧ m_S1 (u.2.2.1 2) [] a1 nb) ∨ (r = 0 ∧ L1 ≠ []))) (fun u t => va_P (dC, dI) x_cl (m_W h0 ad ar u.1 u.2.1 u.2.2.1 u.2.2.2) t.heap) (va_A (m_W h0 ad ar I T A U) sz)) 0 0 (va_A (m_W h0 ad ar I T A U) sz) := by
  refine Met.ofW (cc := prog_12_method_21_code) (maxL := 3) (ret := (some .boolean)) (by decide) rfl ?_
  intro p e s m args below meth c s₁ B hml hv
  obtain ⟨rfl, hsz, hN0, hP, hU, hZ, hD0⟩ := hv
  have hK := hU.1
  have hx := B.exec
  have hb := B.bytes
  have hr := B.returns
  have hts : ∀ w ∈ x_T, w.before ([.ref h0] : List Value).toArray s = true := fun w h => atoms_spec (ws := (Jvm.Cond.code ({ cls := "ChannelMachineModel", name := "goOn", desc := "()Z" } : Jvm.MethodName) prog_12_method_21_code (3 : Nat) (Option.some Jvm.ClassFile.FieldType.boolean)) :: x_T) B.pre w (List.mem_cons_of_mem _ h)
  have hown : s.vm.findClass "ChannelMachineModel" = some m.cls := findClass_of_methodNamed B.named
  have hlocks := B.notSynchronized
  subst hsz
  have hD := hD0.self (sz := s.heap.size)
  have hAN := x_AN hD0 hN0
  generalize hAe : va_A (m_W h0 ad ar I T A U) s.heap.size = Bq at hD hAN ⊢
  have hA : ∀ q : Nat, s.heap.size ≤ q → Bq q := fun q h => by rw [← hAe]; exact Or.inr h
  have hS : va_S Bq s.heap s.heap [] := va_S.rf
  have hl := lv_entry ([.ref h0]) (n := 3) (Nat.le_of_ble_eq_true rfl)
  rw [lg_entry_eq]
  generalize (lg_sl ([.ref h0]) ++ List.replicate (3 - (lg_sl ([.ref h0])).length) Slot.unset).toArray = ls at hl ⊢
  have hl : lv_has ls 3 [(0, .ref h0)] := hl
  refine x_while (fun n H locs ls => ∃ (I1 : Nat → Int32) (A1 : Nat → Nat → Int32) (L1 : List m_Lv) (a1 : Nat), n = L1.length ∧ L1.length ≤ L.length ∧ I1 7 = Int32.ofNat a1 ∧ I1 18 = Int32.ofNat L1.length ∧ m_fr [7, 18] I I1 ∧ m_fa [2] A A1 ∧ m_ag A1 L1 ∧ (a1 : Int) + 3 ≤ 12 * P + m_sg L1 ∧ m_S1 (A1 2) L1 a1 nb ∧ va_P (dC, dI) x_cl (m_W h0 ad ar I1 T A1 U) H ∧ va_D Bq (m_W h0 ad ar I1 T A1 U) ∧ va_S Bq s.heap H locs ∧ lv_has ls 3 [(0, .ref h0)]) (fun n ih H locs ls h9 => ?_) ⟨I, A, L, a0, rfl, Nat.le_refl _, h7, h18, m_fr.rf, m_fa.rf, hag, hat, hst, hP, hD, hS, hl⟩
  obtain ⟨I1, A1, L1, a1, hn9, q1, i7, i18, hfr, hfa, hag, hat, hst, hP, hD, hS, hl⟩ := h9
  rcases L1 with _ | ⟨⟨kd, hd, mn, ow, cc, jm⟩, L2⟩
  · refine lv_aload_n hx hb d_Mo_goOn_0 rfl (lv_at hl 0 rfl) ?_
    refine m_g hx hb hts hown hK hP 18 (by decide) rfl (hts _ k_985) (v := .int 0) (congrArg Value.int i18) d_Mo_goOn_1 ?_
    refine lv_if_le (tgt := 234) hx hb d_Mo_goOn_4 (by decide) (fun _ => ?_) (fun c1 => absurd (by decide) c1)
    refine lv_iconst (v := 0) hx hb d_Mo_goOn_234 (by decide) ?_
    refine W.widen (k := 0) (n := 0) (Nat.le_of_ble_eq_true rfl) (Nat.le_of_ble_eq_true rfl) ?_
    exact W.zret (v := 0) hx hb hr (rfl) (fun t ht hW => ⟨⟨0, (I1, T, A1, U), rfl, ⟨P, a1, [], ((hfr 6 (by decide)).trans h6), by omega, by omega, (m_fr.rf.tr hfr (by decide)), (m_fa.rf.tr hfa (by decide)), rfl, rfl, i7, i18, Nat.zero_le _, by have hat : (a1 : Int) + 3 ≤ 12 * P + 0 := hat; show (a1 : Int) ≤ 12 * P + 0; omega, Or.inr (Or.inl ⟨rfl, rfl, hst⟩)⟩, by dsimp only; rw [ht]; exact hP⟩, hS.F ht⟩) hS.2.2 d_Mo_goOn_235
  · have i18 : I1 18 = Int32.ofNat (L2.length + 1) := i18
    have q1 : L2.length + 1 ≤ L.length := q1
    obtain ⟨g11, g12, g13, g14, g15, g16, g17⟩ := hag
    have hkd := hst.kd
    have hsg := m_sg_le L2
    refine lv_aload_n hx hb d_Mo_goOn_0 rfl (lv_at hl 0 rfl) ?_
    refine m_g hx hb hts hown hK hP 18 (by decide) rfl (hts _ k_985) (v := .int (Int32.ofNat (L2.length + 1))) (congrArg Value.int i18) d_Mo_goOn_1 ?_
    refine lv_if_le (tgt := 234) hx hb d_Mo_goOn_4 (by decide) (fun c2 => ?_) (fun c2 => ?_)
    · have c2 : (L2.length + 1) ≤ 0 := (x_leN (a := (L2.length + 1)) (b := 0) (by omega) (by omega)).mp c2
      exact absurd c2 (by omega)
    · have c2 : ¬ (L2.length + 1) ≤ 0 := fun h9 => c2 ((x_leN (a := (L2.length + 1)) (b := 0) (by omega) (by omega)).mpr h9)
      refine lv_aload_n hx hb d_Mo_goOn_7 rfl (lv_at hl 0 rfl) ?_
      refine m_g hx hb hts hown hK hP 18 (by decide) rfl (hts _ k_985) (v := .int (Int32.ofNat (L2.length + 1))) (congrArg Value.int i18) d_Mo_goOn_8 ?_
      refine lv_iconst (v := 1) hx hb d_Mo_goOn_11 (by decide) ?_
      refine lv_isub hx hb d_Mo_goOn_12 ?_
      refine W.eq (g2 := F0 m 13 ls [.int (Int32.ofNat L2.length)]) (by rw [show (Int32.ofNat (L2.length + 1) - 1 : Int32) = Int32.ofNat L2.length from x_subN (a := L2.length + 1) (b := 1) (by omega)]) ?_
      refine lv_istore_n (lv' := [(1, .int (Int32.ofNat L2.length)), (0, .ref h0)]) hx hb d_Mo_goOn_13 rfl hl (by decide) rfl (fun ls hl => ?_)
      refine lv_aload_n hx hb d_Mo_goOn_14 rfl (lv_at hl 1 rfl) ?_
      refine m_g hx hb hts hown hK hP 12 (by decide) rfl (hts _ k_979) (v := .ref (ad 12)) rfl d_Mo_goOn_15 ?_
      refine lv_iload_n hx hb d_Mo_goOn_18 rfl (lv_at hl 0 rfl) ?_
      refine m_ld hx hb hK hP 5 rfl (by decide) (j := (Int32.ofNat L2.length)) (x_inN (by omega) (by decide)) d_Mo_goOn_19 ?_
      refine W.eq (g2 := F0 m 20 ls [.int (Int32.ofNat hd)]) (by rw [x_nat (a := L2.length) (by omega), g12]) ?_
      refine lv_istore_n (lv' := [(2, .int (Int32.ofNat hd)), (1, .int (Int32.ofNat L2.length)), (0, .ref h0)]) hx hb d_Mo_goOn_20 rfl hl (by decide) rfl (fun ls hl => ?_)
      refine lv_aload_n hx hb d_Mo_goOn_21 rfl (lv_at hl 2 rfl) ?_
      refine m_g hx hb hts hown hK hP 11 (by decide) rfl (hts _ k_978) (v := .ref (ad 11)) rfl d_Mo_goOn_22 ?_
      refine lv_iload_n hx hb d_Mo_goOn_25 rfl (lv_at hl 1 rfl) ?_
      refine m_ld hx hb hK hP 4 rfl (by decide) (j := (Int32.ofNat L2.length)) (x_inN (by omega) (by decide)) d_Mo_goOn_26 ?_
      refine W.eq (g2 := F0 m 27 ls [.int (Int32.ofNat kd)]) (by rw [x_nat (a := L2.length) (by omega), g11]) ?_
      rcases (show kd = 1 ∨ kd = 2 ∨ kd = 3 ∨ kd = 4 ∨ kd = 5 ∨ kd = 6 by omega) with rfl | rfl | rfl | rfl | rfl | rfl
      · have hat : (a1 : Int) + 3 ≤ 12 * P + (m_sg L2 + 9) := hat
        have hkh := hkd.2.2.2.2
        have hkg := hkd.2.2.2.1
        have hkm := hkd.2.2.1
        refine lv_tableIn (tgt := 60) hx hb d_Mo_goOn_27 (by decide) (by decide) (off := 33) rfl (by decide) ?_
        refine lv_iconst (v := 1) hx hb d_Mo_goOn_60 (by decide) ?_
        refine W.widen (k := 0) (n := 0) (Nat.le_of_ble_eq_true rfl) (Nat.le_of_ble_eq_true rfl) ?_
        exact W.zret (v := 1) hx hb hr (rfl) (fun t ht hW => ⟨⟨1, (I1, T, A1, U), rfl, ⟨P, a1, ((1, hd, mn, ow, cc, jm) :: L2), ((hfr 6 (by decide)).trans h6), by omega, by omega, (m_fr.rf.tr hfr (by decide)), (m_fa.rf.tr hfa (by decide)), rfl, rfl, i7, i18, by show L2.length + 1 ≤ L.length; omega, by show ((a1 : Nat) : Int) ≤ 12 * ((P : Nat) : Int) + (m_sg L2 + 9); omega, Or.inl ⟨rfl, List.cons_ne_nil _ _, ⟨g11, g12, g13, g14, g15, g16, g17⟩, fun h9 => absurd h9 (by simp), fun _ => hst⟩⟩, by dsimp only; rw [ht]; exact hP⟩, hS.F ht⟩) hS.2.2 d_Mo_goOn_61
      · have hat : (a1 : Int) + 3 ≤ 12 * P + (m_sg L2 + 9) := hat
        have hkh := hkd.2.2.2.2
        have hkg := hkd.2.2.2.1
        have hkm := hkd.2.2.1
        refine lv_tableIn (tgt := 62) hx hb d_Mo_goOn_27 (by decide) (by decide) (off := 35) rfl (by decide) ?_
        refine lv_aload_n hx hb d_Mo_goOn_62 rfl (lv_at hl 2 rfl) ?_
        refine lv_bipush (v := 12) hx hb d_Mo_goOn_63 (by decide) ?_
        have hFc := m_free hD hS hA
        refine va_callv (va_runV (As := [.int 12]) (rest := []) ⟨hx, hb, hml, hown, hts⟩ (m_emit l dC dI ar N0 z h0 ad I1 T A1 U a1 (12) H.size i7 (by omega)) (cwV 1 hts (x_goodV k_1148 k_1150 kp_55 k_9 k_1151) rfl rfl rfl (by decide +kernel) ⟨Nat.le_of_ble_eq_true rfl, Nat.le_of_ble_eq_true rfl⟩) ⟨x_blind, va_recv hK hP (ci := 6) (q0 := 0) rfl rfl, fun U9 hU9 hW9 => x_pre hU9 hW9 hP hD hU hZ hS hAN hN0⟩ rfl rfl hl.1 rfl (lv_room (Nat.le_of_ble_eq_true rfl)) d_Mo_goOn_65 ⟨Nat.le_of_ble_eq_true rfl, Nat.le_of_ble_eq_true rfl⟩) hS (fun q _ h => hFc q h) hFc (fun u t H1 locs ht hvm hw hB hz1 hk1 hS => ?_)
        obtain ⟨I4, T4, A4, U4⟩ := u
        dsimp only at hw hB
        rw [ht] at hB
        have hP : va_P (dC, dI) x_cl (m_W h0 ad ar I4 T4 A4 U4) H1 := hB
        have hD : va_D Bq (m_W h0 ad ar I4 T4 A4 U4) := m_D hD
        generalize H1 = H at hP hS ⊢
        refine W.widen (k := 0) (n := 0) (Nat.le_of_ble_eq_true rfl) (Nat.le_of_ble_eq_true rfl) ?_
        cases hw
        refine lv_iconst (v := 1) hx hb d_Mo_goOn_68 (by decide) ?_
        refine W.widen (k := 0) (n := 0) (Nat.le_of_ble_eq_true rfl) (Nat.le_of_ble_eq_true rfl) ?_
        exact W.zret (v := 1) hx hb hr (rfl) (fun t ht hW => ⟨⟨1, ((upd I1 7 (Int32.ofNat (a1 + 1))), T, (m_up A1 2 (upd (A1 2) a1 12)), U), rfl, ⟨P, a1 + 1, ((2, hd, mn, ow, cc, jm) :: L2), ((hfr 6 (by decide)).trans h6), by omega, by omega, ((m_fr.rf.tr hfr (by decide)).up (by decide) _), ((m_fa.rf.tr hfa (by decide)).up (by decide) _), rfl, rfl, rfl, i18, by show L2.length + 1 ≤ L.length; omega, by show ((a1 + 1 : Nat) : Int) ≤ 12 * ((P : Nat) : Int) + (m_sg L2 + 9); omega, Or.inl ⟨rfl, List.cons_ne_nil _ _, ⟨g11, g12, g13, g14, g15, g16, g17.same (fun b hb => ⟨rfl, rfl, rfl⟩) (fun j hj => rfl)⟩, fun _ => ⟨hst.go2 (by dsimp only; rw [m_up_s, upd_s]) (fun j hj => by dsimp only; rw [m_up_s, upd_n (by omega)]), fun h9 => absurd h9 (by simp)⟩, fun h9 => absurd (by simp) h9⟩⟩, by dsimp only; rw [ht]; exact hP⟩, hS.F ht⟩) hS.2.2 d_Mo_goOn_69
      · have hat : (a1 : Int) + 3 ≤ 12 * P + (m_sg L2 + -3) := hat
        have hkh := hkd.2.2.2.2
        have hkg := hkd.2.2.2.1
        have hkm := hkd.2.2.1
        have hh1 : hd + 1 < a1 := hkh (by simp)
        refine lv_tableIn (tgt := 70) hx hb d_Mo_goOn_27 (by decide) (by decide) (off := 43) rfl (by decide) ?_
        refine lv_aload_n hx hb d_Mo_goOn_70 rfl (lv_at hl 2 rfl) ?_
        refine lv_bipush (v := 11) hx hb d_Mo_goOn_71 (by decide) ?_
        have hFc := m_free hD hS hA
        refine va_callv (va_runV (As := [.int 11]) (rest := []) ⟨hx, hb, hml, hown, hts⟩ (m_emit l dC dI ar N0 z h0 ad I1 T A1 U a1 (11) H.size i7 (by omega)) (cwV 1 hts (x_goodV k_1148 k_1150 kp_55 k_9 k_1151) rfl rfl rfl (by decide +kernel) ⟨Nat.le_of_ble_eq_true rfl, Nat.le_of_ble_eq_true rfl⟩) ⟨x_blind, va_recv hK hP (ci := 6) (q0 := 0) rfl rfl, fun U9 hU9 hW9 => x_pre hU9 hW9 hP hD hU hZ hS hAN hN0⟩ rfl rfl hl.1 rfl (lv_room (Nat.le_of_ble_eq_true rfl)) d_Mo_goOn_73 ⟨Nat.le_of_ble_eq_true rfl, Nat.le_of_ble_eq_true rfl⟩) hS (fun q _ h => hFc q h) hFc (fun u t H1 locs ht hvm hw hB hz1 hk1 hS => ?_)
        obtain ⟨I6, T6, A6, U6⟩ := u
        dsimp only at hw hB
        rw [ht] at hB
        have hP : va_P (dC, dI) x_cl (m_W h0 ad ar I6 T6 A6 U6) H1 := hB
        have hD : va_D Bq (m_W h0 ad ar I6 T6 A6 U6) := m_D hD
        generalize H1 = H at hP hS ⊢
        refine W.widen (k := 0) (n := 0) (Nat.le_of_ble_eq_true rfl) (Nat.le_of_ble_eq_true rfl) ?_
        cases hw
        refine lv_aload_n hx hb d_Mo_goOn_76 rfl (lv_at hl 2 rfl) ?_
        refine lv_bipush (v := 10) hx hb d_Mo_goOn_77 (by decide) ?_
        refine lv_iload_n hx hb d_Mo_goOn_79 rfl (lv_at hl 0 rfl) ?_
        have hFc := m_free hD hS hA
        refine va_callv (va_runV (As := [.int 10, .int (Int32.ofNat hd)]) (rest := []) ⟨hx, hb, hml, hown, hts⟩ (m_emit2 l dC dI ar N0 z h0 ad (upd I1 7 (Int32.ofNat (a1 + 1))) T (m_up A1 2 (upd (A1 2) a1 11)) U ((a1 + 1)) (10) ((Int32.ofNat hd)) H.size rfl (by omega)) (cwV 2 hts (x_goodV k_1152 k_1154 kp_56 k_9 k_1155) rfl rfl rfl (by decide +kernel) ⟨Nat.le_of_ble_eq_true rfl, Nat.le_of_ble_eq_true rfl⟩) ⟨x_blind, va_recv hK hP (ci := 6) (q0 := 0) rfl rfl, fun U9 hU9 hW9 => x_pre hU9 hW9 hP hD hU hZ hS hAN hN0⟩ rfl rfl hl.1 rfl (lv_room (Nat.le_of_ble_eq_true rfl)) d_Mo_goOn_80 ⟨Nat.le_of_ble_eq_true rfl, Nat.le_of_ble_eq_true rfl⟩) hS (fun q _ h => hFc q h) hFc (fun u t H1 locs ht hvm hw hB hz1 hk1 hS => ?_)
        obtain ⟨I8, T8, A8, U8⟩ := u
        dsimp only at hw hB
        rw [ht] at hB
        have hP : va_P (dC, dI) x_cl (m_W h0 ad ar I8 T8 A8 U8) H1 := hB
        have hD : va_D Bq (m_W h0 ad ar I8 T8 A8 U8) := m_D hD
        generalize H1 = H at hP hS ⊢
        refine W.widen (k := 0) (n := 0) (Nat.le_of_ble_eq_true rfl) (Nat.le_of_ble_eq_true rfl) ?_
        cases hw
        rw [m_up_up, m_up_s] at hP hD
        have hP : va_P (dC, dI) x_cl (m_W h0 ad ar (upd (upd I1 7 (Int32.ofNat (a1 + 1))) 7 (Int32.ofNat (((a1 + 1)) + 2))) T (m_up A1 2 (upd (upd (upd (A1 2) a1 11) ((a1 + 1)) 10) (((a1 + 1)) + 1) (Int32.ofNat hd))) U) H := hP
        have hD : va_D Bq (m_W h0 ad ar (upd (upd I1 7 (Int32.ofNat (a1 + 1))) 7 (Int32.ofNat (((a1 + 1)) + 2))) T (m_up A1 2 (upd (upd (upd (A1 2) a1 11) ((a1 + 1)) 10) (((a1 + 1)) + 1) (Int32.ofNat hd))) U) := hD
        refine lv_aload_n hx hb d_Mo_goOn_83 rfl (lv_at hl 2 rfl) ?_
        refine m_g hx hb hts hown hK hP 2 (by decide) rfl (hts _ k_969) (v := .ref (ad 2)) rfl d_Mo_goOn_84 ?_
        refine lv_iload_n hx hb d_Mo_goOn_87 rfl (lv_at hl 0 rfl) ?_
        refine lv_iconst (v := 1) hx hb d_Mo_goOn_88 (by decide) ?_
        refine lv_iadd hx hb d_Mo_goOn_89 ?_
        refine W.eq (g2 := F0 m 90 ls [.int (Int32.ofNat (hd + 1)), .ref (ad 2)]) (by rw [← x_addN (a := hd) (b := 1)] <;> rfl) ?_
        refine lv_aload_n hx hb d_Mo_goOn_90 rfl (lv_at hl 2 rfl) ?_
        refine m_g hx hb hts hown hK hP 7 (by decide) rfl (hts _ k_974) (v := .int (Int32.ofNat (((a1 + 1)) + 2))) rfl d_Mo_goOn_91 ?_
        refine m_st hx hb hK hP hD hS 2 rfl (by decide) (j := (Int32.ofNat (hd + 1))) (x := (Int32.ofNat (((a1 + 1)) + 2))) (x_inN (by omega) (by decide)) d_Mo_goOn_94 (fun H locs hP hD hS => ?_)
        rw [x_nat (a := (hd + 1)) (by omega), m_up_up, m_up_s] at hP hD
        refine lv_aload_n hx hb d_Mo_goOn_95 rfl (lv_at hl 2 rfl) ?_
        refine lv_dup hx hb d_Mo_goOn_96 rfl ?_
        refine m_g hx hb hts hown hK hP 18 (by decide) rfl (hts _ k_985) (v := .int (Int32.ofNat (L2.length + 1))) (congrArg Value.int i18) d_Mo_goOn_97 ?_
        refine lv_iconst (v := 1) hx hb d_Mo_goOn_100 (by decide) ?_
        refine lv_isub hx hb d_Mo_goOn_101 ?_
        refine W.eq (g2 := F0 m 102 ls [.int (Int32.ofNat L2.length), .ref h0]) (by rw [show (Int32.ofNat (L2.length + 1) - 1 : Int32) = Int32.ofNat L2.length from x_subN (a := L2.length + 1) (b := 1) (by omega)]) ?_
        refine m_p hx hb hts hown hK hP hD hS 18 (by decide) rfl (hts _ k_985) rfl (by decide +kernel) rfl (by decide) (x := (Int32.ofNat L2.length)) d_Mo_goOn_102 (fun H locs hP hD hS => ?_)
        refine lv_goto (tgt := 231) hx hb d_Mo_goOn_105 (by decide) ?_
        refine lv_goto (tgt := 0) hx hb d_Mo_goOn_231 (by decide) ?_
        exact ih L2.length (by rw [hn9]; exact Nat.lt_succ_self _) H locs ls ⟨(upd (upd (upd I1 7 (Int32.ofNat (a1 + 1))) 7 (Int32.ofNat (((a1 + 1)) + 2))) 18 (Int32.ofNat L2.length)), (m_up A1 2 (upd (upd (upd (upd (A1 2) a1 11) ((a1 + 1)) 10) (((a1 + 1)) + 1) (Int32.ofNat hd)) ((hd + 1)) (Int32.ofNat (((a1 + 1)) + 2)))), L2, a1 + 3, rfl, by omega, rfl, rfl, (((hfr.up (by decide) _).up (by decide) _).up (by decide) _), (hfa.up (by decide) _), g17.same (fun b hb => ⟨rfl, rfl, rfl⟩) (fun j hj => rfl), by omega, hst.go3 (by rw [m_up_s, upd_n (by omega), upd_n (by omega), upd_n (by omega), upd_s]) (by rw [m_up_s, upd_n (by omega), upd_n (by omega), upd_s]) (by rw [m_up_s, upd_n (by omega), upd_s]) (by rw [m_up_s, upd_s]) (fun j h1 h2 => by rw [m_up_s, upd_n (by omega), upd_n (by omega), upd_n (by omega), upd_n (by omega)]), hP, hD, hS, lv_sub hl [2] rfl⟩
      · have hat : (a1 : Int) + 3 ≤ 12 * P + (m_sg L2 + -3) := hat
        have hkh := hkd.2.2.2.2
        have hkg := hkd.2.2.2.1
        have hkm := hkd.2.2.1
        have hh1 : hd + 1 < a1 := hkh (by simp)
        refine lv_tableIn (tgt := 108) hx hb d_Mo_goOn_27 (by decide) (by decide) (off := 81) rfl (by decide) ?_
        refine lv_aload_n hx hb d_Mo_goOn_108 rfl (lv_at hl 2 rfl) ?_
        refine lv_bipush (v := 44) hx hb d_Mo_goOn_109 (by decide) ?_
        have hFc := m_free hD hS hA
        refine va_calli (va_runV (As := [.int 44]) (rest := []) ⟨hx, hb, hml, hown, hts⟩ (m_passes l dC dI ar N0 z h0 ad I1 T A1 U P S (44) H.size ((hfr 6 (by decide)).trans h6) ((hfr 4 (by decide)).trans h4) (by omega) (by omega)) (cwV 1 hts (x_goodV k_1136 k_1138 kp_52 k_9 k_1139) rfl rfl rfl (by decide +kernel) ⟨Nat.le_of_ble_eq_true rfl, Nat.le_of_ble_eq_true rfl⟩) ⟨x_blind, va_recv hK hP (ci := 6) (q0 := 0) rfl rfl, fun U9 hU9 hW9 => x_pre hU9 hW9 hP hD hU hZ hS hAN hN0⟩ rfl rfl hl.1 rfl (lv_room (Nat.le_of_ble_eq_true rfl)) d_Mo_goOn_111 ⟨Nat.le_of_ble_eq_true rfl, Nat.le_of_ble_eq_true rfl⟩) hS (fun q _ h => hFc q h) hFc (fun r9 u t H1 locs ht hvm hw hB hz1 hk1 hS => ?_)
        obtain ⟨I11, T11, A11, U11⟩ := u
        dsimp only at hw hB
        rw [ht] at hB
        have hP : va_P (dC, dI) x_cl (m_W h0 ad ar I11 T11 A11 U11) H1 := hB
        have hD : va_D Bq (m_W h0 ad ar I11 T11 A11 U11) := m_D hD
        generalize H1 = H at hP hS ⊢
        refine W.widen (k := 0) (n := 0) (Nat.le_of_ble_eq_true rfl) (Nat.le_of_ble_eq_true rfl) ?_
        rcases hw with ⟨p12, rfl, h9⟩ | ⟨p12, rfl, h9⟩
        · cases h9
          have hpp12 : P < S := m_lk0 (by rw [p12]; decide)
          refine lv_if_ne (tgt := 119) hx hb d_Mo_goOn_114 (by decide) (fun _ => ?_) (fun c13 => absurd c13 (by decide))
          refine lv_aload_n hx hb d_Mo_goOn_119 rfl (lv_at hl 2 rfl) ?_
          refine lv_bipush (v := 10) hx hb d_Mo_goOn_120 (by decide) ?_
          refine lv_iconst (v := 0) hx hb d_Mo_goOn_122 (by decide) ?_
          have hFc := m_free hD hS hA
          refine va_callv (va_runV (As := [.int 10, .int 0]) (rest := []) ⟨hx, hb, hml, hown, hts⟩ (m_emit2 l dC dI ar N0 z h0 ad (upd I1 6 (Int32.ofNat (P + 1))) T A1 U a1 (10) (0) H.size i7 (by omega)) (cwV 2 hts (x_goodV k_1152 k_1154 kp_56 k_9 k_1155) rfl rfl rfl (by decide +kernel) ⟨Nat.le_of_ble_eq_true rfl, Nat.le_of_ble_eq_true rfl⟩) ⟨x_blind, va_recv hK hP (ci := 6) (q0 := 0) rfl rfl, fun U9 hU9 hW9 => x_pre hU9 hW9 hP hD hU hZ hS hAN hN0⟩ rfl rfl hl.1 rfl (lv_room (Nat.le_of_ble_eq_true rfl)) d_Mo_goOn_123 ⟨Nat.le_of_ble_eq_true rfl, Nat.le_of_ble_eq_true rfl⟩) hS (fun q _ h => hFc q h) hFc (fun u t H1 locs ht hvm hw hB hz1 hk1 hS => ?_)
          obtain ⟨I15, T15, A15, U15⟩ := u
          dsimp only at hw hB
          rw [ht] at hB
          have hP : va_P (dC, dI) x_cl (m_W h0 ad ar I15 T15 A15 U15) H1 := hB
          have hD : va_D Bq (m_W h0 ad ar I15 T15 A15 U15) := m_D hD
          generalize H1 = H at hP hS ⊢
          refine W.widen (k := 0) (n := 0) (Nat.le_of_ble_eq_true rfl) (Nat.le_of_ble_eq_true rfl) ?_
          cases hw
          refine lv_aload_n hx hb d_Mo_goOn_126 rfl (lv_at hl 2 rfl) ?_
          refine m_g hx hb hts hown hK hP 2 (by decide) rfl (hts _ k_969) (v := .ref (ad 2)) rfl d_Mo_goOn_127 ?_
          refine lv_iload_n hx hb d_Mo_goOn_130 rfl (lv_at hl 0 rfl) ?_
          refine lv_iconst (v := 1) hx hb d_Mo_goOn_131 (by decide) ?_
          refine lv_iadd hx hb d_Mo_goOn_132 ?_
          refine W.eq (g2 := F0 m 133 ls [.int (Int32.ofNat (hd + 1)), .ref (ad 2)]) (by rw [← x_addN (a := hd) (b := 1)] <;> rfl) ?_
          refine lv_aload_n hx hb d_Mo_goOn_133 rfl (lv_at hl 2 rfl) ?_
          refine m_g hx hb hts hown hK hP 7 (by decide) rfl (hts _ k_974) (v := .int (Int32.ofNat (a1 + 2))) rfl d_Mo_goOn_134 ?_
          refine m_st hx hb hK hP hD hS 2 rfl (by decide) (j := (Int32.ofNat (hd + 1))) (x := (Int32.ofNat (a1 + 2))) (x_inN (by omega) (by decide)) d_Mo_goOn_137 (fun H locs hP hD hS => ?_)
          rw [x_nat (a := (hd + 1)) (by omega), m_up_up, m_up_s] at hP hD
          refine lv_aload_n hx hb d_Mo_goOn_138 rfl (lv_at hl 2 rfl) ?_
          refine m_g hx hb hts hown hK hP 14 (by decide) rfl (hts _ k_981) (v := .ref (ad 14)) rfl d_Mo_goOn_139 ?_
          refine lv_iload_n hx hb d_Mo_goOn_142 rfl (lv_at hl 1 rfl) ?_
          refine lv_iconst (v := 4) hx hb d_Mo_goOn_143 (by decide) ?_
          refine lv_imul hx hb d_Mo_goOn_144 ?_
          refine W.eq (g2 := F0 m 145 ls [.int (Int32.ofNat (L2.length * 4)), .ref (ad 14)]) (by rw [← x_mulN (a := L2.length) (b := 4)] <;> rfl) ?_
          refine lv_aload_n hx hb d_Mo_goOn_145 rfl (lv_at hl 2 rfl) ?_
          refine m_g hx hb hts hown hK hP 7 (by decide) rfl (hts _ k_974) (v := .int (Int32.ofNat (a1 + 2))) rfl d_Mo_goOn_146 ?_
          refine lv_iconst (v := 1) hx hb d_Mo_goOn_149 (by decide) ?_
          refine lv_isub hx hb d_Mo_goOn_150 ?_
          refine W.eq (g2 := F0 m 151 ls [.int (Int32.ofNat (a1 + 1)), .int (Int32.ofNat (L2.length * 4)), .ref (ad 14)]) (by rw [show (Int32.ofNat (a1 + 2) - 1 : Int32) = Int32.ofNat (a1 + 1) from x_subN (a := a1 + 2) (b := 1) (by omega)]) ?_
          refine m_st hx hb hK hP hD hS 7 rfl (by decide) (j := (Int32.ofNat (L2.length * 4))) (x := (Int32.ofNat (a1 + 1))) (x_inN (by omega) (by decide)) d_Mo_goOn_151 (fun H locs hP hD hS => ?_)
          rw [x_nat (a := (L2.length * 4)) (by omega)] at hP hD
          refine lv_aload_n hx hb d_Mo_goOn_152 rfl (lv_at hl 2 rfl) ?_
          refine m_g hx hb hts hown hK hP 11 (by decide) rfl (hts _ k_978) (v := .ref (ad 11)) rfl d_Mo_goOn_153 ?_
          refine lv_iload_n hx hb d_Mo_goOn_156 rfl (lv_at hl 1 rfl) ?_
          refine lv_iconst (v := 5) hx hb d_Mo_goOn_157 (by decide) ?_
          refine m_st hx hb hK hP hD hS 4 rfl (by decide) (j := (Int32.ofNat L2.length)) (x := 5) (x_inN (by omega) (by decide)) d_Mo_goOn_158 (fun H locs hP hD hS => ?_)
          rw [x_nat (a := L2.length) (by omega)] at hP hD
          refine lv_iconst (v := 1) hx hb d_Mo_goOn_159 (by decide) ?_
          refine W.widen (k := 0) (n := 0) (Nat.le_of_ble_eq_true rfl) (Nat.le_of_ble_eq_true rfl) ?_
          exact W.zret (v := 1) hx hb hr (rfl) (fun t ht hW => ⟨⟨1, ((upd (upd I1 6 (Int32.ofNat (P + 1))) 7 (Int32.ofNat (a1 + 2))), T, (m_up (m_up (m_up A1 2 (upd (upd (upd (A1 2) a1 10) (a1 + 1) 0) ((hd + 1)) (Int32.ofNat (a1 + 2)))) 14 (upd ((m_up A1 2 (upd (upd (upd (A1 2) a1 10) (a1 + 1) 0) ((hd + 1)) (Int32.ofNat (a1 + 2)))) 14) ((L2.length * 4)) (Int32.ofNat (a1 + 1)))) 11 (upd ((m_up (m_up A1 2 (upd (upd (upd (A1 2) a1 10) (a1 + 1) 0) ((hd + 1)) (Int32.ofNat (a1 + 2)))) 14 (upd ((m_up A1 2 (upd (upd (upd (A1 2) a1 10) (a1 + 1) 0) ((hd + 1)) (Int32.ofNat (a1 + 2)))) 14) ((L2.length * 4)) (Int32.ofNat (a1 + 1)))) 11) (L2.length) 5)), U), rfl, ⟨(P + 1), a1 + 2, ((5, hd, mn, ow, 0, fun _ => a1 + 1) :: L2), rfl, by omega, by omega, (((m_fr.rf.tr hfr (by decide)).up (by decide) _).up (by decide) _), ((((m_fa.rf.tr hfa (by decide)).up (by decide) _).up (by decide) _).up (by decide) _), rfl, rfl, rfl, i18, by show L2.length + 1 ≤ L.length; omega, by show ((a1 + 2 : Nat) : Int) ≤ 12 * (((P + 1) : Nat) : Int) + (m_sg L2 + -3); omega, Or.inl ⟨rfl, List.cons_ne_nil _ _, ⟨by dsimp only; rw [m_up_s, upd_s]; rfl, g12, g13, fun _ => (show upd (A1 14) (L2.length * 4) (Int32.ofNat (a1 + 1)) (L2.length * 4) = _ from upd_s), fun h9 => absurd h9 (by simp), g16, g17.same (fun b hb => ⟨show upd (A1 11) L2.length 5 b = _ from upd_n (by omega), rfl, rfl⟩) (fun j hj => show upd (A1 14) (L2.length * 4) (Int32.ofNat (a1 + 1)) j = _ from upd_n (by omega))⟩, fun h9 => absurd h9 (by simp), fun _ => hst.go4 (g := (upd (upd (upd (A1 2) a1 10) (a1 + 1) 0) (hd + 1) (Int32.ofNat (a1 + 2)))) (by rw [upd_n (by omega), upd_n (by omega), upd_s]) upd_s rfl (fun j h1 h2 => by rw [upd_n (by omega), upd_n (by omega), upd_n (by omega)])⟩⟩, by dsimp only; rw [ht]; exact hP⟩, hS.F ht⟩) hS.2.2 d_Mo_goOn_160
        · cases h9
          refine lv_if_ne (tgt := 119) hx hb d_Mo_goOn_114 (by decide) (fun c16 => absurd rfl c16) (fun _ => ?_)
          refine lv_iconst (v := 0) hx hb d_Mo_goOn_117 (by decide) ?_
          refine W.widen (k := 0) (n := 0) (Nat.le_of_ble_eq_true rfl) (Nat.le_of_ble_eq_true rfl) ?_
          exact W.zret (v := 0) hx hb hr (rfl) (fun t ht hW => ⟨⟨0, (I1, T, A1, U), rfl, ⟨P, a1, ((4, hd, mn, ow, cc, jm) :: L2), ((hfr 6 (by decide)).trans h6), by omega, by omega, (m_fr.rf.tr hfr (by decide)), (m_fa.rf.tr hfa (by decide)), rfl, rfl, i7, i18, by show L2.length + 1 ≤ L.length; omega, by show ((a1 : Nat) : Int) ≤ 12 * ((P : Nat) : Int) + (m_sg L2 + -3); omega, Or.inr (Or.inr ⟨rfl, List.cons_ne_nil _ _⟩)⟩, by dsimp only; rw [ht]; exact hP⟩, hS.F ht⟩) hS.2.2 d_Mo_goOn_118
      · have hat : (a1 : Int) + 3 ≤ 12 * P + (m_sg L2 + -3) := hat
        have hkh := hkd.2.2.2.2
        have hkg := hkd.2.2.2.1
        have hkm := hkd.2.2.1
        have hh1 : jm 0 < a1 := hst.go5.1
        refine lv_tableIn (tgt := 161) hx hb d_Mo_goOn_27 (by decide) (by decide) (off := 134) rfl (by decide) ?_
        refine lv_aload_n hx hb d_Mo_goOn_161 rfl (lv_at hl 2 rfl) ?_
        refine m_g hx hb hts hown hK hP 2 (by decide) rfl (hts _ k_969) (v := .ref (ad 2)) rfl d_Mo_goOn_162 ?_
        refine lv_aload_n hx hb d_Mo_goOn_165 rfl (lv_at hl 2 rfl) ?_
        refine m_g hx hb hts hown hK hP 14 (by decide) rfl (hts _ k_981) (v := .ref (ad 14)) rfl d_Mo_goOn_166 ?_
        refine lv_iload_n hx hb d_Mo_goOn_169 rfl (lv_at hl 1 rfl) ?_
        refine lv_iconst (v := 4) hx hb d_Mo_goOn_170 (by decide) ?_
        refine lv_imul hx hb d_Mo_goOn_171 ?_
        refine W.eq (g2 := F0 m 172 ls [.int (Int32.ofNat (L2.length * 4)), .ref (ad 14), .ref (ad 2)]) (by rw [← x_mulN (a := L2.length) (b := 4)] <;> rfl) ?_
        refine m_ld hx hb hK hP 7 rfl (by decide) (j := (Int32.ofNat (L2.length * 4))) (x_inN (by omega) (by decide)) d_Mo_goOn_172 ?_
        refine W.eq (g2 := F0 m 173 ls [.int (Int32.ofNat (jm 0)), .ref (ad 2)]) (by rw [x_nat (a := (L2.length * 4)) (by omega), g14 rfl]) ?_
        refine lv_aload_n hx hb d_Mo_goOn_173 rfl (lv_at hl 2 rfl) ?_
        refine m_g hx hb hts hown hK hP 7 (by decide) rfl (hts _ k_974) (v := .int (Int32.ofNat a1)) (congrArg Value.int i7) d_Mo_goOn_174 ?_
        refine m_st hx hb hK hP hD hS 2 rfl (by decide) (j := (Int32.ofNat (jm 0))) (x := (Int32.ofNat a1)) (x_inN (by omega) (by decide)) d_Mo_goOn_177 (fun H locs hP hD hS => ?_)
        rw [x_nat (a := (jm 0)) (by omega)] at hP hD
        refine lv_aload_n hx hb d_Mo_goOn_178 rfl (lv_at hl 2 rfl) ?_
        refine lv_dup hx hb d_Mo_goOn_179 rfl ?_
        refine m_g hx hb hts hown hK hP 18 (by decide) rfl (hts _ k_985) (v := .int (Int32.ofNat (L2.length + 1))) (congrArg Value.int i18) d_Mo_goOn_180 ?_
        refine lv_iconst (v := 1) hx hb d_Mo_goOn_183 (by decide) ?_
        refine lv_isub hx hb d_Mo_goOn_184 ?_
        refine W.eq (g2 := F0 m 185 ls [.int (Int32.ofNat L2.length), .ref h0]) (by rw [show (Int32.ofNat (L2.length + 1) - 1 : Int32) = Int32.ofNat L2.length from x_subN (a := L2.length + 1) (b := 1) (by omega)]) ?_
        refine m_p hx hb hts hown hK hP hD hS 18 (by decide) rfl (hts _ k_985) rfl (by decide +kernel) rfl (by decide) (x := (Int32.ofNat L2.length)) d_Mo_goOn_185 (fun H locs hP hD hS => ?_)
        refine lv_goto (tgt := 231) hx hb d_Mo_goOn_188 (by decide) ?_
        refine lv_goto (tgt := 0) hx hb d_Mo_goOn_231 (by decide) ?_
        exact ih L2.length (by rw [hn9]; exact Nat.lt_succ_self _) H locs ls ⟨(upd I1 18 (Int32.ofNat L2.length)), (m_up A1 2 (upd (A1 2) ((jm 0)) (Int32.ofNat a1))), L2, a1, rfl, by omega, i7, rfl, (hfr.up (by decide) _), (hfa.up (by decide) _), g17.same (fun b hb => ⟨rfl, rfl, rfl⟩) (fun j hj => rfl), by omega, by rw [m_up_s]; exact hst.go5.2, hP, hD, hS, lv_sub hl [2] rfl⟩
      · have hat : (a1 : Int) + 3 ≤ 12 * P + (m_sg L2 + 9) := hat
        have hkh := hkd.2.2.2.2
        have hkg := hkd.2.2.2.1
        have hkm := hkd.2.2.1
        obtain ⟨hmn4, _⟩ := hst.go6 (g := upd (A1 2) a1 10) (jm' := fun i => if i = mn then a1 + 1 else jm i) upd_s (if_pos rfl) (fun i hi => if_neg (by omega)) (fun j hj => upd_n (by omega))
        refine lv_tableOut (tgt := 191) hx hb d_Mo_goOn_27 (by decide) (by decide) ?_
        refine lv_aload_n hx hb d_Mo_goOn_191 rfl (lv_at hl 2 rfl) ?_
        refine lv_bipush (v := 10) hx hb d_Mo_goOn_192 (by decide) ?_
        refine lv_iconst (v := 0) hx hb d_Mo_goOn_194 (by decide) ?_
        have hFc := m_free hD hS hA
        refine va_callv (va_runV (As := [.int 10, .int 0]) (rest := []) ⟨hx, hb, hml, hown, hts⟩ (m_emit2 l dC dI ar N0 z h0 ad I1 T A1 U a1 (10) (0) H.size i7 (by omega)) (cwV 2 hts (x_goodV k_1152 k_1154 kp_56 k_9 k_1155) rfl rfl rfl (by decide +kernel) ⟨Nat.le_of_ble_eq_true rfl, Nat.le_of_ble_eq_true rfl⟩) ⟨x_blind, va_recv hK hP (ci := 6) (q0 := 0) rfl rfl, fun U9 hU9 hW9 => x_pre hU9 hW9 hP hD hU hZ hS hAN hN0⟩ rfl rfl hl.1 rfl (lv_room (Nat.le_of_ble_eq_true rfl)) d_Mo_goOn_195 ⟨Nat.le_of_ble_eq_true rfl, Nat.le_of_ble_eq_true rfl⟩) hS (fun q _ h => hFc q h) hFc (fun u t H1 locs ht hvm hw hB hz1 hk1 hS => ?_)
        obtain ⟨I18, T18, A18, U18⟩ := u
        dsimp only at hw hB
        rw [ht] at hB
        have hP : va_P (dC, dI) x_cl (m_W h0 ad ar I18 T18 A18 U18) H1 := hB
        have hD : va_D Bq (m_W h0 ad ar I18 T18 A18 U18) := m_D hD
        generalize H1 = H at hP hS ⊢
        refine W.widen (k := 0) (n := 0) (Nat.le_of_ble_eq_true rfl) (Nat.le_of_ble_eq_true rfl) ?_
        cases hw
        refine lv_aload_n hx hb d_Mo_goOn_198 rfl (lv_at hl 2 rfl) ?_
        refine m_g hx hb hts hown hK hP 14 (by decide) rfl (hts _ k_981) (v := .ref (ad 14)) rfl d_Mo_goOn_199 ?_
        refine lv_iload_n hx hb d_Mo_goOn_202 rfl (lv_at hl 1 rfl) ?_
        refine lv_iconst (v := 4) hx hb d_Mo_goOn_203 (by decide) ?_
        refine lv_imul hx hb d_Mo_goOn_204 ?_
        refine W.eq (g2 := F0 m 205 ls [.int (Int32.ofNat (L2.length * 4)), .ref (ad 14)]) (by rw [← x_mulN (a := L2.length) (b := 4)] <;> rfl) ?_
        refine lv_aload_n hx hb d_Mo_goOn_205 rfl (lv_at hl 2 rfl) ?_
        refine m_g hx hb hts hown hK hP 13 (by decide) rfl (hts _ k_980) (v := .ref (ad 13)) rfl d_Mo_goOn_206 ?_
        refine lv_iload_n hx hb d_Mo_goOn_209 rfl (lv_at hl 1 rfl) ?_
        refine m_ld hx hb hK hP 6 rfl (by decide) (j := (Int32.ofNat L2.length)) (x_inN (by omega) (by decide)) d_Mo_goOn_210 ?_
        refine W.eq (g2 := F0 m 211 ls [.int (Int32.ofNat mn), .int (Int32.ofNat (L2.length * 4)), .ref (ad 14)]) (by rw [x_nat (a := L2.length) (by omega), show (m_up A1 2 (upd (upd (A1 2) a1 10) (a1 + 1) 0)) 13 L2.length = A1 13 L2.length from rfl, g13]) ?_
        refine lv_iadd hx hb d_Mo_goOn_211 ?_
        refine W.eq (g2 := F0 m 212 ls [.int (Int32.ofNat ((L2.length * 4) + mn)), .ref (ad 14)]) (by rw [← x_addN (a := (L2.length * 4)) (b := mn)] <;> rfl) ?_
        refine lv_aload_n hx hb d_Mo_goOn_212 rfl (lv_at hl 2 rfl) ?_
        refine m_g hx hb hts hown hK hP 7 (by decide) rfl (hts _ k_974) (v := .int (Int32.ofNat (a1 + 2))) rfl d_Mo_goOn_213 ?_
        refine lv_iconst (v := 1) hx hb d_Mo_goOn_216 (by decide) ?_
        refine lv_isub hx hb d_Mo_goOn_217 ?_
        refine W.eq (g2 := F0 m 218 ls [.int (Int32.ofNat (a1 + 1)), .int (Int32.ofNat ((L2.length * 4) + mn)), .ref (ad 14)]) (by rw [show (Int32.ofNat (a1 + 2) - 1 : Int32) = Int32.ofNat (a1 + 1) from x_subN (a := a1 + 2) (b := 1) (by omega)]) ?_
        refine m_st hx hb hK hP hD hS 7 rfl (by decide) (j := (Int32.ofNat ((L2.length * 4) + mn))) (x := (Int32.ofNat (a1 + 1))) (x_inN (by omega) (by decide)) d_Mo_goOn_218 (fun H locs hP hD hS => ?_)
        rw [x_nat (a := ((L2.length * 4) + mn)) (by omega)] at hP hD
        refine lv_aload_n hx hb d_Mo_goOn_219 rfl (lv_at hl 2 rfl) ?_
        refine m_g hx hb hts hown hK hP 13 (by decide) rfl (hts _ k_980) (v := .ref (ad 13)) rfl d_Mo_goOn_220 ?_
        refine lv_iload_n hx hb d_Mo_goOn_223 rfl (lv_at hl 1 rfl) ?_
        refine lv_dup2_11 hx hb d_Mo_goOn_224 rfl rfl ?_
        refine m_ld hx hb hK hP 6 rfl (by decide) (j := (Int32.ofNat L2.length)) (x_inN (by omega) (by decide)) d_Mo_goOn_225 ?_
        refine W.eq (g2 := F0 m 226 ls [.int (Int32.ofNat mn), .int (Int32.ofNat L2.length), .ref (ad 13)]) (by rw [x_nat (a := L2.length) (by omega), show (m_up (m_up A1 2 (upd (upd (A1 2) a1 10) (a1 + 1) 0)) 14 (upd ((m_up A1 2 (upd (upd (A1 2) a1 10) (a1 + 1) 0)) 14) (((L2.length * 4) + mn)) (Int32.ofNat (a1 + 1)))) 13 L2.length = A1 13 L2.length from rfl, g13]) ?_
        refine lv_iconst (v := 1) hx hb d_Mo_goOn_226 (by decide) ?_
        refine lv_iadd hx hb d_Mo_goOn_227 ?_
        refine W.eq (g2 := F0 m 228 ls [.int (Int32.ofNat (mn + 1)), .int (Int32.ofNat L2.length), .ref (ad 13)]) (by rw [← x_addN (a := mn) (b := 1)] <;> rfl) ?_
        refine m_st hx hb hK hP hD hS 6 rfl (by decide) (j := (Int32.ofNat L2.length)) (x := (Int32.ofNat (mn + 1))) (x_inN (by omega) (by decide)) d_Mo_goOn_228 (fun H locs hP hD hS => ?_)
        rw [x_nat (a := L2.length) (by omega)] at hP hD
        refine lv_iconst (v := 1) hx hb d_Mo_goOn_229 (by decide) ?_
        refine W.widen (k := 0) (n := 0) (Nat.le_of_ble_eq_true rfl) (Nat.le_of_ble_eq_true rfl) ?_
        exact W.zret (v := 1) hx hb hr (rfl) (fun t ht hW => ⟨⟨1, ((upd I1 7 (Int32.ofNat (a1 + 2))), T, (m_up (m_up (m_up A1 2 (upd (upd (A1 2) a1 10) (a1 + 1) 0)) 14 (upd ((m_up A1 2 (upd (upd (A1 2) a1 10) (a1 + 1) 0)) 14) (((L2.length * 4) + mn)) (Int32.ofNat (a1 + 1)))) 13 (upd ((m_up (m_up A1 2 (upd (upd (A1 2) a1 10) (a1 + 1) 0)) 14 (upd ((m_up A1 2 (upd (upd (A1 2) a1 10) (a1 + 1) 0)) 14) (((L2.length * 4) + mn)) (Int32.ofNat (a1 + 1)))) 13) (L2.length) (Int32.ofNat (mn + 1)))), U), rfl, ⟨P, a1 + 2, ((6, hd, mn + 1, ow, mn + 1, (fun i => if i = mn then a1 + 1 else jm i)) :: L2), ((hfr 6 (by decide)).trans h6), by omega, by omega, ((m_fr.rf.tr hfr (by decide)).up (by decide) _), ((((m_fa.rf.tr hfa (by decide)).up (by decide) _).up (by decide) _).up (by decide) _), rfl, rfl, rfl, i18, by show L2.length + 1 ≤ L.length; omega, by show ((a1 + 2 : Nat) : Int) ≤ 12 * ((P : Nat) : Int) + (m_sg L2 + 9); omega, Or.inl ⟨rfl, List.cons_ne_nil _ _, ⟨g11, g12, (show upd (A1 13) L2.length (Int32.ofNat (mn + 1)) L2.length = _ from upd_s), fun h9 => absurd h9 (by simp), fun _ i hi => (show upd (A1 14) (L2.length * 4 + mn) (Int32.ofNat (a1 + 1)) (L2.length * 4 + i) = Int32.ofNat (if i = mn then a1 + 1 else jm i) from if e : i = mn then (by rw [e, upd_s, if_pos rfl]) else (by rw [upd_n (by omega), if_neg e]; exact g15 rfl i (by have hi : i < mn + 1 := hi; show i < mn; omega))), by show mn + 1 ≤ 4; omega, g17.same (fun b hb => ⟨rfl, rfl, show upd (A1 13) L2.length (Int32.ofNat (mn + 1)) b = _ from upd_n (by omega)⟩) (fun j hj => show upd (A1 14) (L2.length * 4 + mn) (Int32.ofNat (a1 + 1)) j = _ from upd_n (by omega))⟩, fun _ => ⟨(hst.go6 (g := (upd (upd (A1 2) a1 10) (a1 + 1) 0)) (jm' := (fun i => if i = mn then a1 + 1 else jm i)) (by rw [upd_n (by omega), upd_s]) (if_pos rfl) (fun i hi => if_neg (by omega)) (fun j hj => by rw [upd_n (by omega), upd_n (by omega)])).2, fun _ => rfl⟩, fun h9 => absurd (by simp) h9⟩⟩, by dsimp only; rw [ht]; exact hP⟩, hS.F ht⟩) hS.2.2 d_Mo_goOn_230
