-- ===== 72.ymi: the machine's invariant under the steps of its methods =====
/-- what a call has taken of the room, against the capacities of the two lists -/
def y_ac (c0 sz w0 c1 : Nat) (H : Heap) : Prop := y_hs H + 4 * c0 ≤ w0 + 4 * c1 ∧ 5 * H.size + c0 ≤ 5 * sz + c1
/-- how far the lists have grown -/
def y_bd (n n' : Nat × Nat × Nat × Nat) (kq ks : Nat) : Prop := n'.1 ≤ n.1 + kq ∧ n'.2.1 ≤ n.2.1 + ks ∧ (n'.2.2.1 = n.2.2.1 ∨ (n.2.2.1 ≤ n'.2.2.1 ∧ n'.2.2.1 ≤ 2 * (n.1 + kq) + 12)) ∧ (n'.2.2.2 = n.2.2.2 ∨ (n.2.2.2 ≤ n'.2.2.2 ∧ n'.2.2.2 ≤ 2 * (n.2.1 + ks) + 12))
theorem y_bd.rf {n : Nat × Nat × Nat × Nat} {a b : Nat} : y_bd n n a b := ⟨by omega, by omega, Or.inl rfl, Or.inl rfl⟩
theorem y_bd.tr {n n' n2 : Nat × Nat × Nat × Nat} {a b c d e g : Nat} (h : y_bd n n' a b) (h' : y_bd n' n2 c d) (h1 : a + c ≤ e) (h2 : b + d ≤ g) : y_bd n n2 e g := by
  obtain ⟨q1, q2, q3, q4⟩ := h
  obtain ⟨p1, p2, p3, p4⟩ := h'
  refine ⟨by omega, by omega, ?_, ?_⟩
  · rcases q3 with q3 | ⟨q3, q3'⟩ <;> rcases p3 with p3 | ⟨p3, p3'⟩
    · exact Or.inl (by omega)
    · exact Or.inr ⟨by omega, by omega⟩
    · exact Or.inr ⟨by omega, by omega⟩
    · exact Or.inr ⟨by omega, by omega⟩
  · rcases q4 with q4 | ⟨q4, q4'⟩ <;> rcases p4 with p4 | ⟨p4, p4'⟩
    · exact Or.inl (by omega)
    · exact Or.inr ⟨by omega, by omega⟩
    · exact Or.inr ⟨by omega, by omega⟩
    · exact Or.inr ⟨by omega, by omega⟩
theorem y_6 {c : Nat} (h : c < 6) : c = 0 ∨ c = 1 ∨ c = 2 ∨ c = 3 ∨ c = 4 ∨ c = 5 := by omega
theorem y_dc0 {c : Nat} (h : c < 6) : (y_d (14 + c))[0]? = some (3, 3 + 3 * c) := by rcases y_6 h with rfl | rfl | rfl | rfl | rfl | rfl <;> rfl
theorem y_dc1 {c : Nat} (h : c < 6) : (y_d (14 + c))[1]? = some (3, 4 + 3 * c) := by rcases y_6 h with rfl | rfl | rfl | rfl | rfl | rfl <;> rfl
theorem y_dc2 {c : Nat} (h : c < 6) : (y_d (14 + c))[2]? = some (1, 16 + c) := by rcases y_6 h with rfl | rfl | rfl | rfl | rfl | rfl <;> rfl
theorem y_dc3 {c : Nat} (h : c < 6) : (y_d (14 + c))[3]? = some (3, 5 + 3 * c) := by rcases y_6 h with rfl | rfl | rfl | rfl | rfl | rfl <;> rfl
theorem y_cc1 {c : Nat} (h : c < 6) : y_ci (14 + c) = 1 := by rcases y_6 h with rfl | rfl | rfl | rfl | rfl | rfl <;> rfl
theorem y_cc {c : Nat} (h : c < 6) : y_ci (14 + c) ≠ 100 := by rw [y_cc1 h]; decide
theorem y_ccl {c : Nat} (h : c < 6) : y_cl[y_ci (14 + c)]? = some ("ChannelMachine$Channel", F_Channel, 4) := by rw [y_cc1 h]; rfl
section YM
variable {z : Nat → Nat} {ar : Nat → ClassId} {G : Nat → Nat} {C Gs : Nat → List Nat} {f : Nat → Option va_E} {I I' : Nat → Int32} {O O' : Nat → Option Nat} {n n' : Nat × Nat × Nat × Nat}
theorem y_LS.cell {o : Option Nat} {k cap t : Nat} {x : Nat × List Value} {e : va_E} (h : y_LS z ar G f o k cap) (hf : f t = some (.inr x)) : y_LS z ar G (y_Lu f t e) o k cap := by
  rcases h with h | ⟨a, g, h1, h2, h3⟩
  · exact Or.inl h
  · refine Or.inr ⟨a, g, h1, ?_, h3⟩
    rw [y_Lu_n (fun e9 => by subst e9; rw [hf] at h2; cases h2)]
    exact h2
theorem y_MI.cell {t : Nat} {x : Nat × List Value} {e : va_E} (h : y_MI z ar G C Gs I O f n) (hf : f t = some (.inr x)) (hd : y_DY z ar G C Gs (y_Lu f t e)) : y_MI z ar G C Gs I O (y_Lu f t e) n :=
  ⟨hd, ⟨h.2.1.1, h.2.1.2.cell hf⟩, ⟨h.2.2.1.1, h.2.2.1.2.cell hf⟩, h.2.2.2⟩
theorem y_MI.task (h : y_MI z ar G C Gs I O f n) {t w : Nat} {m : Option Nat} {a : Nat} {b r v : Int32} {u : Int64} (ht : G t = 8) (hw : G w = 7) (hm : y_o G 8 m) (ha : G a = 7) : y_MI z ar G C Gs I O (y_Lu f t (.inr (8, y_Tf w m a b r v u))) n := by
  obtain ⟨_, _, _, _, _, _, _, hf, _⟩ := h.1.2.1 t ht
  exact h.cell hf (h.1.task ht hw hm ha)
theorem y_MI.guard (h : y_MI z ar G C Gs I O f n) {g co : Nat} {ch va op op' : Int32} {fo nx : Option Nat} (hg : G g = 9) (hf : f g = some (.inr (9, y_Gf co ch va fo nx op))) : y_MI z ar G C Gs I O (y_Lu f g (.inr (9, y_Gf co ch va fo nx op'))) n := h.cell hf (h.1.guard hg hf)
/-- what the invariant reads of the ints and of the references -/
theorem y_MI.to (h : y_MI z ar G C Gs I O f n) (h10 : I' 10 = I 10) (h11 : I' 11 = I 11) (h12 : I' 12 = I 12) (h14 : I' 14 = I 14) : y_MI z ar G C Gs I' O f n := by
  obtain ⟨a1, a2, a3, a4, a5, a6, a7, a8⟩ := h
  exact ⟨a1, ⟨h12.trans a2.1, a2.2⟩, ⟨h14.trans a3.1, a3.2⟩, a4, a5, a6, by rw [h10]; exact a7, by rw [h11]; exact a8⟩
end YM
