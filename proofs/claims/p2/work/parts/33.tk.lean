-- ===== 33.tk: what expression writes: tokens with the depth of the pile =====
/-- fields and arrays but those of S are as before -/
def m_fr (S : List Nat) (I I' : Nat → Int32) : Prop := ∀ k, k ∉ S → I' k = I k
def m_fa (S : List Nat) (A A' : Nat → Nat → Int32) : Prop := ∀ k, k ∉ S → A' k = A k
theorem m_fr.rf {S : List Nat} {I : Nat → Int32} : m_fr S I I := fun _ _ => rfl
theorem m_fa.rf {S : List Nat} {A : Nat → Nat → Int32} : m_fa S A A := fun _ _ => rfl
theorem m_fr.up {S : List Nat} {I I' : Nat → Int32} (h : m_fr S I I') {k : Nat} (hk : k ∈ S) (x : Int32) : m_fr S I (upd I' k x) := fun j hj => by
  have e : j ≠ k := fun h9 => hj (by rw [h9]; exact hk)
  simp only [upd, if_neg e]
  exact h j hj
theorem m_fa.up {S : List Nat} {A A' : Nat → Nat → Int32} (h : m_fa S A A') {k : Nat} (hk : k ∈ S) (f : Nat → Int32) : m_fa S A (m_up A' k f) := fun j hj => by
  have e : j ≠ k := fun h9 => hj (by rw [h9]; exact hk)
  simp only [m_up, if_neg e]
  exact h j hj
theorem m_fr.tr {S S' : List Nat} {I I' I2 : Nat → Int32} (h : m_fr S I I') (h' : m_fr S' I' I2) (hs : ∀ k ∈ S', k ∈ S) : m_fr S I I2 := fun j hj => (h' j (fun h9 => hj (hs j h9))).trans (h j hj)
theorem m_fa.tr {S S' : List Nat} {A A' A2 : Nat → Nat → Int32} (h : m_fa S A A') (h' : m_fa S' A' A2) (hs : ∀ k ∈ S', k ∈ S) : m_fa S A A2 := fun j hj => (h' j (fun h9 => hj (hs j h9))).trans (h j hj)
/-- a token of f from p to q: the pile has n before, n' behind it -/
def m_tok (f : Nat → Int32) (p q n n' : Nat) : Prop :=
  (q = p + 2 ∧ n' = n + 1 ∧ (f p = 20 ∨ (f p = 21 ∧ ∃ v : Nat, v < 6 ∧ f (p + 1) = Int32.ofNat v))) ∨ (q = p + 1 ∧ f p = 23 ∧ 1 ≤ n ∧ n' = n) ∨ (q = p + 2 ∧ f p = 22 ∧ 2 ≤ n ∧ n' + 1 = n)
theorem m_tok.lt {f : Nat → Int32} {p q n n' : Nat} (h : m_tok f p q n n') : p < q := by
  rcases h with h | h | h <;> omega
theorem m_tok.same {f g : Nat → Int32} {p q n n' : Nat} (h : m_tok f p q n n') (hg : ∀ j, j < q → g j = f j) : m_tok g p q n n' := by
  rcases h with ⟨h1, h2, h3⟩ | ⟨h1, h2, h3⟩ | ⟨h1, h2, h3⟩
  · refine Or.inl ⟨h1, h2, ?_⟩
    rw [hg p (by omega), hg (p + 1) (by omega)]
    exact h3
  · exact Or.inr (Or.inl ⟨h1, by rw [hg p (by omega)]; exact h2, h3⟩)
  · exact Or.inr (Or.inr ⟨h1, by rw [hg p (by omega)]; exact h2, h3⟩)
/-- tokens from a0 to a; the pile has n behind them, never more than mx -/
def m_TK (f : Nat → Int32) (a0 a n mx : Nat) : Prop := ∃ (K : Nat) (bs ns : Nat → Nat), bs 0 = a0 ∧ ns 0 = 0 ∧ bs K = a ∧ ns K = n ∧ (∀ k, k < K → m_tok f (bs k) (bs (k + 1)) (ns k) (ns (k + 1))) ∧ ∀ k, k ≤ K → ns k ≤ mx
theorem m_TK.nil {f : Nat → Int32} {a mx : Nat} : m_TK f a a 0 mx := ⟨0, fun _ => a, fun _ => 0, rfl, rfl, rfl, rfl, fun k h => absurd h (Nat.not_lt_zero k), fun k _ => Nat.zero_le mx⟩
theorem m_TK.mono {f : Nat → Int32} {a0 a n mx mx' : Nat} (h : m_TK f a0 a n mx) (hm : mx ≤ mx') : m_TK f a0 a n mx' := by
  obtain ⟨K, bs, ns, h1, h2, h3, h4, h5, h6⟩ := h
  exact ⟨K, bs, ns, h1, h2, h3, h4, h5, fun k hk => Nat.le_trans (h6 k hk) hm⟩
theorem m_TK.le {f : Nat → Int32} {K : Nat} {bs ns : Nat → Nat} (h : ∀ k, k < K → m_tok f (bs k) (bs (k + 1)) (ns k) (ns (k + 1))) : ∀ j k, k + j = K → bs k ≤ bs K := by
  intro j
  induction j with
  | zero => intro k hk; rw [show k = K by omega]; exact Nat.le_refl _
  | succ j ih => intro k hk; exact Nat.le_trans (Nat.le_of_lt (h k (by omega)).lt) (ih (k + 1) (by omega))
theorem m_TK.same {f g : Nat → Int32} {a0 a n mx : Nat} (h : m_TK f a0 a n mx) (hg : ∀ j, j < a → g j = f j) : m_TK g a0 a n mx := by
  obtain ⟨K, bs, ns, h1, h2, h3, h4, h5, h6⟩ := h
  refine ⟨K, bs, ns, h1, h2, h3, h4, fun k hk => (h5 k hk).same (fun j hj => hg j ?_), h6⟩
  have := m_TK.le h5 (K - (k + 1)) (k + 1) (by omega)
  omega
theorem m_TK.snoc {f : Nat → Int32} {a0 a n mx a' n' mx' : Nat} (h : m_TK f a0 a n mx) (ht : m_tok f a a' n n') (hn : n' ≤ mx') (hm : mx ≤ mx') : m_TK f a0 a' n' mx' := by
  obtain ⟨K, bs, ns, h1, h2, h3, h4, h5, h6⟩ := h
  refine ⟨K + 1, fun k => if k = K + 1 then a' else bs k, fun k => if k = K + 1 then n' else ns k, ?_, ?_, ?_, ?_, fun k hk => ?_, fun k hk => ?_⟩
  · simp [h1]
  · simp [h2]
  · simp
  · simp
  · by_cases e : k = K
    · subst e
      simp only [if_pos, if_neg (show ¬ k = k + 1 by omega)]
      rw [h3, h4]
      exact ht
    · simp only [if_neg (show ¬ k = K + 1 by omega), if_neg (show ¬ k + 1 = K + 1 by omega)]
      exact h5 k (by omega)
  · by_cases e : k = K + 1
    · simp only [if_pos e]; exact hn
    · simp only [if_neg e]; exact Nat.le_trans (h6 k (by omega)) hm
/-- how many of the first i operators are binary -/
def m_nb (rk : Nat → Int32) : Nat → Nat
  | 0 => 0
  | i + 1 => m_nb rk i + (if rk i = 4 then 0 else 1)
theorem upd_s {f : Nat → Int32} {k : Nat} {x : Int32} : upd f k x k = x := by simp [upd]
theorem upd_n {f : Nat → Int32} {k j : Nat} {x : Int32} (h : j ≠ k) : upd f k x j = f j := by simp [upd, h]
