-- ===== 40.wf: code that is well formed, with holes while it is being read =====
theorem m_tok.same2 {f g : Nat → Int32} {p q n n' : Nat} (h : m_tok f p q n n') (hg : ∀ j, p ≤ j → j < q → g j = f j) : m_tok g p q n n' := by
  rcases h with ⟨h1, h2, h3⟩ | ⟨h1, h2, h3⟩ | ⟨h1, h2, h3⟩
  · refine Or.inl ⟨h1, h2, ?_⟩
    rw [hg p (by omega) (by omega), hg (p + 1) (by omega) (by omega)]
    exact h3
  · exact Or.inr (Or.inl ⟨h1, by rw [hg p (by omega) (by omega)]; exact h2, h3⟩)
  · exact Or.inr (Or.inr ⟨h1, by rw [hg p (by omega) (by omega)]; exact h2, h3⟩)
theorem m_TK.ge {f : Nat → Int32} {K : Nat} {bs ns : Nat → Nat} (h : ∀ k, k < K → m_tok f (bs k) (bs (k + 1)) (ns k) (ns (k + 1))) : ∀ k, k ≤ K → bs 0 ≤ bs k := by
  intro k
  induction k with
  | zero => intro _; exact Nat.le_refl _
  | succ k ih => intro hk; exact Nat.le_trans (ih (by omega)) (Nat.le_of_lt (h k (by omega)).lt)
theorem m_TK.same2 {f g : Nat → Int32} {a0 a n mx : Nat} (h : m_TK f a0 a n mx) (hg : ∀ j, a0 ≤ j → j < a → g j = f j) : m_TK g a0 a n mx := by
  obtain ⟨K, bs, ns, h1, h2, h3, h4, h5, h6⟩ := h
  refine ⟨K, bs, ns, h1, h2, h3, h4, fun k hk => (h5 k hk).same2 (fun j hj1 hj2 => hg j ?_ ?_), h6⟩
  · have := m_TK.ge h5 k (by omega)
    omega
  · have := m_TK.le h5 (K - (k + 1)) (k + 1) (by omega)
    omega
theorem m_TK.leq {f : Nat → Int32} {a0 a n mx : Nat} (h : m_TK f a0 a n mx) : a0 ≤ a := by
  obtain ⟨K, bs, ns, h1, h2, h3, h4, h5, h6⟩ := h
  have := m_TK.ge h5 K (Nat.le_refl K)
  omega
/-- a constant of the code; an expression's code, OVER at q; where control goes on; a target, or a hole for it -/
def m_k (f : Nat → Int32) (role : Nat → Nat) (a v : Nat) : Prop := role a = 0 ∧ f a = Int32.ofNat v
def m_we (f : Nat → Int32) (role : Nat → Nat) (p q : Nat) : Prop := m_TK f p q 1 72 ∧ f q = 24 ∧ ∀ j, p ≤ j → j ≤ q → role j = 0
def m_go (V : Nat → Prop) (own : Nat → Nat) (o x : Nat) : Prop := V x ∧ own x = o
def m_tg (f : Nat → Int32) (V : Nat → Prop) (own role : Nat → Nat) (Hl : Nat → Option Nat) (o a : Nat) : Prop := role a = 1 ∧ (Hl a = some o ∨ (Hl a = none ∧ ∃ x, f a = Int32.ofNat x ∧ V x ∧ own x = o))
/-- the instruction at p -/
def m_in (f : Nat → Int32) (V : Nat → Prop) (own pown : Nat → Nat) (bl : List Nat) (role : Nat → Nat) (Hl : Nat → Option Nat) (p : Nat) : Prop := role p = 0 ∧
  ((f p = 1 ∧ ∃ v q, m_k f role (p + 1) v ∧ v < 6 ∧ m_we f role (p + 2) q ∧ m_go V own (own p) (q + 1)) ∨
  (f p = 2 ∧ m_go V own (own p) (p + 1)) ∨
  (f p = 3) ∨
  (f p = 4 ∧ (∃ q, m_we f role (p + 2) q ∧ m_go V own (own p) (q + 1)) ∧ m_tg f V own role Hl (own p) (p + 1)) ∨
  (f p = 5 ∧ m_tg f V own role Hl (own p) (p + 6) ∧ ∃ n, m_k f role (p + 1) n ∧ n ≤ 4 ∧ ∀ k, k < n → ∃ y, m_k f role (p + 2 + k) y ∧ V y ∧ own y = y ∧ pown y = own p ∧ y ∈ bl ∧ (0 < y ∧ y < 1200) ∧ ∀ k', k' < n → k' ≠ k → ∃ y', m_k f role (p + 2 + k') y' ∧ y' < 1200 ∧ y' ≠ y) ∨
  (f p = 6 ∧ ∃ c q, m_k f role (p + 1) c ∧ (c < 4 ∨ c = 5) ∧ m_we f role (p + 2) q ∧ m_go V own (own p) (q + 1)) ∨
  (f p = 7 ∧ (∃ c v, m_k f role (p + 1) c ∧ c ≤ 4 ∧ m_k f role (p + 2) v ∧ v < 6) ∧ m_go V own (own p) (p + 3)) ∨
  (f p = 8 ∧ ∃ n, m_k f role (p + 1) n ∧ n ≤ 4 ∧ ∀ g, g < n → (∃ e q x, m_k f role (p + 2 + 4 * g) e ∧ m_we f role e q ∧ m_k f role (p + 5 + 4 * g) x ∧ m_go V own (own p) x) ∧ ((role (p + 3 + 4 * g) = 0 ∧ f (p + 3 + 4 * g) = -1) ∨ ∃ c v, m_k f role (p + 3 + 4 * g) c ∧ c ≤ 4 ∧ m_k f role (p + 4 + 4 * g) v ∧ v < 6)) ∨
  (f p = 9 ∧ ∃ q, m_we f role (p + 1) q ∧ m_go V own (own p) (q + 1)) ∨
  (f p = 10 ∧ m_tg f V own role Hl (own p) (p + 1) ∧ (Hl (p + 1) = none → ∃ x, f (p + 1) = Int32.ofNat x ∧ V x ∧ (p < x ∨ (f x = 4 ∧ role x = 0)))) ∨
  (f p = 11 ∧ m_go V own (own p) (p + 1)) ∨
  (f p = 12))
section WF
variable {f g : Nat → Int32} {V V' : Nat → Prop} {own own' pown pown' : Nat → Nat} {bl bl' : List Nat} {role role' : Nat → Nat} {Hl Hl' : Nat → Option Nat} {p : Nat}
theorem m_k.step {a v : Nat} (h : m_k f role a v) (hr : ∀ x, role x ≤ 1 → role' x = role x) (hg : ∀ x, role x = 0 → g x = f x) : m_k g role' a v := ⟨(hr a (by rw [h.1]; omega)).trans h.1, (hg a h.1).trans h.2⟩
theorem m_we.step {a q : Nat} (h : m_we f role a q) (hr : ∀ x, role x ≤ 1 → role' x = role x) (hg : ∀ x, role x = 0 → g x = f x) : m_we g role' a q := by
  obtain ⟨h1, h2, h3⟩ := h
  have hle := h1.leq
  refine ⟨h1.same2 (fun j a1 a2 => hg j (h3 j a1 (by omega))), (hg q (h3 q hle (Nat.le_refl q))).trans h2, fun j a1 a2 => ?_⟩
  rw [hr j (by rw [h3 j a1 a2]; omega)]; exact h3 j a1 a2
/-- what was well formed stays so: codes grows, holes are filled -/
theorem m_in.step (h : m_in f V own pown bl role Hl p) (hVp : V p) (hr : ∀ x, role x ≤ 1 → role' x = role x) (hg : ∀ x, role x = 0 → g x = f x) (hv : ∀ x, V x → V' x) (ho : ∀ x, V x → own' x = own x) (hp : ∀ y, y ∈ bl → pown' y = pown y) (hb : ∀ y, y ∈ bl → y ∈ bl')
    (hh : ∀ a, role a = 1 → (∀ o, Hl a = some o → Hl' a = some o ∨ (Hl' a = none ∧ ∃ x, g a = Int32.ofNat x ∧ V' x ∧ own' x = o ∧ a ≤ x)) ∧ (Hl a = none → Hl' a = none ∧ g a = f a)) :
    m_in g V' own' pown' bl' role' Hl' p := by
  have hgo : ∀ {o x : Nat}, m_go V own o x → m_go V' own' o x := fun h => ⟨hv _ h.1, (ho _ h.1).trans h.2⟩
  have htg : ∀ {o a : Nat}, m_tg f V own role Hl o a → m_tg g V' own' role' Hl' o a := fun {o a} h => by
    obtain ⟨h1, h2⟩ := h
    refine ⟨(hr a (by rw [h1]; omega)).trans h1, ?_⟩
    obtain ⟨k1, k2⟩ := hh a h1
    rcases h2 with h2 | ⟨h2, x, h3, h4, h5⟩
    · rcases k1 o h2 with k3 | ⟨k3, x, k4, k5, k6, _⟩
      · exact Or.inl k3
      · exact Or.inr ⟨k3, x, k4, k5, k6⟩
    · exact Or.inr ⟨(k2 h2).1, x, (k2 h2).2.trans h3, hv x h4, (ho x h4).trans h5⟩
  obtain ⟨h0, h⟩ := h
  have eo : own' p = own p := ho p hVp
  refine ⟨(hr p (by rw [h0]; omega)).trans h0, ?_⟩
  rw [eo, hg p h0]
  rcases h with ⟨e, v, q, a1, a2, a3, a4⟩ | ⟨e, a1⟩ | e | ⟨e, ⟨q, a1, a2⟩, a3⟩ | ⟨e, a1, n, a2, a3, a4⟩ | ⟨e, c, q, a1, a2, a3, a4⟩ | ⟨e, ⟨c, v, a1, a2, a3, a4⟩, a5⟩ | ⟨e, n, a1, a2, a3⟩ | ⟨e, q, a1, a2⟩ | ⟨e, a1, a2⟩ | ⟨e, a1⟩ | e
  · exact Or.inl ⟨e, v, q, a1.step hr hg, a2, a3.step hr hg, hgo a4⟩
  · exact Or.inr (Or.inl ⟨e, hgo a1⟩)
  · exact Or.inr (Or.inr (Or.inl e))
  · exact Or.inr (Or.inr (Or.inr (Or.inl ⟨e, ⟨q, a1.step hr hg, hgo a2⟩, htg a3⟩)))
  · refine Or.inr (Or.inr (Or.inr (Or.inr (Or.inl ⟨e, htg a1, n, a2.step hr hg, a3, fun k hk => ?_⟩))))
    obtain ⟨y, b1, b2, b3, b4, b5, b6, b7⟩ := a4 k hk
    refine ⟨y, b1.step hr hg, hv y b2, (ho y b2).trans b3, (hp y b5).trans b4, hb y b5, b6, fun k' hk' hne => ?_⟩
    obtain ⟨y', c1, c2, c3⟩ := b7 k' hk' hne
    exact ⟨y', c1.step hr hg, c2, c3⟩
  · exact Or.inr (Or.inr (Or.inr (Or.inr (Or.inr (Or.inl ⟨e, c, q, a1.step hr hg, a2, a3.step hr hg, hgo a4⟩)))))
  · exact Or.inr (Or.inr (Or.inr (Or.inr (Or.inr (Or.inr (Or.inl ⟨e, ⟨c, v, a1.step hr hg, a2, a3.step hr hg, a4⟩, hgo a5⟩))))))
  · refine Or.inr (Or.inr (Or.inr (Or.inr (Or.inr (Or.inr (Or.inr (Or.inl ⟨e, n, a1.step hr hg, a2, fun k hk => ?_⟩)))))))
    obtain ⟨⟨e1, q, x, b1, b2, b3, b4⟩, b5⟩ := a3 k hk
    refine ⟨⟨e1, q, x, b1.step hr hg, b2.step hr hg, b3.step hr hg, hgo b4⟩, ?_⟩
    rcases b5 with ⟨c1, c2⟩ | ⟨c, v, c1, c2, c3, c4⟩
    · exact Or.inl ⟨(hr _ (by rw [c1]; omega)).trans c1, (hg _ c1).trans c2⟩
    · exact Or.inr ⟨c, v, c1.step hr hg, c2, c3.step hr hg, c4⟩
  · exact Or.inr (Or.inr (Or.inr (Or.inr (Or.inr (Or.inr (Or.inr (Or.inr (Or.inl ⟨e, q, a1.step hr hg, hgo a2⟩))))))))
  · refine Or.inr (Or.inr (Or.inr (Or.inr (Or.inr (Or.inr (Or.inr (Or.inr (Or.inr (Or.inl ⟨e, htg a1, fun h9 => ?_⟩)))))))))
    obtain ⟨r1, r2⟩ := a1
    obtain ⟨k1, k2⟩ := hh (p + 1) r1
    cases hH : Hl (p + 1) with
    | none =>
      obtain ⟨x, c1, cV, c2⟩ := a2 hH
      refine ⟨x, (k2 hH).2.trans c1, hv x cV, ?_⟩
      rcases c2 with c2 | ⟨c2, c3⟩
      · exact Or.inl c2
      · exact Or.inr ⟨(hg x c3).trans c2, (hr x (by rw [c3]; omega)).trans c3⟩
    | some o =>
      rcases k1 o hH with k3 | ⟨k3, x, k4, k5, k6, k7⟩
      · rw [k3] at h9; cases h9
      · exact ⟨x, k4, k5, Or.inl (by omega)⟩
  · exact Or.inr (Or.inr (Or.inr (Or.inr (Or.inr (Or.inr (Or.inr (Or.inr (Or.inr (Or.inr (Or.inl ⟨e, hgo a1⟩))))))))))
  · exact Or.inr (Or.inr (Or.inr (Or.inr (Or.inr (Or.inr (Or.inr (Or.inr (Or.inr (Or.inr (Or.inr e))))))))))
end WF
