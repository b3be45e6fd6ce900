-- ===== 35.es: the pile of operators while expression reads =====
def m_nx (st : Nat → Nat) (b O j : Nat) : Nat := if j = b then O else st (j + 1)
def m_us (st : Nat → Nat) (k x : Nat) : Nat → Nat := fun j => if j = k then x else st j
/-- brackets open b, operators O, their ranks rk, where each bracket's begin st; od: an operand is due -/
def m_ES (rk : Nat → Int32) (st : Nat → Nat) (b O dp od : Nat) : Prop :=
  st 0 = 0 ∧ (∀ j, j < b → st j ≤ st (j + 1)) ∧ st b ≤ O ∧
  (∀ j i, j ≤ b → st j ≤ i → i < m_nx st b O j → rk i = 4 ∨ ∃ q : Nat, rk i = Int32.ofNat q ∧ 1 ≤ q ∧ q ≤ 3 ∧ i + 1 ≤ st j + q) ∧
  (∀ j i, j ≤ b → st j ≤ i → i + 1 < m_nx st b O j → rk i = 4 → rk (i + 1) = 4) ∧
  (∀ j, j ≤ b → m_nb rk (st j) ≤ 3 * j) ∧ dp + m_nb rk O = 1 + b + O ∧ dp ≤ 5 ∧ (od = 0 → ∀ i, st b ≤ i → i < O → ¬ rk i = 4)
theorem m_nx_b {st : Nat → Nat} {b O : Nat} : m_nx st b O b = O := by simp [m_nx]
theorem m_nx_lt {st : Nat → Nat} {b O j : Nat} (h : j < b) : m_nx st b O j = st (j + 1) := by simp [m_nx, show j ≠ b by omega]
theorem m_nb_le (rk : Nat → Int32) (i : Nat) : m_nb rk i ≤ i := by
  induction i with
  | zero => exact Nat.le_refl _
  | succ i ih =>
    show m_nb rk i + (if rk i = 4 then 0 else 1) ≤ i + 1
    split <;> omega
theorem m_nb_mono (rk : Nat → Int32) (i : Nat) : ∀ k, m_nb rk i ≤ m_nb rk (i + k) ∧ m_nb rk (i + k) ≤ m_nb rk i + k := by
  intro k
  induction k with
  | zero => exact ⟨Nat.le_refl _, Nat.le_refl _⟩
  | succ k ih =>
    have e : m_nb rk (i + (k + 1)) = m_nb rk (i + k) + (if rk (i + k) = 4 then 0 else 1) := rfl
    rw [e]
    split <;> omega
theorem m_nb_upd {rk : Nat → Int32} {o : Nat} {x : Int32} : ∀ i, i ≤ o → m_nb (upd rk o x) i = m_nb rk i := by
  intro i
  induction i with
  | zero => intro _; rfl
  | succ i ih =>
    intro h
    show m_nb (upd rk o x) i + (if upd rk o x i = 4 then 0 else 1) = m_nb rk i + (if rk i = 4 then 0 else 1)
    rw [ih (by omega), upd_n (by omega)]
/-- binary ones stand only at the first three places from s0 on -/
theorem m_nb_3 {rk : Nat → Int32} {s0 : Nat} : ∀ k, (∀ i, s0 ≤ i → i < s0 + k → rk i = 4 ∨ i < s0 + 3) → m_nb rk (s0 + k) ≤ m_nb rk s0 + 3 := by
  intro k
  induction k with
  | zero => intro _; exact Nat.le_add_right _ _
  | succ k ih =>
    intro h
    have e : m_nb rk (s0 + (k + 1)) = m_nb rk (s0 + k) + (if rk (s0 + k) = 4 then 0 else 1) := rfl
    have h1 := ih (fun i h2 h3 => h i h2 (by omega))
    rcases h (s0 + k) (by omega) (by omega) with h2 | h2
    · rw [e, if_pos h2]; omega
    · have := (m_nb_mono rk s0 (k + 1)).2
      omega
theorem m_ES.bin {rk : Nat → Int32} {st : Nat → Nat} {b O dp od : Nat} (h : m_ES rk st b O dp od) : m_nb rk O ≤ 3 * b + 3 := by
  obtain ⟨h1, h2, h3, h4, h5, h6, h7, h8, h9⟩ := h
  obtain ⟨k, rfl⟩ : ∃ k, O = st b + k := ⟨O - st b, by omega⟩
  have e := m_nb_3 (rk := rk) (s0 := st b) k (fun i q1 q2 => by
    rcases h4 b i (Nat.le_refl b) q1 (by rw [m_nx_b]; exact q2) with h | ⟨q, _, q3, q4, q5⟩
    · exact Or.inl h
    · exact Or.inr (by omega))
  have := h6 b (Nat.le_refl b)
  omega
theorem m_ES.small {rk : Nat → Int32} {st : Nat → Nat} {b O dp od : Nat} (h : m_ES rk st b O dp od) : b ≤ 4 ∧ O ≤ 19 ∧ b + 1 ≤ dp ∧ st b ≤ O := by
  have e := h.bin
  have e2 := m_nb_le rk O
  obtain ⟨h1, h2, h3, h4, h5, h6, h7, h8, h9⟩ := h
  omega
theorem m_ES.start {rk : Nat → Int32} {st : Nat → Nat} (h : st 0 = 0) : m_ES rk st 0 0 1 1 := by
  refine ⟨h, fun j h => absurd h (Nat.not_lt_zero j), by omega, fun j i h1 h2 h3 => ?_, fun j i h1 h2 h3 => ?_, fun j hj => ?_, rfl, by omega, fun h => absurd h (by omega)⟩
  · rw [show j = 0 by omega, m_nx_b] at h3; omega
  · rw [show j = 0 by omega, m_nx_b] at h3; omega
  · rw [show j = 0 by omega, h]; exact Nat.le_refl _
theorem m_ES.neg {rk : Nat → Int32} {st : Nat → Nat} {b O dp : Nat} (h : m_ES rk st b O dp 1) (hd : dp ≤ 4) : m_ES (upd rk O 4) st b (O + 1) (dp + 1) 1 := by
  obtain ⟨h1, h2, h3, h4, h5, h6, h7, h8, h9⟩ := h
  have hst : ∀ j, j ≤ b → st j ≤ st b := by
    have : ∀ k j, j + k = b → st j ≤ st b := by
      intro k
      induction k with
      | zero => intro j hj; rw [show j = b by omega]; exact Nat.le_refl _
      | succ k ih => intro j hj; exact Nat.le_trans (h2 j (by omega)) (ih (j + 1) (by omega))
    exact fun j hj => this (b - j) j (by omega)
  refine ⟨h1, h2, by omega, fun j i q1 q2 q3 => ?_, fun j i q1 q2 q3 q4 => ?_, fun j hj => ?_, ?_, by omega, fun h => absurd h (by omega)⟩
  · by_cases e : i = O
    · left; rw [e, upd_s]
    · rw [upd_n e]
      refine h4 j i q1 q2 ?_
      by_cases ej : j = b
      · rw [ej, m_nx_b] at q3 ⊢; omega
      · rw [m_nx_lt (by omega)] at q3 ⊢; exact q3
  · by_cases e : i + 1 = O
    · rw [e, upd_s]
    · by_cases ej : j = b
      · rw [ej, m_nx_b] at q3
        rw [upd_n (by omega)] at q4 ⊢
        exact h5 j i q1 q2 (by rw [ej, m_nx_b]; omega) q4
      · rw [m_nx_lt (by omega)] at q3
        have := hst (j + 1) (by omega)
        rw [upd_n (by omega)] at q4
        rw [upd_n (by omega)]
        exact h5 j i q1 q2 (by rw [m_nx_lt (by omega)]; exact q3) q4
  · rw [m_nb_upd _ (by have := hst j hj; omega)]; exact h6 j hj
  · have e : m_nb (upd rk O 4) (O + 1) = m_nb (upd rk O 4) O + (if upd rk O 4 O = 4 then 0 else 1) := rfl
    rw [e, upd_s, if_pos rfl, m_nb_upd O (Nat.le_refl O)]; omega
theorem m_ES.mono {rk : Nat → Int32} {st : Nat → Nat} {b O dp od : Nat} (h : m_ES rk st b O dp od) : ∀ j, j ≤ b → st j ≤ st b := by
  have : ∀ k j, j + k = b → st j ≤ st b := by
    intro k
    induction k with
    | zero => intro j hj; rw [show j = b by omega]; exact Nat.le_refl _
    | succ k ih => intro j hj; exact Nat.le_trans (h.2.1 j (by omega)) (ih (j + 1) (by omega))
  exact fun j hj => this (b - j) j (by omega)
theorem m_us_n {st : Nat → Nat} {k x j : Nat} (h : j ≠ k) : m_us st k x j = st j := by simp [m_us, h]
theorem m_us_s {st : Nat → Nat} {k x : Nat} : m_us st k x k = x := by simp [m_us]
theorem m_ES.opn {rk : Nat → Int32} {st : Nat → Nat} {b O dp : Nat} (h : m_ES rk st b O dp 1) (hd : dp ≤ 4) : m_ES rk (m_us st (b + 1) O) (b + 1) O (dp + 1) 1 := by
  have hbin := h.bin
  obtain ⟨h1, h2, h3, h4, h5, h6, h7, h8, h9⟩ := h
  have hn : ∀ j, j ≤ b → m_nx (m_us st (b + 1) O) (b + 1) O j = m_nx st b O j := fun j hj => by
    rw [m_nx_lt (by omega)]
    by_cases e : j = b
    · rw [e, m_us_s, m_nx_b]
    · rw [m_us_n (by omega), m_nx_lt (by omega)]
  refine ⟨by rw [m_us_n (by omega)]; exact h1, fun j hj => ?_, by rw [m_us_s]; exact Nat.le_refl _, fun j i q1 q2 q3 => ?_, fun j i q1 q2 q3 q4 => ?_, fun j hj => ?_, by omega, by omega, fun h => absurd h (by omega)⟩
  · by_cases e : j = b
    · rw [e, m_us_s, m_us_n (by omega)]; exact h3
    · rw [m_us_n (by omega), m_us_n (by omega)]; exact h2 j (by omega)
  · by_cases e : j = b + 1
    · rw [e, m_us_s] at q2; rw [e, m_nx_b] at q3; omega
    · rw [hn j (by omega)] at q3; rw [m_us_n (by omega)] at q2 ⊢; exact h4 j i (by omega) q2 q3
  · by_cases e : j = b + 1
    · rw [e, m_us_s] at q2; rw [e, m_nx_b] at q3; omega
    · rw [hn j (by omega)] at q3; rw [m_us_n (by omega)] at q2; exact h5 j i (by omega) q2 q3 q4
  · by_cases e : j = b + 1
    · rw [e, m_us_s]; omega
    · rw [m_us_n (by omega)]; exact h6 j (by omega)
theorem m_ES.pop {rk : Nat → Int32} {st : Nat → Nat} {b O dp : Nat} (h : m_ES rk st b O dp 1) (ho : st b < O) (h4' : rk (O - 1) = 4) : m_ES rk st b (O - 1) (dp - 1) 1 := by
  have hs := h.small
  obtain ⟨h1, h2, h3, h4, h5, h6, h7, h8, h9⟩ := h
  have e := m_nb_s (rk := rk) (o := O) (by omega)
  rw [if_pos h4'] at e
  refine ⟨h1, h2, by omega, fun j i q1 q2 q3 => h4 j i q1 q2 ?_, fun j i q1 q2 q3 q4 => h5 j i q1 q2 ?_ q4, h6, by omega, by omega, fun h => absurd h (by omega)⟩
  · by_cases ej : j = b
    · rw [ej, m_nx_b] at q3 ⊢; omega
    · rw [m_nx_lt (by omega)] at q3 ⊢; exact q3
  · by_cases ej : j = b
    · rw [ej, m_nx_b] at q3 ⊢; omega
    · rw [m_nx_lt (by omega)] at q3 ⊢; exact q3
theorem m_ES.done {rk : Nat → Int32} {st : Nat → Nat} {b O dp : Nat} (h : m_ES rk st b O dp 1) (ht : O ≤ st b ∨ ¬ rk (O - 1) = 4) : m_ES rk st b O dp 0 := by
  obtain ⟨h1, h2, h3, h4, h5, h6, h7, h8, h9⟩ := h
  refine ⟨h1, h2, h3, h4, h5, h6, h7, h8, fun _ i q1 q2 q3 => ?_⟩
  rcases ht with ht | ht
  · omega
  · have : ∀ k j, j + k + 1 = O → st b ≤ j → rk j = 4 → rk (O - 1) = 4 := by
      intro k
      induction k with
      | zero => intro j hj _ h; rw [show O - 1 = j by omega]; exact h
      | succ k ih => intro j hj hb h; exact ih (j + 1) (by omega) (by omega) (h5 b j (Nat.le_refl b) hb (by rw [m_nx_b]; omega) h)
    exact ht (this (O - 1 - i) i (by omega) q1 q3)
theorem m_ES.binp {rk : Nat → Int32} {st : Nat → Nat} {b O dp O' q : Nat} (h : m_ES rk st b O dp 0) (l1 : st b ≤ O') (l2 : O' ≤ O) (hq : 1 ≤ q) (hq3 : q ≤ 3) (ht : O' = st b ∨ rk (O' - 1) < Int32.ofNat q) : m_ES (upd rk O' (Int32.ofNat q)) st b (O' + 1) dp 1 := by
  have hm := h.mono
  have hs := h.small
  obtain ⟨h1, h2, h3, h4, h5, h6, h7, h8, h9⟩ := h
  have hne : ¬ Int32.ofNat q = 4 := fun e => by
    have := (x_eqN (a := q) (b := 4) (by omega) (by omega)).mp e
    omega
  have hno := h9 rfl
  have hcnt : ∀ k, O' + k = O → m_nb rk O = m_nb rk O' + k := by
    intro k hk
    have : ∀ k, O' + k ≤ O → m_nb rk (O' + k) = m_nb rk O' + k := by
      intro k
      induction k with
      | zero => intro _; rfl
      | succ k ih =>
        intro hk
        have e : m_nb rk (O' + (k + 1)) = m_nb rk (O' + k) + (if rk (O' + k) = 4 then 0 else 1) := rfl
        rw [e, if_neg (hno (O' + k) (by omega) (by omega)), ih (by omega)]; omega
    rw [← hk]; exact this k (by omega)
  have hc := hcnt (O - O') (by omega)
  refine ⟨h1, h2, by omega, fun j i q1 q2 q3 => ?_, fun j i q1 q2 q3 q4 => ?_, fun j hj => ?_, ?_, by omega, fun h => absurd h (by omega)⟩
  · by_cases e : i = O'
    · right
      have ej : j = b := by
        by_cases ej : j = b
        · exact ej
        · rw [m_nx_lt (by omega)] at q3
          have := hm (j + 1) (by omega)
          omega
      refine ⟨q, by rw [e, upd_s], hq, hq3, ?_⟩
      rw [ej, e]
      rcases ht with ht | ht
      · omega
      · by_cases e2 : O' = st b
        · omega
        · rcases h4 b (O' - 1) (Nat.le_refl b) (by omega) (by rw [m_nx_b]; omega) with h | ⟨q', a1, a2, a3, a4⟩
          · exact absurd h (hno (O' - 1) (by omega) (by omega))
          · rw [a1] at ht
            have := (x_ltN (by omega) (by omega)).mp ht
            omega
    · rw [upd_n e]
      refine h4 j i q1 q2 ?_
      by_cases ej : j = b
      · rw [ej, m_nx_b] at q3 ⊢; omega
      · rw [m_nx_lt (by omega)] at q3 ⊢; exact q3
  · by_cases ej : j = b
    · rw [ej, m_nx_b] at q3
      rw [upd_n (by omega)] at q4
      exact absurd q4 (hno i (by rw [← ej]; exact q2) (by omega))
    · rw [m_nx_lt (by omega)] at q3
      have := hm (j + 1) (by omega)
      rw [upd_n (by omega)] at q4 ⊢
      exact h5 j i q1 q2 (by rw [m_nx_lt (by omega)]; exact q3) q4
  · rw [m_nb_upd _ (by have := hm j hj; omega)]; exact h6 j hj
  · have e : m_nb (upd rk O' (Int32.ofNat q)) (O' + 1) = m_nb (upd rk O' (Int32.ofNat q)) O' + (if upd rk O' (Int32.ofNat q) O' = 4 then 0 else 1) := rfl
    rw [e, upd_s, if_neg hne, m_nb_upd O' (Nat.le_refl O')]; omega
/-- a bracket closes: all of its operators are written -/
theorem m_ES.cls {rk : Nat → Int32} {st : Nat → Nat} {b O dp O' : Nat} (h : m_ES rk st b O dp 0) (hb : 1 ≤ b) (l1 : st b ≤ O') (l2 : O' ≤ O) (ht : O' = st b ∨ rk (O' - 1) < 1) : m_ES rk st (b - 1) O' (dp - 1) 1 ∧ O' = st b := by
  have hm := h.mono
  have hs := h.small
  obtain ⟨h1, h2, h3, h4, h5, h6, h7, h8, h9⟩ := h
  have hno := h9 rfl
  have e : O' = st b := by
    rcases ht with ht | ht
    · exact ht
    · by_cases e2 : O' = st b
      · exact e2
      · rcases h4 b (O' - 1) (Nat.le_refl b) (by omega) (by rw [m_nx_b]; omega) with h | ⟨q', a1, a2, a3, a4⟩
        · exact absurd h (hno (O' - 1) (by omega) (by omega))
        · rw [a1] at ht
          have := (x_ltN (a := q') (b := 1) (by omega) (by omega)).mp ht
          omega
  have hcnt : m_nb rk O = m_nb rk O' + (O - O') := by
    have : ∀ k, O' + k ≤ O → m_nb rk (O' + k) = m_nb rk O' + k := by
      intro k
      induction k with
      | zero => intro _; rfl
      | succ k ih =>
        intro hk
        have e : m_nb rk (O' + (k + 1)) = m_nb rk (O' + k) + (if rk (O' + k) = 4 then 0 else 1) := rfl
        rw [e, if_neg (hno (O' + k) (by omega) (by omega)), ih (by omega)]; omega
    have h := this (O - O') (by omega)
    rw [show O' + (O - O') = O by omega] at h
    exact h
  have hn : ∀ j, j ≤ b - 1 → m_nx st (b - 1) O' j = m_nx st b O j := fun j hj => by
    rw [m_nx_lt (b := b) (by omega)]
    by_cases ej : j = b - 1
    · rw [ej, m_nx_b, e]; congr 1; omega
    · rw [m_nx_lt (by omega)]
  refine ⟨⟨h1, fun j hj => h2 j (by omega), ?_, fun j i q1 q2 q3 => h4 j i (by omega) q2 (by rw [← hn j q1]; exact q3), fun j i q1 q2 q3 q4 => h5 j i (by omega) q2 (by rw [← hn j q1]; exact q3) q4, fun j hj => h6 j (by omega), by omega, by omega, fun h => absurd h (by omega)⟩, e⟩
  rw [e]; exact hm (b - 1) (by omega)
