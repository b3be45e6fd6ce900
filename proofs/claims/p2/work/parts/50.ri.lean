-- ===== 50.ri: the state while a program runs =====
theorem m_pig : ∀ (n : Nat) (f : Nat → Nat) (L : List Nat), (∀ i, i < n → f i ∈ L) → (∀ i j, i < n → j < n → f i = f j → i = j) → n ≤ L.length := by
  intro n
  induction n with
  | zero => intro f L _ _; exact Nat.zero_le _
  | succ n ih =>
    intro f L h1 h2
    have hm := h1 n (by omega)
    have h3 := ih f (L.erase (f n)) (fun i hi => (List.mem_erase_of_ne (fun e => by have := h2 i n (by omega) (by omega) e; omega)).mpr (h1 i (by omega))) (fun i j hi hj e => h2 i j (by omega) (by omega) e)
    have h4 := List.length_erase_of_mem hm
    have h5 : 0 < L.length := List.length_pos_of_mem hm
    omega
/-- how many of the first n tasks are there and have the parent p -/
def m_kc (th pa : Nat → Int32) (p : Nat) : Nat → Nat
  | 0 => 0
  | n + 1 => m_kc th pa p n + (if ¬ th n = 0 ∧ pa n = Int32.ofNat p then 1 else 0)
theorem m_kc_same {th pa th' pa' : Nat → Int32} {p : Nat} : ∀ n, (∀ t, t < n → (¬ th' t = 0 ∧ pa' t = Int32.ofNat p ↔ ¬ th t = 0 ∧ pa t = Int32.ofNat p)) → m_kc th' pa' p n = m_kc th pa p n := by
  intro n
  induction n with
  | zero => intro _; rfl
  | succ n ih =>
    intro h
    show m_kc th' pa' p n + _ = m_kc th pa p n + _
    rw [ih (fun t ht => h t (by omega))]
    have := h n (by omega)
    by_cases e : ¬ th n = 0 ∧ pa n = Int32.ofNat p
    · rw [if_pos e, if_pos (this.mpr e)]
    · rw [if_neg e, if_neg (fun h9 => e (this.mp h9))]
theorem m_kc_set {th pa th' pa' : Nat → Int32} {p t0 : Nat} : ∀ n, t0 < n → (∀ t, t < n → t ≠ t0 → th' t = th t ∧ pa' t = pa t) → m_kc th' pa' p n + (if ¬ th t0 = 0 ∧ pa t0 = Int32.ofNat p then 1 else 0) = m_kc th pa p n + (if ¬ th' t0 = 0 ∧ pa' t0 = Int32.ofNat p then 1 else 0) := by
  intro n
  induction n with
  | zero => intro h; omega
  | succ n ih =>
    intro ht h
    show m_kc th' pa' p n + _ + _ = m_kc th pa p n + _ + _
    by_cases e : t0 = n
    · subst e
      rw [m_kc_same t0 (fun t h1 => by obtain ⟨a, b⟩ := h t (by omega) (by omega); rw [a, b])]
      omega
    · have h1 := ih (by omega) (fun t h1 h2 => h t (by omega) h2)
      obtain ⟨a, b⟩ := h n (by omega) (by omega)
      rw [a, b]
      omega
theorem m_kc_pos {th pa : Nat → Int32} {p t : Nat} : ∀ n, t < n → ¬ th t = 0 → pa t = Int32.ofNat p → 1 ≤ m_kc th pa p n := by
  intro n
  induction n with
  | zero => intro h; omega
  | succ n ih =>
    intro ht h1 h2
    show 1 ≤ m_kc th pa p n + _
    by_cases e : t = n
    · subst e; rw [if_pos ⟨h1, h2⟩]; omega
    · have := ih (by omega) h1 h2; omega
theorem m_kc_le {th pa : Nat → Int32} {p : Nat} : ∀ n, m_kc th pa p n ≤ n := by
  intro n
  induction n with
  | zero => exact Nat.le_refl _
  | succ n ih =>
    show m_kc th pa p n + _ ≤ n + 1
    split <;> omega
def m_al (A : Nat → Nat → Int32) (t : Nat) : Prop := ¬ A 27 t = 0
/-- the tasks: those that are there, by their branches and parents; st: 0 nothing, 1 in the queue, 2 current, 3 timed, 4 reader, 5 writer -/
def m_TS (A : Nat → Nat → Int32) (V : Nat → Prop) (own pown : Nat → Nat) (bl : List Nat) (pn br st : Nat → Nat) : Prop :=
  (∀ t, t < 90 → m_al A t → A 20 t = Int32.ofNat (pn t) ∧ V (pn t) ∧ own (pn t) = br t ∧ br t ∈ bl) ∧
  (∀ t t', t < 90 → t' < 90 → m_al A t → m_al A t' → br t = br t' → t = t') ∧
  (∀ t, t < 90 → m_al A t → (A 21 t = -1 ∧ br t = 0) ∨ ∃ p, p < 90 ∧ A 21 t = Int32.ofNat p ∧ m_al A p ∧ br p = pown (br t)) ∧
  (∀ t, t < 90 → m_al A t → A 22 t = Int32.ofNat (m_kc (A 27) (A 21) t 90)) ∧
  (∀ t, t < 90 → m_al A t → st t ≠ 0 → m_kc (A 27) (A 21) t 90 = 0)
def m_QU (A : Nat → Nat → Int32) (st : Nat → Nat) (q : Nat) : Prop :=
  q ≤ 90 ∧ (∀ i, i < q → ∃ t, t < 90 ∧ A 24 i = Int32.ofNat t ∧ m_al A t ∧ st t = 1) ∧ ∀ i j, i < q → j < q → A 24 i = A 24 j → i = j
def m_CH (A : Nat → Nat → Int32) (V : Nat → Prop) (own br st : Nat → Nat) : Prop :=
  (∀ t, t < 90 → m_al A t → ¬ A 28 t = 0 → st t = 3) ∧
  (∀ c, c < 6 → A 35 c = -1 ∨ ∃ t v x, t < 90 ∧ A 35 c = Int32.ofNat t ∧ m_al A t ∧ st t = 4 ∧ A 36 c = Int32.ofNat v ∧ v < 6 ∧ A 37 c = Int32.ofNat x ∧ V x ∧ own x = br t) ∧
  (∀ c, c < 6 → A 38 c = -1 ∨ ∃ t, t < 90 ∧ A 38 c = Int32.ofNat t ∧ m_al A t ∧ st t = 5) ∧
  (∀ c c', c < 6 → c' < 6 → A 38 c = A 38 c' → ¬ A 38 c = -1 → c = c')
def m_RI (A : Nat → Nat → Int32) (q : Nat) (V : Nat → Prop) (own pown : Nat → Nat) (bl : List Nat) (role : Nat → Nat) (n : Nat) (pn br st : Nat → Nat) : Prop :=
  (m_WF (A 1) V own pown bl role n ∧ n ≤ 1001) ∧ m_TS A V own pown bl pn br st ∧ m_QU A st q ∧ m_CH A V own br st
theorem x_n1 {a : Nat} (h : a < 2147483648) : ¬ Int32.ofNat a = -1 := fun e => by
  have h1 := x_nI h
  rw [e] at h1
  have h2 : (-1 : Int32).toInt = -1 := by decide
  omega
theorem x_inj {a b : Nat} (ha : a < 2147483648) (hb : b < 2147483648) (h : Int32.ofNat a = Int32.ofNat b) : a = b := (x_eqN ha hb).mp h
section RI
variable {A A' : Nat → Nat → Int32} {q : Nat} {V : Nat → Prop} {own pown : Nat → Nat} {bl : List Nat} {role : Nat → Nat} {n : Nat} {pn br st : Nat → Nat}
theorem m_RI.frame (h : m_RI A q V own pown bl role n pn br st) (hA : ∀ k, k ∈ [1, 20, 21, 22, 24, 27, 28, 35, 36, 37, 38] → A' k = A k) : m_RI A' q V own pown bl role n pn br st := by
  unfold m_RI m_TS m_QU m_CH m_al at *
  (try dsimp only); rw [hA 1 (by decide), hA 20 (by decide), hA 21 (by decide), hA 22 (by decide), hA 24 (by decide), hA 27 (by decide), hA 28 (by decide), hA 35 (by decide), hA 36 (by decide), hA 37 (by decide), hA 38 (by decide)]
  exact h
theorem m_RI.fa {S : List Nat} (h : m_RI A q V own pown bl role n pn br st) (hA : m_fa S A A') (hS : ∀ k, k ∈ [1, 20, 21, 22, 24, 27, 28, 35, 36, 37, 38] → k ∉ S) : m_RI A' q V own pown bl role n pn br st := h.frame (fun k hk => hA k (hS k hk))
/-- a free place -/
theorem m_RI.place (h : m_RI A q V own pown bl role n pn br st) : ¬ ∀ t, t < 90 → m_al A t := fun h9 => by
  have h1 := m_pig 90 br bl (fun i hi => (h.2.1.1 i hi (h9 i hi)).2.2.2) (fun i j hi hj e => h.2.1.2.1 i j hi hj (h9 i hi) (h9 j hj) e)
  have := h.1.1.2.2.2.2.2
  omega
/-- st of one task that has nothing becomes 2, or back -/
theorem m_RI.st20 {t : Nat} (h : m_RI A q V own pown bl role n pn br st) (ht : st t = 2) : m_RI A q V own pown bl role n pn br (fun x => if x = t then 0 else st x) := by
  obtain ⟨h1, ⟨t1, t2, t3, t4, t5⟩, ⟨q1, q2, q3⟩, c1, c2, c3, c4⟩ := h
  have hs : ∀ x, st x ≠ 2 → (if x = t then 0 else st x) = st x := fun x hx => if_neg (fun e => hx (by rw [e]; exact ht))
  refine ⟨h1, ⟨t1, t2, t3, t4, fun x hx ha hne => t5 x hx ha (fun e => hne ?_)⟩, ⟨q1, fun i hi => ?_, q3⟩, fun x hx ha hne => ?_, fun c hc => ?_, fun c hc => ?_, c4⟩
  · (try dsimp only); split
    · rfl
    · exact e
  · obtain ⟨x, x1, x2, x3, x4⟩ := q2 i hi
    exact ⟨x, x1, x2, x3, (hs x (by omega)).trans x4⟩
  · have := c1 x hx ha hne
    exact (hs x (by omega)).trans this
  · rcases c2 c hc with e | ⟨x, v, y, x1, x2, x3, x4, x5⟩
    · exact Or.inl e
    · exact Or.inr ⟨x, v, y, x1, x2, x3, (hs x (by omega)).trans x4, x5⟩
  · rcases c3 c hc with e | ⟨x, x1, x2, x3, x4⟩
    · exact Or.inl e
    · exact Or.inr ⟨x, x1, x2, x3, (hs x (by omega)).trans x4⟩
theorem m_RI.st02 {t : Nat} (h : m_RI A q V own pown bl role n pn br st) (ht : st t = 0) (hk : m_kc (A 27) (A 21) t 90 = 0) : m_RI A q V own pown bl role n pn br (fun x => if x = t then 2 else st x) := by
  obtain ⟨h1, ⟨t1, t2, t3, t4, t5⟩, ⟨q1, q2, q3⟩, c1, c2, c3, c4⟩ := h
  have hs : ∀ x, st x ≠ 0 → (if x = t then 2 else st x) = st x := fun x hx => if_neg (fun e => hx (by rw [e]; exact ht))
  refine ⟨h1, ⟨t1, t2, t3, t4, fun x hx ha hne => ?_⟩, ⟨q1, fun i hi => ?_, q3⟩, fun x hx ha hne => ?_, fun c hc => ?_, fun c hc => ?_, c4⟩
  · by_cases e : x = t
    · (try dsimp only); rw [e]; exact hk
    · try dsimp only at hne
      rw [if_neg e] at hne
      exact t5 x hx ha hne
  · obtain ⟨x, x1, x2, x3, x4⟩ := q2 i hi
    exact ⟨x, x1, x2, x3, (hs x (by omega)).trans x4⟩
  · have := c1 x hx ha hne
    exact (hs x (by omega)).trans this
  · rcases c2 c hc with e | ⟨x, v, y, x1, x2, x3, x4, x5⟩
    · exact Or.inl e
    · exact Or.inr ⟨x, v, y, x1, x2, x3, (hs x (by omega)).trans x4, x5⟩
  · rcases c3 c hc with e | ⟨x, x1, x2, x3, x4⟩
    · exact Or.inl e
    · exact Or.inr ⟨x, x1, x2, x3, (hs x (by omega)).trans x4⟩
/-- a task goes into the queue -/
theorem m_RI.put {t : Nat} (h : m_RI A q V own pown bl role n pn br st) (ht : t < 90) (ha : m_al A t) (hs0 : st t = 0) (hk : m_kc (A 27) (A 21) t 90 = 0) : q < 90 ∧ m_RI (m_up A 24 (upd (A 24) q (Int32.ofNat t))) (q + 1) V own pown bl role n pn br (fun x => if x = t then 1 else st x) := by
  obtain ⟨h1, ⟨t1, t2, t3, t4, t5⟩, ⟨q1, q2, q3⟩, c1, c2, c3, c4⟩ := h
  have hs : ∀ x, st x ≠ 0 → (if x = t then 1 else st x) = st x := fun x hx => if_neg (fun e => hx (by rw [e]; exact hs0))
  have hqt : ∀ i, i < q → ¬ A 24 i = Int32.ofNat t := fun i hi e => by
    obtain ⟨x, x1, x2, x3, x4⟩ := q2 i hi
    rw [x2] at e
    have := x_inj (by omega) (by omega) e
    rw [this] at x4; omega
  have hq : q + 1 ≤ 90 := by
    have h9 := m_pig (q + 1) (fun i => if i = q then t else Int32.toNatClampNeg (A 24 i)) (List.range 90) (fun i hi => ?_) (fun i j hi hj e => ?_)
    · rw [List.length_range] at h9; exact h9
    · (try dsimp only); rw [List.mem_range]
      by_cases e : i = q
      · (try dsimp only); rw [if_pos e]; exact ht
      · (try dsimp only); rw [if_neg e]
        obtain ⟨x, x1, x2, x3, x4⟩ := q2 i (by omega)
        (try dsimp only); rw [x2, x_nat (by omega)]; exact x1
    · try dsimp only at e
      by_cases e1 : i = q
      · by_cases e2 : j = q
        · omega
        · rw [if_pos e1, if_neg e2] at e
          obtain ⟨x, x1, x2, x3, x4⟩ := q2 j (by omega)
          rw [x2, x_nat (by omega)] at e
          rw [e] at hs0; omega
      · by_cases e2 : j = q
        · rw [if_neg e1, if_pos e2] at e
          obtain ⟨x, x1, x2, x3, x4⟩ := q2 i (by omega)
          rw [x2, x_nat (by omega)] at e
          rw [← e] at hs0; omega
        · rw [if_neg e1, if_neg e2] at e
          obtain ⟨x, x1, x2, x3, x4⟩ := q2 i (by omega)
          obtain ⟨y, y1, y2, y3, y4⟩ := q2 j (by omega)
          rw [x2, y2, x_nat (by omega), x_nat (by omega)] at e
          exact q3 i j (by omega) (by omega) (by rw [x2, y2, e])
  refine ⟨by omega, h1, ⟨t1, t2, t3, t4, fun x hx hax hne => ?_⟩, ⟨hq, fun i hi => ?_, fun i j hi hj e => ?_⟩, fun x hx ha hne => ?_, fun c hc => ?_, fun c hc => ?_, c4⟩
  · by_cases e : x = t
    · (try dsimp only); rw [e]; exact hk
    · try dsimp only at hne
      rw [if_neg e] at hne
      exact t5 x hx hax hne
  · by_cases e : i = q
    · subst e
      exact ⟨t, ht, upd_s, ha, if_pos rfl⟩
    · obtain ⟨x, x1, x2, x3, x4⟩ := q2 i (by omega)
      exact ⟨x, x1, (upd_n e).trans x2, x3, (hs x (by omega)).trans x4⟩
  · have e : upd (A 24) q (Int32.ofNat t) i = upd (A 24) q (Int32.ofNat t) j := e
    by_cases e1 : i = q
    · by_cases e2 : j = q
      · omega
      · rw [e1, upd_s, upd_n e2] at e
        exact absurd e.symm (hqt j (by omega))
    · by_cases e2 : j = q
      · rw [e2, upd_s, upd_n e1] at e
        exact absurd e (hqt i (by omega))
      · rw [upd_n e1, upd_n e2] at e
        exact q3 i j (by omega) (by omega) e
  · have := c1 x hx ha hne
    exact (hs x (by omega)).trans this
  · rcases c2 c hc with e | ⟨x, v, y, x1, x2, x3, x4, x5⟩
    · exact Or.inl e
    · exact Or.inr ⟨x, v, y, x1, x2, x3, (hs x (by omega)).trans x4, x5⟩
  · rcases c3 c hc with e | ⟨x, x1, x2, x3, x4⟩
    · exact Or.inl e
    · exact Or.inr ⟨x, x1, x2, x3, (hs x (by omega)).trans x4⟩
/-- the first of the queue becomes the current one -/
theorem m_RI.pop (h : m_RI A q V own pown bl role n pn br st) (hq : 1 ≤ q) (hA : m_fa [24] A A') (h1 : ∀ j, j + 1 < q → A' 24 j = A 24 (j + 1)) : ∃ t, t < 90 ∧ A 24 0 = Int32.ofNat t ∧ m_al A t ∧ st t = 1 ∧ m_RI A' (q - 1) V own pown bl role n pn br (fun x => if x = t then 2 else st x) := by
  obtain ⟨h0, ⟨t1, t2, t3, t4, t5⟩, ⟨q1, q2, q3⟩, c1, c2, c3, c4⟩ := h
  obtain ⟨t, x1, x2, x3, x4⟩ := q2 0 (by omega)
  have hs : ∀ x, st x ≠ 1 → (if x = t then 2 else st x) = st x := fun x hx => if_neg (fun e => hx (by rw [e]; exact x4))
  have e27 : A' 27 = A 27 := hA 27 (by decide)
  have hal : ∀ x, m_al A' x ↔ m_al A x := fun x => by unfold m_al; rw [e27]
  refine ⟨t, x1, x2, x3, x4, ⟨by rw [hA 1 (by decide)]; exact h0.1, h0.2⟩, ?_, ⟨by omega, fun i hi => ?_, fun i j hi hj e => ?_⟩, ?_⟩
  · unfold m_TS m_al
    (try dsimp only); rw [hA 20 (by decide), hA 21 (by decide), hA 22 (by decide), e27]
    refine ⟨t1, t2, t3, t4, fun x hx ha hne => t5 x hx ha (fun e => hne ?_)⟩
    (try dsimp only); rw [hs x (by omega)]; exact e
  · obtain ⟨y, y1, y2, y3, y4⟩ := q2 (i + 1) (by omega)
    refine ⟨y, y1, (h1 i (by omega)).trans y2, (hal y).mpr y3, ?_⟩
    (try dsimp only); rw [if_neg (fun e => ?_)]
    · exact y4
    · rw [e, ← x2] at y2
      have := q3 (i + 1) 0 (by omega) (by omega) y2
      omega
  · rw [h1 i (by omega), h1 j (by omega)] at e
    have := q3 _ _ (by omega) (by omega) e
    omega
  · unfold m_CH m_al
    (try dsimp only); rw [hA 28 (by decide), hA 35 (by decide), hA 36 (by decide), hA 37 (by decide), hA 38 (by decide), e27]
    refine ⟨fun x hx ha hne => ?_, fun c hc => ?_, fun c hc => ?_, c4⟩
    · have := c1 x hx ha hne
      exact (hs x (by omega)).trans this
    · rcases c2 c hc with e | ⟨x, v, y, x1, x2, x3, x4, x5⟩
      · exact Or.inl e
      · exact Or.inr ⟨x, v, y, x1, x2, x3, (hs x (by omega)).trans x4, x5⟩
    · rcases c3 c hc with e | ⟨x, x1, x2, x3, x4⟩
      · exact Or.inl e
      · exact Or.inr ⟨x, x1, x2, x3, (hs x (by omega)).trans x4⟩
/-- a task goes to another address -/
theorem m_RI.pc {t x : Nat} (h : m_RI A q V own pown bl role n pn br st) (hx : V x) (ho : own x = br t) : m_RI (m_up A 20 (upd (A 20) t (Int32.ofNat x))) q V own pown bl role n (fun y => if y = t then x else pn y) br st := by
  obtain ⟨h1, ⟨t1, t2, t3, t4, t5⟩, h3, h4⟩ := h
  refine ⟨h1, ⟨fun y hy ha => ?_, t2, t3, t4, t5⟩, h3, h4⟩
  obtain ⟨a1, a2, a3, a4⟩ := t1 y hy ha
  by_cases e : y = t
  · subst e
    refine ⟨?_, ?_, ?_, a4⟩
    · show upd (A 20) y (Int32.ofNat x) y = _
      (try dsimp only); rw [upd_s, if_pos rfl]
    · (try dsimp only); rw [if_pos rfl]; exact hx
    · (try dsimp only); rw [if_pos rfl]; exact ho
  · refine ⟨?_, ?_, ?_, a4⟩
    · show upd (A 20) t (Int32.ofNat x) y = _
      (try dsimp only); rw [upd_n e, if_neg e]; exact a1
    · (try dsimp only); rw [if_neg e]; exact a2
    · (try dsimp only); rw [if_neg e]; exact a3
/-- a task is timed, or no longer -/
theorem m_RI.untime {t : Nat} (h : m_RI A q V own pown bl role n pn br st) (hs3 : st t = 3) : m_RI (m_up A 28 (upd (A 28) t 0)) q V own pown bl role n pn br (fun x => if x = t then 0 else st x) := by
  obtain ⟨h1, ⟨t1, t2, t3, t4, t5⟩, ⟨q1, q2, q3⟩, c1, c2, c3, c4⟩ := h
  have hs : ∀ x, st x ≠ 3 → (if x = t then 0 else st x) = st x := fun x hx => if_neg (fun e => hx (by rw [e]; exact hs3))
  refine ⟨h1, ⟨t1, t2, t3, t4, fun x hx ha hne => t5 x hx ha (fun e => hne ?_)⟩, ⟨q1, fun i hi => ?_, q3⟩, fun x hx ha hne => ?_, fun c hc => ?_, fun c hc => ?_, c4⟩
  · (try dsimp only); split
    · rfl
    · exact e
  · obtain ⟨x, x1, x2, x3, x4⟩ := q2 i hi
    exact ⟨x, x1, x2, x3, (hs x (by omega)).trans x4⟩
  · have hne : ¬ upd (A 28) t 0 x = 0 := hne
    by_cases e : x = t
    · rw [e, upd_s] at hne; exact absurd rfl hne
    · rw [upd_n e] at hne
      try dsimp only
      (try dsimp only); rw [if_neg e]; exact c1 x hx ha hne
  · rcases c2 c hc with e | ⟨x, v, y, x1, x2, x3, x4, x5⟩
    · exact Or.inl e
    · exact Or.inr ⟨x, v, y, x1, x2, x3, (hs x (by omega)).trans x4, x5⟩
  · rcases c3 c hc with e | ⟨x, x1, x2, x3, x4⟩
    · exact Or.inl e
    · exact Or.inr ⟨x, x1, x2, x3, (hs x (by omega)).trans x4⟩
theorem m_RI.time {t : Nat} (h : m_RI A q V own pown bl role n pn br st) (hs0 : st t = 0) (hk : m_kc (A 27) (A 21) t 90 = 0) : m_RI (m_up A 28 (upd (A 28) t 1)) q V own pown bl role n pn br (fun x => if x = t then 3 else st x) := by
  obtain ⟨h1, ⟨t1, t2, t3, t4, t5⟩, ⟨q1, q2, q3⟩, c1, c2, c3, c4⟩ := h
  have hs : ∀ x, st x ≠ 0 → (if x = t then 3 else st x) = st x := fun x hx => if_neg (fun e => hx (by rw [e]; exact hs0))
  refine ⟨h1, ⟨t1, t2, t3, t4, fun x hx ha hne => ?_⟩, ⟨q1, fun i hi => ?_, q3⟩, fun x hx ha hne => ?_, fun c hc => ?_, fun c hc => ?_, c4⟩
  · by_cases e : x = t
    · (try dsimp only); rw [e]; exact hk
    · try dsimp only at hne
      rw [if_neg e] at hne
      exact t5 x hx ha hne
  · obtain ⟨x, x1, x2, x3, x4⟩ := q2 i hi
    exact ⟨x, x1, x2, x3, (hs x (by omega)).trans x4⟩
  · have hne : ¬ upd (A 28) t 1 x = 0 := hne
    by_cases e : x = t
    · exact if_pos e
    · rw [upd_n e] at hne
      have := c1 x hx ha hne
      exact (if_neg e).trans this
  · rcases c2 c hc with e | ⟨x, v, y, x1, x2, x3, x4, x5⟩
    · exact Or.inl e
    · exact Or.inr ⟨x, v, y, x1, x2, x3, (hs x (by omega)).trans x4, x5⟩
  · rcases c3 c hc with e | ⟨x, x1, x2, x3, x4⟩
    · exact Or.inl e
    · exact Or.inr ⟨x, x1, x2, x3, (hs x (by omega)).trans x4⟩
end RI
