-- ===== 44.rt: the steps of reading =====
section RT
variable {f g : Nat → Int32} {a1 a2 nb : Nat} {L : List m_Lv}
theorem m_S1.plain (h : m_S1 f L a1 nb) (hlt : a1 < a2) (hf : ∀ j, j < a1 → g j = f j)
    (hin : ∀ (V : Nat → Prop) (own pown : Nat → Nat) (bl : List Nat) (role : Nat → Nat) (Hl : Nat → Option Nat), (∀ a, a1 ≤ a → a < a2 → role a = 0) → m_go V own (own a1) a2 → m_in g V own pown bl role Hl a1) : m_S1 g L a2 nb := by
  obtain ⟨V, own, pown, bl, role, Hl, hv, h, hV1, hco, hnb, hi1⟩ := h
  have eo : ∀ x, V x → (if x = a2 then m_co L else own x) = own x := fun x hx => if_neg (by have := h.vle hx; omega)
  have h2 : m_RS g (fun p => V p ∨ p = a2) (fun p => if p = a2 then m_co L else own p) pown bl (fun a => if a1 ≤ a ∧ a < a2 then 0 else role a) Hl hv L a2 := by
    refine h.go (E := []) (E' := []) (by omega) (fun x hx => if_neg (by have := h.lt (a := x) (by omega); omega)) (fun x hx => hf x (h.lt (by omega))) (fun x hx => Or.inl hx) eo (fun _ _ => rfl) (fun _ hy => hy) (fun a ha => ⟨fun o ho => Or.inl ho, fun hn => ⟨hn, hf a (h.lt (by omega))⟩⟩) (fun a ha => ⟨fun _ _ => ⟨rfl, rfl⟩, fun h2 => ⟨(if_neg (by have := h.lt (a := a) (by omega); omega)).trans h2, rfl, hf a (h.lt (by omega))⟩⟩) (fun p hp => ?_) (fun p _ hE => absurd hE (fun h => h)) (fun a ha => (if_neg (by omega)).trans (h.2.1 a (by omega))) h.2.2.1 (fun y hy => Or.inl (h.2.2.2.1.1 y hy)) (fun h => h)
    rcases hp with hp | hp
    · have := h.vle hp
      by_cases e : p = a1
      · subst e
        refine Or.inr (Or.inl ⟨hlt, Or.inl (hin _ _ _ _ _ _ (fun a h1 h2 => if_pos ⟨h1, h2⟩) ⟨Or.inr rfl, ?_⟩)⟩)
        show (if a2 = a2 then m_co L else own a2) = (if p = a2 then m_co L else own p)
        rw [if_pos rfl, if_neg (by omega), hco]
      · exact Or.inl ⟨hp, by omega⟩
    · exact Or.inr (Or.inr hp)
  exact ⟨_, _, _, _, _, _, _, h2, Or.inr rfl, if_pos rfl, hnb, hi1⟩
theorem m_S1.assign {v q : Nat} (h : m_S1 f L a1 nb) (hv : v < 6) (e0 : g a1 = 1) (e1 : g (a1 + 1) = Int32.ofNat v) (htk : m_TK g (a1 + 2) q 1 72) (h24 : g q = 24) (hf : ∀ j, j < a1 → g j = f j) : m_S1 g L (q + 1) nb := by
  have hq := htk.leq
  exact h.plain (by omega) hf (fun V own pown bl role Hl hr hgo => ⟨hr a1 (by omega) (by omega), Or.inl ⟨e0, v, q, ⟨hr _ (by omega) (by omega), e1⟩, hv, ⟨htk, h24, fun j h1 h2 => hr j (by omega) (by omega)⟩, hgo⟩⟩)
theorem m_S1.nothing (h : m_S1 f L a1 nb) (e0 : g a1 = 2) (hf : ∀ j, j < a1 → g j = f j) : m_S1 g L (a1 + 1) nb :=
  h.plain (by omega) hf (fun V own pown bl role Hl hr hgo => ⟨hr a1 (by omega) (by omega), Or.inr (Or.inl ⟨e0, hgo⟩)⟩)
theorem m_S1.stop (h : m_S1 f L a1 nb) (e0 : g a1 = 3) (hf : ∀ j, j < a1 → g j = f j) : m_S1 g L (a1 + 1) nb :=
  h.plain (by omega) hf (fun V own pown bl role Hl hr hgo => ⟨hr a1 (by omega) (by omega), Or.inr (Or.inr (Or.inl e0))⟩)
theorem m_S1.out {c q : Nat} (h : m_S1 f L a1 nb) (hc : c < 4 ∨ c = 5) (e0 : g a1 = 6) (e1 : g (a1 + 1) = Int32.ofNat c) (htk : m_TK g (a1 + 2) q 1 72) (h24 : g q = 24) (hf : ∀ j, j < a1 → g j = f j) : m_S1 g L (q + 1) nb := by
  have hq := htk.leq
  exact h.plain (by omega) hf (fun V own pown bl role Hl hr hgo => ⟨hr a1 (by omega) (by omega), Or.inr (Or.inr (Or.inr (Or.inr (Or.inr (Or.inl ⟨e0, c, q, ⟨hr _ (by omega) (by omega), e1⟩, hc, ⟨htk, h24, fun j h1 h2 => hr j (by omega) (by omega)⟩, hgo⟩)))))⟩)
theorem m_S1.inp {c v : Nat} (h : m_S1 f L a1 nb) (hc : c ≤ 4) (hv : v < 6) (e0 : g a1 = 7) (e1 : g (a1 + 1) = Int32.ofNat c) (e2 : g (a1 + 2) = Int32.ofNat v) (hf : ∀ j, j < a1 → g j = f j) : m_S1 g L (a1 + 3) nb :=
  h.plain (by omega) hf (fun V own pown bl role Hl hr hgo => ⟨hr a1 (by omega) (by omega), Or.inr (Or.inr (Or.inr (Or.inr (Or.inr (Or.inr (Or.inl ⟨e0, ⟨c, v, ⟨hr _ (by omega) (by omega), e1⟩, hc, ⟨hr _ (by omega) (by omega), e2⟩, hv⟩, hgo⟩))))))⟩)
theorem m_S1.delay {q : Nat} (h : m_S1 f L a1 nb) (e0 : g a1 = 9) (htk : m_TK g (a1 + 1) q 1 72) (h24 : g q = 24) (hf : ∀ j, j < a1 → g j = f j) : m_S1 g L (q + 1) nb := by
  have hq := htk.leq
  exact h.plain (by omega) hf (fun V own pown bl role Hl hr hgo => ⟨hr a1 (by omega) (by omega), Or.inr (Or.inr (Or.inr (Or.inr (Or.inr (Or.inr (Or.inr (Or.inr (Or.inl ⟨e0, q, ⟨htk, h24, fun j h1 h2 => hr j (by omega) (by omega)⟩, hgo⟩))))))))⟩)
/-- '(' -/
theorem m_S1.seq (h : m_S1 f L a1 nb) (c : Nat) (jm : Nat → Nat) : m_S1 f ((1, a1, 0, m_co L, c, jm) :: L) a1 nb := by
  obtain ⟨V, own, pown, bl, role, Hl, hv, h, hV1, hco, hnb, hi1⟩ := h
  refine ⟨V, own, pown, bl, role, Hl, hv, h.go (E := []) (E' := [(1, a1, 0, m_co L, c, jm)]) (Nat.le_refl _) (fun _ _ => rfl) (fun _ _ => rfl) (fun _ hx => hx) (fun _ _ => rfl) (fun _ _ => rfl) (fun _ hy => hy) (fun a _ => ⟨fun o ho => Or.inl ho, fun hn => ⟨hn, rfl⟩⟩) (fun a _ => ⟨fun _ _ => ⟨rfl, rfl⟩, fun h2 => ⟨h2, rfl, rfl⟩⟩) (fun p hp => ?_) (fun p _ hE => absurd hE (fun h => h)) h.2.1 (fun a o ho => Or.inr (h.2.2.1 a o ho)) h.2.2.2.1.1 (fun hL => ⟨⟨⟨by simp, by simp, by simp, Nat.le_refl _⟩, fun a ha => ?_, Or.inl rfl, fun e => absurd e (by simp), fun e => absurd e (by simp), fun e => absurd e (by simp)⟩, rfl, hi1, hL⟩), hV1, hco, hnb, ⟨fun e => absurd e (by simp), fun e => absurd e (by simp)⟩⟩
  · rcases h.1 p hp with ⟨h1, h2⟩ | h1
    · exact Or.inl ⟨hp, h1⟩
    · exact Or.inr (Or.inr h1)
  · rcases ha with ⟨e, _⟩ | ⟨e | e, _⟩ | ⟨e, _⟩ | ⟨e, _⟩ <;> exact absurd e (by simp)
/-- '{' -/
theorem m_S1.par (h : m_S1 f L a1 nb) (c : Nat) (jm : Nat → Nat) (e0 : g a1 = 5) (hf : ∀ j, j < a1 → g j = f j) : m_S0 g ((2, a1, 0, m_co L, c, jm) :: L) (a1 + 7) nb := by
  obtain ⟨V, own, pown, bl, role, Hl, hv, h, hV1, hco, hnb, hi1⟩ := h
  refine ⟨V, own, pown, bl, fun a => if a = a1 then 0 else if a1 < a ∧ a ≤ a1 + 5 then 2 else if a = a1 + 6 then 1 else role a, fun a => if a = a1 + 6 then some (m_co L) else Hl a, fun a => if a1 ≤ a ∧ a < a1 + 7 then L.length else hv a, h.go (E := []) (E' := [(2, a1, 0, m_co L, c, jm)]) (by omega) (fun x hx => ?_) (fun x hx => hf x (h.lt (by omega))) (fun _ hx => hx) (fun _ _ => rfl) (fun _ _ => rfl) (fun _ hy => hy) (fun a ha => ?_) (fun a _ => ⟨fun h1 _ => ?_, fun h2 => ?_⟩) (fun p hp => ?_) (fun p _ hE => absurd hE (fun h => h)) (fun a ha => ?_) (fun a o ho => ?_) h.2.2.2.1.1 (fun hL => ⟨⟨⟨by simp, by simp, by simp, by show a1 ≤ a1 + 7; omega⟩, fun a ha => ?_, Or.inr ⟨hV1, hco, if_pos rfl, by show a1 < a1 + 7; omega⟩, fun e => absurd e (by simp), fun _ => ⟨e0, Nat.le_refl _, fun i i1 i2 => ?_, fun i hi => absurd hi (Nat.not_lt_zero i)⟩, fun e => absurd e (by simp)⟩, rfl, hi1, hL⟩), fun h9 => by have := h.vle h9; omega, hnb⟩
  · have := h.lt (a := x) (by omega)
    (try dsimp only); (repeat' split) <;> omega
  · have := h.lt (a := a) (by omega)
    try dsimp only
    rw [if_neg (by omega)]
    exact ⟨fun o ho => Or.inl ho, fun hn => ⟨hn, hf a this⟩⟩
  · have := h.lt (a := a) (by omega)
    try dsimp only
    rw [if_neg (by omega), if_neg (by omega)]
    exact ⟨rfl, rfl⟩
  · have := h.lt (a := a) (by omega)
    try dsimp only
    exact ⟨by (repeat' split) <;> omega, by rw [if_neg (by omega)], hf a this⟩
  · rcases h.1 p hp with ⟨h1, h2⟩ | h1
    · exact Or.inl ⟨hp, h1⟩
    · exact Or.inr (Or.inl ⟨by omega, Or.inr (Or.inl ⟨Or.inl rfl, h1.symm⟩)⟩)
  · have := h.2.1 a (by omega)
    (try dsimp only); (repeat' split) <;> omega
  · by_cases e : a = a1 + 6
    · exact Or.inl (Or.inl ⟨rfl, e⟩)
    · try dsimp only at ho
      rw [if_neg e] at ho
      exact Or.inr (h.2.2.1 a o ho)
  · have e : a = a1 + 6 := by
      rcases ha with ⟨_, e⟩ | ⟨e | e, _⟩ | ⟨e, _⟩ | ⟨e, _⟩
      · exact e
      all_goals exact absurd e (by simp)
    subst e
    try dsimp only
    exact ⟨by (repeat' split) <;> omega, if_pos rfl, if_pos (by omega), by omega⟩
  · try dsimp only
    exact ⟨by (repeat' split) <;> omega, if_pos (by omega)⟩
/-- '[' -/
theorem m_S1.alt (h : m_S1 f L a1 nb) (jm : Nat → Nat) (e0 : g a1 = 8) (hf : ∀ j, j < a1 → g j = f j) : m_S0 g ((6, a1, 0, m_co L, 0, jm) :: L) (a1 + 18) nb := by
  obtain ⟨V, own, pown, bl, role, Hl, hv, h, hV1, hco, hnb, hi1⟩ := h
  refine ⟨V, own, pown, bl, fun a => if a = a1 then 0 else if a1 < a ∧ a ≤ a1 + 17 then 2 else role a, Hl, fun a => if a1 ≤ a ∧ a < a1 + 18 then L.length else hv a, h.go (E := []) (E' := [(6, a1, 0, m_co L, 0, jm)]) (by omega) (fun x hx => ?_) (fun x hx => hf x (h.lt (by omega))) (fun _ hx => hx) (fun _ _ => rfl) (fun _ _ => rfl) (fun _ hy => hy) (fun a ha => ⟨fun o ho => Or.inl ho, fun hn => ⟨hn, hf a (h.lt (by omega))⟩⟩) (fun a _ => ⟨fun h1 _ => ?_, fun h2 => ?_⟩) (fun p hp => ?_) (fun p _ hE => absurd hE (fun h => h)) (fun a ha => ?_) (fun a o ho => Or.inr (h.2.2.1 a o ho)) h.2.2.2.1.1 (fun hL => ⟨⟨⟨by simp, by simp, by simp, by show a1 ≤ a1 + 18; omega⟩, fun a ha => ?_, Or.inr ⟨hV1, hco, if_pos rfl, by show a1 < a1 + 18; omega⟩, fun e => absurd e (by simp), fun e => absurd e (by simp), fun _ => ⟨e0, Nat.le_refl _, fun i i1 i2 => ?_, Nat.zero_le _, fun i hi => absurd hi (Nat.not_lt_zero i)⟩⟩, rfl, hi1, hL⟩), fun h9 => by have := h.vle h9; omega, hnb⟩
  · have := h.lt (a := x) (by omega)
    (try dsimp only); (repeat' split) <;> omega
  · have := h.lt (a := a) (by omega)
    try dsimp only
    rw [if_neg (by omega)]
    exact ⟨rfl, rfl⟩
  · have := h.lt (a := a) (by omega)
    try dsimp only
    exact ⟨by (repeat' split) <;> omega, by rw [if_neg (by omega)], hf a this⟩
  · rcases h.1 p hp with ⟨h1, h2⟩ | h1
    · exact Or.inl ⟨hp, h1⟩
    · exact Or.inr (Or.inl ⟨by omega, Or.inr (Or.inl ⟨Or.inr rfl, h1.symm⟩)⟩)
  · have := h.2.1 a (by omega)
    (try dsimp only); (repeat' split) <;> omega
  · rcases ha with ⟨e, _⟩ | ⟨e | e, _⟩ | ⟨e, _⟩ | ⟨_, i, hi, _⟩
    · exact absurd e (by simp)
    · exact absurd e (by simp)
    · exact absurd e (by simp)
    · exact absurd e (by simp)
    · exact absurd hi (Nat.not_lt_zero i)
  · try dsimp only
    exact ⟨by (repeat' split) <;> omega, if_pos (by omega)⟩
/-- '^', '?' -/
theorem m_S1.test {k q : Nat} (h : m_S1 f L a1 nb) (hk : k = 3 ∨ k = 4) (c : Nat) (jm : Nat → Nat) (e0 : g a1 = 4) (htk : m_TK g (a1 + 2) q 1 72) (h24 : g q = 24) (hf : ∀ j, j < a1 → g j = f j) : m_S1 g ((k, a1, 0, m_co L, c, jm) :: L) (q + 1) nb := by
  obtain ⟨V, own, pown, bl, role, Hl, hv, h, hV1, hco, hnb, hi1⟩ := h
  have hq := htk.leq
  have hk2 : ¬ k = 2 := by omega
  refine ⟨fun p => V p ∨ p = q + 1, fun p => if p = q + 1 then m_co L else own p, pown, bl, fun a => if a = a1 + 1 then 1 else if a1 ≤ a ∧ a ≤ q then 0 else role a, fun a => if a = a1 + 1 then some (m_co L) else Hl a, fun a => if a1 ≤ a ∧ a ≤ q then L.length else hv a, h.go (E := []) (E' := [(k, a1, 0, m_co L, c, jm)]) (by omega) (fun x hx => ?_) (fun x hx => hf x (h.lt (by omega))) (fun _ hx => Or.inl hx) (fun x hx => if_neg (by have := h.vle hx; omega)) (fun _ _ => rfl) (fun _ hy => hy) (fun a ha => ?_) (fun a _ => ⟨fun h1 _ => ?_, fun h2 => ?_⟩) (fun p hp => ?_) (fun p _ hE => absurd hE (fun h => h)) (fun a ha => ?_) (fun a o ho => ?_) (fun y hy => Or.inl (h.2.2.2.1.1 y hy)) (fun hL => ⟨⟨⟨by show 1 ≤ k; omega, by show k ≤ 6; omega, by simp, by show a1 ≤ q + 1; omega⟩, fun a ha => ?_, Or.inr ⟨Or.inl hV1, (if_neg (by show ¬ a1 = q + 1; omega)).trans hco, ?_, by show a1 < q + 1; omega⟩, fun _ => e0, fun e => absurd e hk2, fun e => absurd e (by show ¬ k = 6; omega)⟩, rfl, hi1, hL⟩), Or.inr rfl, ?_, hnb, ⟨fun e => absurd e (by show ¬ k = 6; omega), fun e => absurd e hk2⟩⟩
  · have := h.lt (a := x) (by omega)
    (try dsimp only); (repeat' split) <;> omega
  · have := h.lt (a := a) (by omega)
    try dsimp only
    rw [if_neg (by omega)]
    exact ⟨fun o ho => Or.inl ho, fun hn => ⟨hn, hf a this⟩⟩
  · have := h.lt (a := a) (by omega)
    try dsimp only
    rw [if_neg (by omega), if_neg (by omega)]
    exact ⟨rfl, rfl⟩
  · have := h.lt (a := a) (by omega)
    try dsimp only
    exact ⟨by (repeat' split) <;> omega, by rw [if_neg (by omega)], hf a this⟩
  · rcases hp with hp | hp
    · rcases h.1 p hp with ⟨h1, h2⟩ | h1
      · exact Or.inl ⟨hp, h1⟩
      · subst h1
        refine Or.inr (Or.inl ⟨by omega, Or.inl ⟨?_, Or.inr (Or.inr (Or.inr (Or.inl ⟨e0, ⟨q, ⟨htk, h24, fun j j1 j2 => ?_⟩, Or.inr rfl, ?_⟩, ?_, Or.inl ?_⟩)))⟩⟩)
        · (try dsimp only); (repeat' split) <;> omega
        · (try dsimp only); (repeat' split) <;> omega
        · try dsimp only
          rw [if_pos rfl, if_neg (by omega), hco]
        · (try dsimp only); (repeat' split) <;> omega
        · try dsimp only
          rw [if_pos rfl, if_neg (by omega), hco]
    · exact Or.inr (Or.inr hp)
  · have := h.2.1 a (by omega)
    (try dsimp only); (repeat' split) <;> omega
  · by_cases e : a = a1 + 1
    · exact Or.inl (Or.inr (Or.inl ⟨hk, e⟩))
    · try dsimp only at ho
      rw [if_neg e] at ho
      exact Or.inr (h.2.2.1 a o ho)
  · have e : a = a1 + 1 := by
      rcases ha with ⟨e, _⟩ | ⟨_, e⟩ | ⟨e, _⟩ | ⟨e, _⟩
      · exact absurd e hk2
      · exact e
      · exact absurd e (by show ¬ k = 5; omega)
      · exact absurd e (by show ¬ k = 6; omega)
    subst e
    try dsimp only
    exact ⟨by (repeat' split) <;> omega, if_pos rfl, if_pos (by omega), by omega⟩
  · (try dsimp only); (repeat' split) <;> omega
  · show (if q + 1 = q + 1 then m_co L else own (q + 1)) = if k = 2 then c else m_co L
    rw [if_pos rfl, if_neg hk2]
end RT
