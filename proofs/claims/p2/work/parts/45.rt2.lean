-- ===== 45.rt2: the steps of reading, behind the beginning of a process =====
section RU
variable {f g : Nat → Int32} {a1 nb hd mn ow c : Nat} {jm : Nat → Nat} {L : List m_Lv}
theorem m_S0.branch (h : m_S0 f ((2, hd, mn, ow, c, jm) :: L) a1 nb) (hmn : mn < 4) (ha : a1 < 1200) : m_S1 (upd f (hd + 2 + mn) (Int32.ofNat a1)) ((2, hd, mn + 1, ow, a1, jm) :: L) a1 (nb + 1) := by
  obtain ⟨V, own, pown, bl, role, Hl, hv, h, hV1, hnb⟩ := h
  obtain ⟨⟨⟨l1, l2, l3, l4⟩, l5, l6, l7, l8, l9⟩, ho, hi, hL0⟩ := h.2.2.2.2
  obtain ⟨p1, p2, p3, p4⟩ := l8 rfl
  rcases l6 with l6 | ⟨d1, d2, d3, d4⟩
  · exact absurd l6 (by simp)
  try dsimp only at l5 p1 p2 p3 p4 d1 d2 d3 d4 ho
  have hx : ∀ x, role x ≤ 1 → x ≠ hd + 2 + mn := fun x hx e => by
    have := (p3 (2 + mn) (by omega) (by omega)).1
    rw [show hd + (2 + mn) = hd + 2 + mn by omega, ← e] at this; omega
  have hy : ∀ x, hv x < L.length → x ≠ hd + 2 + mn := fun x hx e => by
    have := (p3 (2 + mn) (by omega) (by omega)).2
    rw [show hd + (2 + mn) = hd + 2 + mn by omega, ← e] at this; omega
  have hn : ∀ x, V x → x ≠ a1 := fun x hx e => hV1 (e ▸ hx)
  refine ⟨fun p => V p ∨ p = a1, fun p => if p = a1 then a1 else own p, fun p => if p = a1 then ow else pown p, a1 :: bl, role, Hl, hv, h.go (E := [(2, hd, mn, ow, c, jm)]) (E' := [(2, hd, mn + 1, ow, a1, jm)]) (Nat.le_refl _) (fun _ _ => rfl) (fun x h1 => upd_n (hx x (by omega))) (fun _ h1 => Or.inl h1) (fun x h1 => if_neg (hn x h1)) (fun y h1 => if_neg (hn y (h.2.2.2.1.1 y h1))) (fun _ h1 => List.mem_cons_of_mem _ h1) (fun a h1 => ⟨fun o ho => Or.inl ho, fun h2 => ⟨h2, upd_n (hx a (by omega))⟩⟩) (fun a h1 => ⟨fun _ _ => ⟨rfl, rfl⟩, fun h2 => ⟨h2, rfl, upd_n (hy a h1)⟩⟩) (fun p hp => ?_) (fun p _ hE => ?_) h.2.1 (fun a o h1 => ?_) (fun y h1 => ?_) (fun hL => ⟨⟨⟨l1, l2, hmn, l4⟩, fun a h1 => l5 a ?_, Or.inr ⟨Or.inl d1, (if_neg (hn _ d1)).trans d2, d3, d4⟩, fun e => absurd e (by simp), fun _ => ⟨(upd_n (hx hd (by omega))).trans p1, p2, p3, fun i h1 => ?_⟩, fun e => absurd e (by simp)⟩, ho, hi, hL⟩), Or.inr rfl, if_pos rfl, by rw [List.length_cons]; omega, ⟨fun e => absurd e (by simp), fun _ => by show 1 ≤ mn + 1; omega⟩⟩
  · rcases hp with hp | hp
    · rcases h.1 p hp with ⟨h1, h2⟩ | h1
      · exact Or.inl ⟨hp, h1⟩
      · exact absurd h1 (hn p hp)
    · exact Or.inr (Or.inr hp)
  · exact hE.elim (fun h1 => Or.inr (Or.inl h1)) (fun h1 => absurd h1 (fun h => h))
  · rcases h.2.2.1 a o h1 with h2 | h2
    · refine Or.inl ?_
      rcases h2 with ⟨e, h3⟩ | ⟨e | e, _⟩ | ⟨e, _⟩ | ⟨e, _⟩
      · exact Or.inl ⟨rfl, h3⟩
      all_goals exact absurd e (by simp)
    · exact Or.inr h2
  · rcases List.mem_cons.mp h1 with h2 | h2
    · exact Or.inr h2
    · exact Or.inl (h.2.2.2.1.1 y h2)
  · rcases h1 with ⟨e, h3⟩ | ⟨e | e, _⟩ | ⟨e, _⟩ | ⟨e, _⟩
    · exact Or.inl ⟨rfl, h3⟩
    all_goals exact absurd e (by simp)
  · try dsimp only at h1 ⊢
    have old : ∀ i, i < mn → ∃ y, y < a1 ∧ upd f (hd + 2 + mn) (Int32.ofNat a1) (hd + 2 + i) = Int32.ofNat y ∧ V y ∧ own y = y ∧ pown y = ow ∧ y ∈ bl ∧ (0 < y ∧ y < 1200) ∧ ∀ i', i' < mn → i' ≠ i → ∃ y', f (hd + 2 + i') = Int32.ofNat y' ∧ y' < 1200 ∧ y' ≠ y := fun i h1 => by
      obtain ⟨y, y1, y2, y3, y4, y5, y6, y7⟩ := p4 i h1
      have e1 := h.vle y2
      have e2 := hn y y2
      exact ⟨y, by omega, (upd_n (by omega)).trans y1, y2, y3, y4, y5, y6, y7⟩
    by_cases e : i = mn
    · subst e
      refine ⟨a1, upd_s, Or.inr rfl, if_pos rfl, if_pos rfl, List.mem_cons_self, ⟨by omega, ha⟩, fun i' hi' hne => ?_⟩
      obtain ⟨y, y0, y1, y2, y3, y4, y5, y6, y7⟩ := old i' (by omega)
      exact ⟨y, y1, y6.2, by omega⟩
    · obtain ⟨y, y0, y1, y2, y3, y4, y5, y6, y7⟩ := old i (by omega)
      refine ⟨y, y1, Or.inl y2, (if_neg (by omega)).trans y3, (if_neg (by omega)).trans y4, List.mem_cons_of_mem _ y5, y6, fun i' hi' hne => ?_⟩
      by_cases e' : i' = mn
      · subst e'
        exact ⟨a1, upd_s, ha, by omega⟩
      · obtain ⟨y', z1, z2, z3⟩ := y7 i' (by omega) hne
        exact ⟨y', (upd_n (by omega)).trans z1, z2, z3⟩
theorem m_S0.guard {q : Nat} (h : m_S0 f ((6, hd, mn, ow, mn, jm) :: L) a1 nb) (hmn : mn < 4) (htk : m_TK g a1 q 1 72) (h24 : g q = 24) (g2 : g (hd + 2 + mn * 4) = Int32.ofNat a1) (g5 : g (hd + 2 + mn * 4 + 3) = Int32.ofNat (q + 1)) (g3 : g (hd + 2 + mn * 4 + 1) = -1 ∨ ∃ c v : Nat, c ≤ 4 ∧ v < 6 ∧ g (hd + 2 + mn * 4 + 1) = Int32.ofNat c ∧ g (hd + 2 + mn * 4 + 2) = Int32.ofNat v)
    (hf : ∀ j, j < a1 → j < hd + 2 + mn * 4 ∨ hd + 2 + mn * 4 + 4 ≤ j → g j = f j) : m_S1 g ((6, hd, mn, ow, mn + 1, jm) :: L) (q + 1) nb := by
  obtain ⟨V, own, pown, bl, role, Hl, hv, h, hV1, hnb⟩ := h
  obtain ⟨⟨⟨l1, l2, l3, l4⟩, l5, l6, l7, l8, l9⟩, ho, hi, hL0⟩ := h.2.2.2.2
  obtain ⟨p1, p2, p3, p5, p4⟩ := l9 rfl
  rcases l6 with l6 | ⟨d1, d2, d3, d4⟩
  · exact absurd l6 (by simp)
  try dsimp only at l5 p1 p2 p3 p4 p5 d1 d2 d3 d4 ho
  have hq := htk.leq
  have hrow : ∀ x, hd + 2 + mn * 4 ≤ x → x < hd + 2 + mn * 4 + 4 → role x = 2 ∧ hv x = L.length := fun x h1 h2 => by
    have := p3 (x - hd) (by omega) (by omega)
    rw [show hd + (x - hd) = x by omega] at this; exact this
  have hx : ∀ x, role x ≤ 1 → g x = f x := fun x h1 => hf x (h.lt (by omega)) (by
    rcases Nat.lt_or_ge x (hd + 2 + mn * 4) with h2 | h2
    · exact Or.inl h2
    · rcases Nat.lt_or_ge x (hd + 2 + mn * 4 + 4) with h3 | h3
      · have := (hrow x h2 h3).1; omega
      · exact Or.inr h3)
  have hy : ∀ x, role x = 2 → hv x < L.length → g x = f x := fun x h0 h1 => hf x (h.lt (by omega)) (by
    rcases Nat.lt_or_ge x (hd + 2 + mn * 4) with h2 | h2
    · exact Or.inl h2
    · rcases Nat.lt_or_ge x (hd + 2 + mn * 4 + 4) with h3 | h3
      · have := (hrow x h2 h3).2; omega
      · exact Or.inr h3)
  have hVlt : ∀ p, V p → p < a1 := fun p hp => by
    rcases h.1 p hp with ⟨h1, h2⟩ | h1
    · exact h1
    · exact absurd hp (h1 ▸ hV1)
  have hrr : ∀ x, role x ≤ 2 → (if a1 ≤ x ∧ x ≤ q then 0 else role x) = role x := fun x h1 => if_neg (by have := h.lt h1; omega)
  refine ⟨fun p => V p ∨ p = q + 1, fun p => if p = q + 1 then ow else own p, pown, bl, fun a => if a1 ≤ a ∧ a ≤ q then 0 else role a, Hl, hv, h.go (E := [(6, hd, mn, ow, mn, jm)]) (E' := [(6, hd, mn, ow, mn + 1, jm)]) (by omega) (fun x h1 => hrr x (by omega)) (fun x h1 => hx x (by omega)) (fun _ h1 => Or.inl h1) (fun x h1 => if_neg (by have := hVlt x h1; omega)) (fun _ _ => rfl) (fun _ h1 => h1) (fun a h1 => ⟨fun o ho => Or.inl ho, fun h2 => ⟨h2, hx a (by omega)⟩⟩) (fun a h1 => ⟨fun _ _ => ⟨rfl, rfl⟩, fun h2 => ⟨(hrr a (by omega)).trans h2, rfl, hy a h2 h1⟩⟩) (fun p hp => ?_) (fun p _ hE => ?_) (fun a h1 => (if_neg (by omega)).trans (h.2.1 a (by omega))) (fun a o h1 => ?_) (fun y h1 => Or.inl (h.2.2.2.1.1 y h1)) (fun hL => ⟨⟨⟨l1, l2, l3, by show hd ≤ q + 1; omega⟩, fun a h1 => ?_, Or.inr ⟨Or.inl d1, (if_neg (by have := hVlt hd d1; show ¬ hd = q + 1; omega)).trans d2, (hrr hd (by omega)).trans d3, by show hd < q + 1; omega⟩, fun e => absurd e (by simp), fun e => absurd e (by simp), fun _ => ⟨(hx hd (by omega)).trans p1, by show hd + 18 ≤ q + 1; omega, fun i i1 i2 => ?_, hmn, fun i h1 => ?_⟩⟩, ho, hi, hL⟩), Or.inr rfl, if_pos rfl, hnb, ⟨fun _ => rfl, fun e => absurd e (by simp)⟩⟩
  · rcases hp with hp | hp
    · exact Or.inl ⟨hp, hVlt p hp⟩
    · exact Or.inr (Or.inr hp)
  · exact hE.elim (fun h1 => Or.inr (Or.inl h1)) (fun h1 => absurd h1 (fun h => h))
  · exact (h.2.2.1 a o h1).elim (fun h2 => Or.inl h2) (fun h2 => Or.inr h2)
  · obtain ⟨b1, b2, b3, b4⟩ := l5 a h1
    exact ⟨(hrr a (by omega)).trans b1, b2, b3, by omega⟩
  · obtain ⟨b1, b2⟩ := p3 i i1 i2
    exact ⟨(hrr (hd + i) (by omega)).trans b1, b2⟩
  · by_cases e : i = mn
    · subst e
      rw [Nat.mul_comm] at g2 g3 g5
      rw [show hd + 2 + 4 * i + 1 = hd + 3 + 4 * i by omega] at g3
      rw [show hd + 2 + 4 * i + 2 = hd + 4 + 4 * i by omega] at g3
      rw [show hd + 2 + 4 * i + 3 = hd + 5 + 4 * i by omega] at g5
      refine ⟨⟨a1, q, q + 1, g2, ⟨htk, h24, fun j j1 j2 => if_pos ⟨j1, j2⟩⟩, g5, Or.inr rfl, if_pos rfl⟩, ?_⟩
      rcases g3 with g3 | ⟨c, v, c1, c2, c3, c4⟩
      · exact Or.inl g3
      · exact Or.inr ⟨c, v, c3, c1, c4, c2⟩
    · have hi : i < mn := by (try dsimp only at h1); omega
      obtain ⟨⟨e1, q', x, r1, r2, r3, r4⟩, r5⟩ := p4 i hi
      have hgi : ∀ j, 1 ≤ j → j ≤ 17 → hd + j < hd + 2 + mn * 4 → g (hd + j) = f (hd + j) := fun j j1 j2 j3 => hf _ (by omega) (Or.inl j3)
      have q2 : g (hd + 2 + 4 * i) = f (hd + 2 + 4 * i) := by have := hgi (2 + 4 * i) (by omega) (by omega) (by omega); rwa [show hd + (2 + 4 * i) = hd + 2 + 4 * i by omega] at this
      have q3 : g (hd + 3 + 4 * i) = f (hd + 3 + 4 * i) := by have := hgi (3 + 4 * i) (by omega) (by omega) (by omega); rwa [show hd + (3 + 4 * i) = hd + 3 + 4 * i by omega] at this
      have q4 : g (hd + 4 + 4 * i) = f (hd + 4 + 4 * i) := by have := hgi (4 + 4 * i) (by omega) (by omega) (by omega); rwa [show hd + (4 + 4 * i) = hd + 4 + 4 * i by omega] at this
      have q5 : g (hd + 5 + 4 * i) = f (hd + 5 + 4 * i) := by have := hgi (5 + 4 * i) (by omega) (by omega) (by omega); rwa [show hd + (5 + 4 * i) = hd + 5 + 4 * i by omega] at this
      unfold m_AR
      rw [q2, q3, q4, q5]
      exact ⟨⟨e1, q', x, r1, r2.step (fun x h1 => hrr x (by omega)) (fun x h1 => hx x (by omega)), r3, ⟨Or.inl r4.1, (if_neg (by have := hVlt _ r4.1; omega)).trans r4.2⟩⟩, r5⟩
/-- a level is taken off: its holes lie at n alone -/
theorem m_RS.top {V : Nat → Prop} {own pown : Nat → Nat} {bl : List Nat} {role : Nat → Nat} {Hl : Nat → Option Nat} {hv : Nat → Nat} {x : m_Lv} (h : m_RS f V own pown bl role Hl hv (x :: L) a1) {a o : Nat} (ha : Hl a = some o) : (hv a = L.length ∧ m_hole x.1 x.2.1 x.2.2.1 x.2.2.2.2.2 a ∧ o = x.2.2.2.1) ∨ (hv a < L.length ∧ m_hs L a) := by
  rcases h.2.2.1 a o ha with h1 | h1
  · obtain ⟨c1, c2, c3, c4⟩ := h.2.2.2.2.1.2.1 a h1
    exact Or.inl ⟨c3, h1, by rw [c2] at ha; exact (Option.some.inj ha).symm⟩
  · exact Or.inr ⟨(m_hs_role h.2.2.2.2.2.2.2 h1).2.1, h1⟩
/-- ')' -/
theorem m_S1.pop1 (h : m_S1 f ((1, hd, mn, ow, c, jm) :: L) a1 nb) : m_S1 f L a1 nb := by
  obtain ⟨V, own, pown, bl, role, Hl, hv, h, hV1, hco, hnb, hi1⟩ := h
  obtain ⟨h1, h2, h3, h4⟩ := h.2.2.2.2
  refine ⟨V, own, pown, bl, role, Hl, hv, h.go (E := [(1, hd, mn, ow, c, jm)]) (E' := []) (Nat.le_refl _) (fun _ _ => rfl) (fun _ _ => rfl) (fun _ hx => hx) (fun _ _ => rfl) (fun _ _ => rfl) (fun _ hy => hy) (fun a _ => ⟨fun o ho => Or.inl ho, fun hn => ⟨hn, rfl⟩⟩) (fun a _ => ⟨fun _ _ => ⟨rfl, rfl⟩, fun h2 => ⟨h2, rfl, rfl⟩⟩) (fun p hp => ?_) (fun p _ hE => ?_) h.2.1 (fun a o ho => ?_) h.2.2.2.1.1 (fun hL => hL), hV1, hco.trans h2, hnb, h3⟩
  · rcases h.1 p hp with ⟨h1, h2⟩ | h1
    · exact Or.inl ⟨hp, h1⟩
    · exact Or.inr (Or.inr h1)
  · rcases hE with ⟨e | e, _⟩ | e
    · exact absurd e (by simp)
    · exact absurd e (by simp)
    · exact absurd e (fun h => h)
  · rcases h.2.2.1 a o ho with h1 | h1
    · rcases h1 with ⟨e, _⟩ | ⟨e | e, _⟩ | ⟨e, _⟩ | ⟨e, _⟩ <;> exact absurd e (by simp)
    · exact h1
/-- '}' -/
theorem m_S0.pop2 (h : m_S0 f ((2, hd, mn, ow, c, jm) :: L) a1 nb) : m_S1 (upd (upd f (hd + 1) (Int32.ofNat mn)) (hd + 6) (Int32.ofNat a1)) L a1 nb := by
  obtain ⟨V, own, pown, bl, role, Hl, hv, h, hV1, hnb⟩ := h
  obtain ⟨⟨⟨l1, l2, l3, l4⟩, l5, l6, l7, l8, l9⟩, ho, hi, hL0⟩ := h.2.2.2.2
  obtain ⟨p1, p2, p3, p4⟩ := l8 rfl
  rcases l6 with l6 | ⟨d1, d2, d3, d4⟩
  · exact absurd l6 (by simp)
  try dsimp only at l3 l5 p1 p2 p3 p4 d1 d2 d3 d4 ho
  obtain ⟨c1, c2, c3, c4⟩ := l5 (hd + 6) (Or.inl ⟨rfl, rfl⟩)
  have hn : ∀ x, V x → x ≠ a1 := fun x hx e => hV1 (e ▸ hx)
  have hr1 := p3 1 (by omega) (by omega)
  have e0 : ∀ x, role x = 0 → upd (upd f (hd + 1) (Int32.ofNat mn)) (hd + 6) (Int32.ofNat a1) x = f x := fun x hx => by
    rw [upd_n (fun e => by rw [e, c1] at hx; omega), upd_n (fun e => by rw [e, hr1.1] at hx; omega)]
  have hrr : ∀ x, role x ≤ 1 → (if hd < x ∧ x ≤ hd + 5 then 0 else role x) = role x := fun x hx => if_neg (fun e => by
    have := (p3 (x - hd) (by omega) (by omega)).1
    rw [show hd + (x - hd) = x by omega] at this; omega)
  have hcl : ∀ x, hd < x → x ≤ hd + 6 → hv x = L.length := fun x h1 h2 => by
    by_cases e : x = hd + 6
    · rw [e]; exact c3
    · have := (p3 (x - hd) (by omega) (by omega)).2
      rw [show hd + (x - hd) = x by omega] at this; exact this
  refine ⟨fun p => V p ∨ p = a1, fun p => if p = a1 then ow else own p, pown, bl, fun a => if hd < a ∧ a ≤ hd + 5 then 0 else role a, fun a => if a = hd + 6 then none else Hl a, hv, h.go (E := [(2, hd, mn, ow, c, jm)]) (E' := []) (Nat.le_refl _) hrr e0 (fun _ h1 => Or.inl h1) (fun x h1 => if_neg (hn x h1)) (fun _ _ => rfl) (fun _ h1 => h1) (fun a h1 => ?_) (fun a h1 => ⟨fun _ _ => ?_, fun h2 => ?_⟩) (fun p hp => ?_) (fun p _ hE => ?_) (fun a ha => ?_) (fun a o h1 => ?_) (fun y h1 => Or.inl (h.2.2.2.1.1 y h1)) (fun hL => hL), Or.inr rfl, (if_pos rfl).trans ho, hnb, hi⟩
  · by_cases e : a = hd + 6
    · subst e
      refine ⟨fun o ho' => Or.inr ⟨if_pos rfl, a1, upd_s, Or.inr rfl, ?_, by omega⟩, fun h9 => by rw [c2] at h9; exact (nomatch h9)⟩
      rw [c2] at ho'
      exact (if_pos rfl).trans (Option.some.inj ho')
    · try dsimp only
      rw [if_neg e]
      refine ⟨fun o ho' => Or.inl ho', fun h9 => ⟨h9, ?_⟩⟩
      rw [upd_n e, upd_n (fun e9 => by rw [e9, hr1.1] at h1; omega)]
  · try dsimp only
    rw [if_neg (fun e => by rw [e, c3] at h1; omega)]
    exact ⟨rfl, rfl⟩
  · have e9 : ¬ (hd < a ∧ a ≤ hd + 6) := fun e => by rw [hcl a e.1 e.2] at h1; omega
    exact ⟨(if_neg (by omega)).trans h2, rfl, by rw [upd_n (by omega), upd_n (by omega)]⟩
  · rcases hp with hp | hp
    · rcases h.1 p hp with ⟨h1, h2⟩ | h1
      · exact Or.inl ⟨hp, h1⟩
      · exact absurd h1 (hn p hp)
    · exact Or.inr (Or.inr hp)
  · rcases hE with ⟨_, e⟩ | e
    · try dsimp only at e
      subst e
      refine Or.inl ⟨(hrr _ (by omega)).trans d3, Or.inr (Or.inr (Or.inr (Or.inr (Or.inl ⟨(e0 _ d3).trans p1, ⟨(hrr _ (by omega)).trans c1, Or.inr ⟨if_pos rfl, a1, upd_s, Or.inr rfl, ?_⟩⟩, mn, ⟨if_pos (by omega), ?_⟩, l3, fun i h1 => ?_⟩))))⟩
      · (try dsimp only); rw [if_pos rfl, if_neg (hn _ d1)]; exact d2.symm
      · rw [upd_n (by omega), upd_s]
      · have hgi : ∀ i, i < mn → m_k (upd (upd f (hd + 1) (Int32.ofNat mn)) (hd + 6) (Int32.ofNat a1)) (fun a => if hd < a ∧ a ≤ hd + 5 then 0 else role a) (hd + 2 + i) (Int32.toNatClampNeg (f (hd + 2 + i))) := fun i hi => by
          obtain ⟨y, y1, y2, y3, y4, y5, y6, y7⟩ := p4 i hi
          refine ⟨if_pos (by omega), ?_⟩
          rw [upd_n (by omega), upd_n (by omega), y1, x_nat (by omega)]
        obtain ⟨y, y1, y2, y3, y4, y5, y6, y7⟩ := p4 i h1
        have k1 := hgi i h1
        rw [y1, x_nat (by omega)] at k1
        refine ⟨y, k1, Or.inl y2, (if_neg (hn _ y2)).trans y3, y4.trans ?_, y5, y6, fun i' hi' hne => ?_⟩
        · exact (d2.symm.trans (if_neg (hn _ d1)).symm)
        · obtain ⟨y', z1, z2, z3⟩ := y7 i' hi' hne
          have k2 := hgi i' hi'
          rw [z1, x_nat (by omega)] at k2
          exact ⟨y', k2, z2, z3⟩
    · exact absurd e (fun h => h)
  · have := h.2.1 a ha
    exact (if_neg (by omega)).trans this
  · try dsimp only at h1
    by_cases e : a = hd + 6
    · rw [if_pos e] at h1; exact (nomatch h1)
    · rw [if_neg e] at h1
      rcases h.2.2.1 a o h1 with h2 | h2
      · rcases h2 with ⟨_, h3⟩ | ⟨e | e, _⟩ | ⟨e, _⟩ | ⟨e, _⟩
        · exact absurd h3 e
        all_goals exact absurd e (by simp)
      · exact h2
/-- ']' -/
theorem m_S0.pop6 (h : m_S0 f ((6, hd, mn, ow, mn, jm) :: L) a1 nb) (hg1 : ∀ j, (∃ k, k < mn ∧ jm k = j) → g j = Int32.ofNat a1) (hg2 : ∀ j, (∀ k, k < mn → jm k ≠ j) → g j = upd f (hd + 1) (Int32.ofNat mn) j) : m_S1 g L a1 nb := by
  obtain ⟨V, own, pown, bl, role, Hl, hv, h, hV1, hnb⟩ := h
  obtain ⟨⟨⟨l1, l2, l3, l4⟩, l5, l6, l7, l8, l9⟩, ho, hi, hL0⟩ := h.2.2.2.2
  obtain ⟨p1, p2, p3, p5, p4⟩ := l9 rfl
  rcases l6 with l6 | ⟨d1, d2, d3, d4⟩
  · exact absurd l6 (by simp)
  try dsimp only at l3 l5 p1 p2 p3 p4 d1 d2 d3 d4 ho
  have hj : ∀ k, k < mn → role (jm k) = 1 ∧ Hl (jm k) = some ow ∧ hv (jm k) = L.length ∧ jm k < a1 := fun k hk => l5 (jm k) (Or.inr (Or.inr (Or.inr ⟨rfl, k, hk, rfl⟩)))
  have hn : ∀ x, V x → x ≠ a1 := fun x hx e => hV1 (e ▸ hx)
  have hr1 := p3 1 (by omega) (by omega)
  have e2 : ∀ x, ¬ role x = 1 → g x = upd f (hd + 1) (Int32.ofNat mn) x := fun x hx => hg2 x (fun k hk e => hx (by rw [← e]; exact (hj k hk).1))
  have e0 : ∀ x, role x = 0 → g x = f x := fun x hx => by
    rw [e2 x (by omega), upd_n (fun e => by rw [e, hr1.1] at hx; omega)]
  have hrr : ∀ x, role x ≤ 1 → (if hd < x ∧ x ≤ hd + 17 then 0 else role x) = role x := fun x hx => if_neg (fun e => by
    have := (p3 (x - hd) (by omega) (by omega)).1
    rw [show hd + (x - hd) = x by omega] at this; omega)
  have hcl : ∀ x, hd < x → x ≤ hd + 17 → role x = 2 ∧ hv x = L.length := fun x h1 h2 => by
    have := p3 (x - hd) (by omega) (by omega)
    rw [show hd + (x - hd) = x by omega] at this; exact this
  refine ⟨fun p => V p ∨ p = a1, fun p => if p = a1 then ow else own p, pown, bl, fun a => if hd < a ∧ a ≤ hd + 17 then 0 else role a, fun a => if role a = 1 ∧ hv a = L.length then none else Hl a, hv, h.go (E := [(6, hd, mn, ow, mn, jm)]) (E' := []) (Nat.le_refl _) hrr e0 (fun _ h1 => Or.inl h1) (fun x h1 => if_neg (hn x h1)) (fun _ _ => rfl) (fun _ h1 => h1) (fun a h1 => ⟨fun o ho' => ?_, fun h9 => ?_⟩) (fun a h1 => ⟨fun _ _ => ?_, fun h2 => ?_⟩) (fun p hp => ?_) (fun p _ hE => ?_) (fun a ha => ?_) (fun a o h1 => ?_) (fun y h1 => Or.inl (h.2.2.2.1.1 y h1)) (fun hL => hL), Or.inr rfl, (if_pos rfl).trans ho, hnb, hi⟩
  · rcases h.top ho' with ⟨t1, t2, t3⟩ | ⟨t1, t2⟩
    · rcases t2 with ⟨e, _⟩ | ⟨e | e, _⟩ | ⟨e, _⟩ | ⟨_, k, hk, ek⟩
      · exact absurd e (by simp)
      · exact absurd e (by simp)
      · exact absurd e (by simp)
      · exact absurd e (by simp)
      · have hlt := h.lt (a := a) (by omega)
        exact Or.inr ⟨if_pos ⟨h1, t1⟩, a1, hg1 a ⟨k, hk, ek.symm⟩, Or.inr rfl, (if_pos rfl).trans t3.symm, by omega⟩
    · exact Or.inl ((if_neg (by omega)).trans ho')
  · refine ⟨?_, ?_⟩
    · (try dsimp only); split
      · rfl
      · exact h9
    · rw [hg2 a (fun k hk e => by rw [← e, (hj k hk).2.1] at h9; exact (nomatch h9)), upd_n (fun e => by rw [e, hr1.1] at h1; omega)]
  · exact ⟨if_neg (by omega), rfl⟩
  · have e9 : ¬ (hd < a ∧ a ≤ hd + 17) := fun e => by rw [(hcl a e.1 e.2).2] at h1; omega
    exact ⟨(if_neg (by omega)).trans h2, rfl, by rw [e2 a (by omega), upd_n (by omega)]⟩
  · rcases hp with hp | hp
    · rcases h.1 p hp with ⟨h1, h2⟩ | h1
      · exact Or.inl ⟨hp, h1⟩
      · exact absurd h1 (hn p hp)
    · exact Or.inr (Or.inr hp)
  · rcases hE with ⟨_, e⟩ | e
    · try dsimp only at e
      subst e
      have eo : (if hd = a1 then ow else own hd) = ow := (if_neg (hn _ d1)).trans d2
      refine Or.inl ⟨(hrr _ (by omega)).trans d3, Or.inr (Or.inr (Or.inr (Or.inr (Or.inr (Or.inr (Or.inr (Or.inl ⟨(e0 _ d3).trans p1, mn, ⟨if_pos (by omega), ?_⟩, l3, fun i h1 => ?_⟩)))))))⟩
      · rw [e2 _ (by rw [hr1.1]; decide), upd_s]
      · have hk : ∀ j, 2 ≤ j → j ≤ 17 → (if hd < hd + j ∧ hd + j ≤ hd + 17 then 0 else role (hd + j)) = 0 ∧ g (hd + j) = f (hd + j) := fun j j1 j2 => ⟨if_pos (by omega), by rw [e2 _ (by rw [(hcl (hd + j) (by omega) (by omega)).1]; decide), upd_n (by omega)]⟩
        have q2 := hk (2 + 4 * i) (by omega) (by omega)
        have q3 := hk (3 + 4 * i) (by omega) (by omega)
        have q4 := hk (4 + 4 * i) (by omega) (by omega)
        have q5 := hk (5 + 4 * i) (by omega) (by omega)
        rw [show hd + (2 + 4 * i) = hd + 2 + 4 * i by omega] at q2
        rw [show hd + (3 + 4 * i) = hd + 3 + 4 * i by omega] at q3
        rw [show hd + (4 + 4 * i) = hd + 4 + 4 * i by omega] at q4
        rw [show hd + (5 + 4 * i) = hd + 5 + 4 * i by omega] at q5
        obtain ⟨⟨e1, q', x, r1, r2, r3, r4⟩, r5⟩ := p4 i h1
        refine ⟨⟨e1, q', x, ⟨q2.1, q2.2.trans r1⟩, r2.step hrr e0, ⟨q5.1, q5.2.trans r3⟩, Or.inl r4.1, ?_⟩, ?_⟩
        · (try dsimp only); rw [if_neg (hn _ r4.1), r4.2]; exact eo.symm
        · rcases r5 with r5 | ⟨c, v, r6, r7, r8, r9⟩
          · exact Or.inl ⟨q3.1, q3.2.trans r5⟩
          · exact Or.inr ⟨c, v, ⟨q3.1, q3.2.trans r6⟩, r7, ⟨q4.1, q4.2.trans r8⟩, r9⟩
    · exact absurd e (fun h => h)
  · have := h.2.1 a ha
    exact (if_neg (by omega)).trans this
  · try dsimp only at h1
    by_cases e : role a = 1 ∧ hv a = L.length
    · rw [if_pos e] at h1; exact (nomatch h1)
    · rw [if_neg e] at h1
      rcases h.top h1 with ⟨t1, t2, t3⟩ | ⟨t1, t2⟩
      · exact absurd ⟨(l5 a t2).1, t1⟩ e
      · exact t2
end RU
