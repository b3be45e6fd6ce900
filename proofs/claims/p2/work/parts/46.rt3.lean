-- ===== 46.rt3: the steps behind a process that is read =====
section RV
variable {f g : Nat → Int32} {a1 nb hd mn ow c : Nat} {jm : Nat → Nat} {L : List m_Lv}
/-- END of a branch -/
theorem m_S1.go2 (h : m_S1 f L a1 nb) (e0 : g a1 = 12) (hf : ∀ j, j < a1 → g j = f j) : m_S0 g L (a1 + 1) nb := by
  obtain ⟨V, own, pown, bl, role, Hl, hv, h, hV1, hco, hnb, hi1⟩ := h
  refine ⟨V, own, pown, bl, fun a => if a = a1 then 0 else role a, Hl, hv, h.go (E := []) (E' := []) (by omega) (fun x hx => if_neg (by have := h.lt (a := x) (by omega); omega)) (fun x hx => hf x (h.lt (by omega))) (fun _ hx => hx) (fun _ _ => rfl) (fun _ _ => rfl) (fun _ hy => hy) (fun a ha => ⟨fun o ho => Or.inl ho, fun hn => ⟨hn, hf a (h.lt (by omega))⟩⟩) (fun a _ => ⟨fun _ _ => ⟨rfl, rfl⟩, fun h2 => ⟨(if_neg (by have := h.lt (a := a) (by omega); omega)).trans h2, rfl, hf a (h.lt (by omega))⟩⟩) (fun p hp => ?_) (fun p _ hE => absurd hE (fun h => h)) (fun a ha => (if_neg (by omega)).trans (h.2.1 a (by omega))) h.2.2.1 h.2.2.2.1.1 (fun hL => hL), fun h9 => by have := h.vle h9; omega, hnb⟩
  rcases h.1 p hp with ⟨h1, h2⟩ | h1
  · exact Or.inl ⟨hp, h1⟩
  · subst h1
    exact Or.inr (Or.inl ⟨by omega, Or.inl ⟨if_pos rfl, Or.inr (Or.inr (Or.inr (Or.inr (Or.inr (Or.inr (Or.inr (Or.inr (Or.inr (Or.inr (Or.inr e0))))))))))⟩⟩)
/-- the end of a LOOP -/
theorem m_S1.go3 (h : m_S1 f ((3, hd, mn, ow, c, jm) :: L) a1 nb) (e0 : g a1 = 11) (e1 : g (a1 + 1) = 10) (e2 : g (a1 + 2) = Int32.ofNat hd) (e3 : g (hd + 1) = Int32.ofNat (a1 + 3)) (hf : ∀ j, j < a1 → j ≠ hd + 1 → g j = f j) : m_S1 g L (a1 + 3) nb := by
  obtain ⟨V, own, pown, bl, role, Hl, hv, h, hV1, hco, hnb, hi1⟩ := h
  obtain ⟨⟨⟨l1, l2, l3, l4⟩, l5, l6, l7, l8, l9⟩, ho, hi, hL0⟩ := h.2.2.2.2
  rcases l6 with l6 | ⟨d1, d2, d3, d4⟩
  · exact absurd l6 (by simp)
  try dsimp only at l5 d1 d2 d3 d4 ho
  have l7 := l7 rfl
  try dsimp only at l7
  have hco : own a1 = ow := hco
  obtain ⟨c1, c2, c3, c4⟩ := l5 (hd + 1) (Or.inr (Or.inl ⟨Or.inl rfl, rfl⟩))
  have hx : ∀ x, role x ≤ 2 → x ≠ hd + 1 → g x = f x := fun x h1 h2 => hf x (h.lt h1) h2
  have ho' : ∀ x, V x → (if a1 < x then ow else own x) = own x := fun x hx => if_neg (by have := h.vle hx; omega)
  have hrr : ∀ x, role x ≤ 2 → (if a1 ≤ x ∧ x ≤ a1 + 1 then 0 else if x = a1 + 2 then 1 else role x) = role x := fun x hx => by have := h.lt hx; (repeat' split) <;> omega
  refine ⟨fun p => V p ∨ p = a1 + 1 ∨ p = a1 + 3, fun p => if a1 < p then ow else own p, pown, bl, fun a => if a1 ≤ a ∧ a ≤ a1 + 1 then 0 else if a = a1 + 2 then 1 else role a, fun a => if a = hd + 1 then none else Hl a, hv, h.go (E := [(3, hd, mn, ow, c, jm)]) (E' := []) (by omega) (fun x hx => hrr x (by omega)) (fun x h1 => hx x (by omega) (fun e => by rw [e, c1] at h1; omega)) (fun _ h1 => Or.inl h1) ho' (fun _ _ => rfl) (fun _ h1 => h1) (fun a h1 => ?_) (fun a h1 => ⟨fun _ _ => ?_, fun h2 => ?_⟩) (fun p hp => ?_) (fun p _ hE => ?_) (fun a ha => ?_) (fun a o h1 => ?_) (fun y h1 => Or.inl (h.2.2.2.1.1 y h1)) (fun hL => hL), Or.inr (Or.inr rfl), (if_pos (by omega)).trans ho, hnb, hi⟩
  · by_cases e : a = hd + 1
    · subst e
      refine ⟨fun o ho' => Or.inr ⟨if_pos rfl, a1 + 3, e3, Or.inr (Or.inr rfl), ?_, by omega⟩, fun h9 => by rw [c2] at h9; exact (nomatch h9)⟩
      rw [c2] at ho'
      exact (if_pos (by omega)).trans (Option.some.inj ho')
    · try dsimp only
      rw [if_neg e]
      exact ⟨fun o ho' => Or.inl ho', fun h9 => ⟨h9, hx a (by omega) e⟩⟩
  · try dsimp only
    rw [if_neg (fun e => by rw [e, c3] at h1; omega)]
    exact ⟨rfl, rfl⟩
  · exact ⟨(hrr a (by omega)).trans h2, rfl, hx a (by omega) (fun e => by rw [e, c1] at h2; omega)⟩
  · rcases hp with hp | hp | hp
    · rcases h.1 p hp with ⟨h1, h2⟩ | h1
      · exact Or.inl ⟨hp, h1⟩
      · subst h1
        refine Or.inr (Or.inl ⟨by omega, Or.inl ⟨if_pos (by omega), Or.inr (Or.inr (Or.inr (Or.inr (Or.inr (Or.inr (Or.inr (Or.inr (Or.inr (Or.inr (Or.inl ⟨e0, Or.inr (Or.inl rfl), ?_⟩))))))))))⟩⟩)
        (try dsimp only); rw [if_pos (by omega), if_neg (by omega)]; exact hco.symm
    · subst hp
      have hhd := h.vle d1
      refine Or.inr (Or.inl ⟨by omega, Or.inl ⟨if_pos (by omega), Or.inr (Or.inr (Or.inr (Or.inr (Or.inr (Or.inr (Or.inr (Or.inr (Or.inr (Or.inl ⟨e1, ⟨?_, Or.inr ⟨?_, hd, e2, Or.inl d1, ?_⟩⟩, fun _ => ⟨hd, e2, Or.inl d1, Or.inr ⟨(hx hd (by omega) (by omega)).trans l7, (hrr hd (by omega)).trans d3⟩⟩⟩)))))))))⟩⟩)
      · (try dsimp only); (repeat' split) <;> omega
      · try dsimp only
        rw [if_neg (by omega)]
        cases hH : Hl (a1 + 1 + 1) with
        | none => rfl
        | some o =>
          have := (m_hs_role h.2.2.2.2 (h.2.2.1 _ _ hH)).2.2
          omega
      · (try dsimp only); rw [if_neg (by omega), if_pos (by omega)]; exact d2
    · exact Or.inr (Or.inr hp)
  · rcases hE with ⟨e | e, _⟩ | e
    · exact absurd e (by simp)
    · exact absurd e (by simp)
    · exact absurd e (fun h => h)
  · have := h.2.1 a (by omega)
    (try dsimp only); (repeat' split) <;> omega
  · try dsimp only at h1
    by_cases e : a = hd + 1
    · rw [if_pos e] at h1; exact (nomatch h1)
    · rw [if_neg e] at h1
      rcases h.2.2.1 a o h1 with h2 | h2
      · rcases h2 with ⟨e, _⟩ | ⟨_, h3⟩ | ⟨e, _⟩ | ⟨e, _⟩
        · exact absurd e (by simp)
        · exact absurd h3 e
        · exact absurd e (by simp)
        · exact absurd e (by simp)
      · exact h2
/-- between the two parts of a CONDITION -/
theorem m_S1.go4 {jm' : Nat → Nat} {c' : Nat} (h : m_S1 f ((4, hd, mn, ow, c, jm) :: L) a1 nb) (e0 : g a1 = 10) (e3 : g (hd + 1) = Int32.ofNat (a1 + 2)) (hj : jm' 0 = a1 + 1) (hf : ∀ j, j < a1 → j ≠ hd + 1 → g j = f j) : m_S1 g ((5, hd, mn, ow, c', jm') :: L) (a1 + 2) nb := by
  obtain ⟨V, own, pown, bl, role, Hl, hv, h, hV1, hco, hnb, hi1⟩ := h
  obtain ⟨⟨⟨l1, l2, l3, l4⟩, l5, l6, l7, l8, l9⟩, ho, hi, hL0⟩ := h.2.2.2.2
  rcases l6 with l6 | ⟨d1, d2, d3, d4⟩
  · exact absurd l6 (by simp)
  try dsimp only at l3 l5 d1 d2 d3 d4 ho
  have hco : own a1 = ow := hco
  obtain ⟨c1, c2, c3, c4⟩ := l5 (hd + 1) (Or.inr (Or.inl ⟨Or.inr rfl, rfl⟩))
  have hx : ∀ x, role x ≤ 2 → x ≠ hd + 1 → g x = f x := fun x h1 h2 => hf x (h.lt h1) h2
  have ho' : ∀ x, V x → (if a1 < x then ow else own x) = own x := fun x hx => if_neg (by have := h.vle hx; omega)
  have hrr : ∀ x, role x ≤ 2 → (if x = a1 then 0 else if x = a1 + 1 then 1 else role x) = role x := fun x hx => by have := h.lt hx; (repeat' split) <;> omega
  refine ⟨fun p => V p ∨ p = a1 + 2, fun p => if a1 < p then ow else own p, pown, bl, fun a => if a = a1 then 0 else if a = a1 + 1 then 1 else role a, fun a => if a = a1 + 1 then some ow else if a = hd + 1 then none else Hl a, fun a => if a = a1 + 1 then L.length else hv a, h.go (E := [(4, hd, mn, ow, c, jm)]) (E' := [(5, hd, mn, ow, c', jm')]) (by omega) (fun x hx => hrr x (by omega)) (fun x h1 => hx x (by omega) (fun e => by rw [e, c1] at h1; omega)) (fun _ h1 => Or.inl h1) ho' (fun _ _ => rfl) (fun _ h1 => h1) (fun a h1 => ?_) (fun a h1 => ⟨fun h0 _ => ?_, fun h2 => ?_⟩) (fun p hp => ?_) (fun p _ hE => ?_) (fun a ha => ?_) (fun a o h1 => ?_) (fun y h1 => Or.inl (h.2.2.2.1.1 y h1)) (fun hL => ⟨⟨⟨by simp, by simp, l3, by show hd ≤ a1 + 2; omega⟩, fun a ha => ?_, Or.inr ⟨Or.inl d1, (ho' hd d1).trans d2, (hrr hd (by omega)).trans d3, by show hd < a1 + 2; omega⟩, fun e => absurd e (by simp), fun e => absurd e (by simp), fun e => absurd e (by simp)⟩, ho, hi, hL⟩), Or.inr rfl, (if_pos (by omega)).trans rfl, hnb, ⟨fun e => absurd e (by simp), fun e => absurd e (by simp)⟩⟩
  · have hlt := h.lt (a := a) (by omega)
    by_cases e : a = hd + 1
    · subst e
      try dsimp only
      rw [if_neg (by omega), if_pos rfl]
      refine ⟨fun o ho' => Or.inr ⟨rfl, a1 + 2, e3, Or.inr rfl, ?_, by omega⟩, fun h9 => by rw [c2] at h9; exact (nomatch h9)⟩
      rw [c2] at ho'
      exact (if_pos (by omega)).trans (Option.some.inj ho')
    · try dsimp only
      rw [if_neg (by omega), if_neg e]
      exact ⟨fun o ho' => Or.inl ho', fun h9 => ⟨h9, hx a (by omega) e⟩⟩
  · have hlt := h.lt (a := a) (by omega)
    try dsimp only
    rw [if_neg (by omega), if_neg (fun e => by rw [e, c3] at h1; omega), if_neg (by omega)]
    exact ⟨rfl, rfl⟩
  · have hlt := h.lt (a := a) (by omega)
    exact ⟨(hrr a (by omega)).trans h2, if_neg (by omega), hx a (by omega) (fun e => by rw [e, c1] at h2; omega)⟩
  · rcases hp with hp | hp
    · rcases h.1 p hp with ⟨h1, h2⟩ | h1
      · exact Or.inl ⟨hp, h1⟩
      · subst h1
        refine Or.inr (Or.inl ⟨by omega, Or.inl ⟨if_pos rfl, Or.inr (Or.inr (Or.inr (Or.inr (Or.inr (Or.inr (Or.inr (Or.inr (Or.inr (Or.inl ⟨e0, ⟨?_, Or.inl ?_⟩, fun h9 => ?_⟩)))))))))⟩⟩)
        · (try dsimp only); (repeat' split) <;> omega
        · try dsimp only
          rw [if_pos rfl, if_neg (by omega), hco]
        · try dsimp only at h9
          rw [if_pos rfl] at h9; exact (nomatch h9)
    · exact Or.inr (Or.inr hp)
  · rcases hE with ⟨e | e, _⟩ | e
    · exact absurd e (by simp)
    · exact absurd e (by simp)
    · exact absurd e (fun h => h)
  · have := h.2.1 a (by omega)
    (try dsimp only); (repeat' split) <;> omega
  · try dsimp only at h1
    by_cases e1 : a = a1 + 1
    · exact Or.inl (Or.inr (Or.inr (Or.inl ⟨rfl, by show a = jm' 0; omega⟩)))
    · rw [if_neg e1] at h1
      by_cases e : a = hd + 1
      · rw [if_pos e] at h1; exact (nomatch h1)
      · rw [if_neg e] at h1
        rcases h.2.2.1 a o h1 with h2 | h2
        · rcases h2 with ⟨e, _⟩ | ⟨_, h3⟩ | ⟨e, _⟩ | ⟨e, _⟩
          · exact absurd e (by simp)
          · exact absurd h3 e
          · exact absurd e (by simp)
          · exact absurd e (by simp)
        · exact Or.inr h2
  · have e : a = a1 + 1 := by
      rcases ha with ⟨e, _⟩ | ⟨e | e, _⟩ | ⟨_, e⟩ | ⟨e, _⟩
      · exact absurd e (by simp)
      · exact absurd e (by simp)
      · exact absurd e (by simp)
      · exact e.trans hj
      · exact absurd e (by simp)
    subst e
    try dsimp only
    exact ⟨by (repeat' split) <;> omega, if_pos rfl, if_pos rfl, by omega⟩
/-- behind a CONDITION -/
theorem m_S1.go5 (h : m_S1 f ((5, hd, mn, ow, c, jm) :: L) a1 nb) : jm 0 < a1 ∧ m_S1 (upd f (jm 0) (Int32.ofNat a1)) L a1 nb := by
  obtain ⟨V, own, pown, bl, role, Hl, hv, h, hV1, hco, hnb, hi1⟩ := h
  obtain ⟨⟨⟨l1, l2, l3, l4⟩, l5, l6, l7, l8, l9⟩, ho, hi, hL0⟩ := h.2.2.2.2
  try dsimp only at l5 ho
  have hco : own a1 = ow := hco
  obtain ⟨c1, c2, c3, c4⟩ := l5 (jm 0) (Or.inr (Or.inr (Or.inl ⟨rfl, rfl⟩)))
  refine ⟨c4, V, own, pown, bl, role, fun a => if a = jm 0 then none else Hl a, hv, h.go (E := [(5, hd, mn, ow, c, jm)]) (E' := []) (Nat.le_refl _) (fun _ _ => rfl) (fun x h1 => upd_n (fun e => by rw [e, c1] at h1; omega)) (fun _ h1 => h1) (fun _ _ => rfl) (fun _ _ => rfl) (fun _ h1 => h1) (fun a h1 => ?_) (fun a h1 => ⟨fun h0 _ => ?_, fun h2 => ?_⟩) (fun p hp => ?_) (fun p _ hE => ?_) h.2.1 (fun a o h1 => ?_) h.2.2.2.1.1 (fun hL => hL), hV1, hco.trans ho, hnb, hi⟩
  · by_cases e : a = jm 0
    · subst e
      refine ⟨fun o ho' => Or.inr ⟨if_pos rfl, a1, upd_s, hV1, ?_, by omega⟩, fun h9 => by rw [c2] at h9; exact (nomatch h9)⟩
      rw [c2] at ho'
      exact hco.trans (Option.some.inj ho')
    · try dsimp only
      rw [if_neg e]
      exact ⟨fun o ho' => Or.inl ho', fun h9 => ⟨h9, upd_n e⟩⟩
  · try dsimp only
    rw [if_neg (fun e => by rw [e, c3] at h1; omega)]
    exact ⟨rfl, rfl⟩
  · exact ⟨h2, rfl, upd_n (fun e => by rw [e, c1] at h2; omega)⟩
  · rcases h.1 p hp with ⟨h1, h2⟩ | h1
    · exact Or.inl ⟨hp, h1⟩
    · exact Or.inr (Or.inr h1)
  · rcases hE with ⟨e | e, _⟩ | e
    · exact absurd e (by simp)
    · exact absurd e (by simp)
    · exact absurd e (fun h => h)
  · try dsimp only at h1
    by_cases e : a = jm 0
    · rw [if_pos e] at h1; exact (nomatch h1)
    · rw [if_neg e] at h1
      rcases h.2.2.1 a o h1 with h2 | h2
      · rcases h2 with ⟨e, _⟩ | ⟨e | e, _⟩ | ⟨_, h3⟩ | ⟨e, _⟩
        · exact absurd e (by simp)
        · exact absurd e (by simp)
        · exact absurd e (by simp)
        · exact absurd h3 e
        · exact absurd e (by simp)
      · exact h2
/-- behind the process of a GUARD -/
theorem m_S1.go6 {jm' : Nat → Nat} (h : m_S1 f ((6, hd, mn, ow, c, jm) :: L) a1 nb) (e0 : g a1 = 10) (hj : jm' mn = a1 + 1) (hj2 : ∀ i, i < mn → jm' i = jm i) (hf : ∀ j, j < a1 → g j = f j) : mn < 4 ∧ m_S0 g ((6, hd, mn + 1, ow, mn + 1, jm') :: L) (a1 + 2) nb := by
  obtain ⟨V, own, pown, bl, role, Hl, hv, h, hV1, hco, hnb, hi1⟩ := h
  obtain ⟨⟨⟨l1, l2, l3, l4⟩, l5, l6, l7, l8, l9⟩, ho, hi, hL0⟩ := h.2.2.2.2
  obtain ⟨p1, p2, p3, p5, p4⟩ := l9 rfl
  rcases l6 with l6 | ⟨d1, d2, d3, d4⟩
  · exact absurd l6 (by simp)
  try dsimp only at l3 l5 p1 p2 p3 p4 p5 d1 d2 d3 d4 ho
  have hc : c = mn + 1 := hi1.1 rfl
  have hco : own a1 = ow := hco
  have hx : ∀ x, role x ≤ 2 → g x = f x := fun x h1 => hf x (h.lt h1)
  have hrr : ∀ x, role x ≤ 2 → (if x = a1 then 0 else if x = a1 + 1 then 1 else role x) = role x := fun x hx => by have := h.lt hx; (repeat' split) <;> omega
  refine ⟨by omega, V, own, pown, bl, fun a => if a = a1 then 0 else if a = a1 + 1 then 1 else role a, fun a => if a = a1 + 1 then some ow else Hl a, fun a => if a = a1 + 1 then L.length else hv a, h.go (E := [(6, hd, mn, ow, c, jm)]) (E' := [(6, hd, mn + 1, ow, mn + 1, jm')]) (by omega) (fun x hx => hrr x (by omega)) (fun x h1 => hx x (by omega)) (fun _ h1 => h1) (fun _ _ => rfl) (fun _ _ => rfl) (fun _ h1 => h1) (fun a h1 => ?_) (fun a h1 => ⟨fun h0 _ => ?_, fun h2 => ?_⟩) (fun p hp => ?_) (fun p _ hE => ?_) (fun a ha => ?_) (fun a o h1 => ?_) h.2.2.2.1.1 (fun hL => ⟨⟨⟨by simp, by simp, by show mn + 1 ≤ 4; omega, by show hd ≤ a1 + 2; omega⟩, fun a ha => ?_, Or.inr ⟨d1, d2, (hrr hd (by omega)).trans d3, by show hd < a1 + 2; omega⟩, fun e => absurd e (by simp), fun e => absurd e (by simp), fun _ => ⟨(hx hd (by omega)).trans p1, by show hd + 18 ≤ a1 + 2; omega, fun i i1 i2 => ?_, by show mn + 1 ≤ 4; omega, fun i h1 => ?_⟩⟩, ho, hi, hL⟩), fun h9 => by have := h.vle h9; omega, hnb⟩
  · have hlt := h.lt (a := a) (by omega)
    try dsimp only
    rw [if_neg (by omega)]
    exact ⟨fun o ho' => Or.inl ho', fun h9 => ⟨h9, hx a (by omega)⟩⟩
  · have hlt := h.lt (a := a) (by omega)
    try dsimp only
    rw [if_neg (by omega), if_neg (by omega)]
    exact ⟨rfl, rfl⟩
  · have hlt := h.lt (a := a) (by omega)
    exact ⟨(hrr a (by omega)).trans h2, if_neg (by omega), hx a (by omega)⟩
  · rcases h.1 p hp with ⟨h1, h2⟩ | h1
    · exact Or.inl ⟨hp, h1⟩
    · subst h1
      refine Or.inr (Or.inl ⟨by omega, Or.inl ⟨if_pos rfl, Or.inr (Or.inr (Or.inr (Or.inr (Or.inr (Or.inr (Or.inr (Or.inr (Or.inr (Or.inl ⟨e0, ⟨?_, Or.inl ?_⟩, fun h9 => ?_⟩)))))))))⟩⟩)
      · (try dsimp only); (repeat' split) <;> omega
      · try dsimp only
        rw [if_pos rfl, hco]
      · try dsimp only at h9
        rw [if_pos rfl] at h9; exact (nomatch h9)
  · exact hE.elim (fun h1 => Or.inr (Or.inl h1)) (fun h1 => absurd h1 (fun h => h))
  · have := h.2.1 a (by omega)
    (try dsimp only); (repeat' split) <;> omega
  · try dsimp only at h1
    by_cases e1 : a = a1 + 1
    · exact Or.inl (Or.inr (Or.inr (Or.inr ⟨rfl, mn, by show mn < mn + 1; omega, by show a = jm' mn; omega⟩)))
    · rw [if_neg e1] at h1
      rcases h.2.2.1 a o h1 with h2 | h2
      · rcases h2 with ⟨e, _⟩ | ⟨e | e, _⟩ | ⟨e, _⟩ | ⟨_, i, hi, ei⟩
        · exact absurd e (by simp)
        · exact absurd e (by simp)
        · exact absurd e (by simp)
        · exact absurd e (by simp)
        · try dsimp only at hi ei
          exact Or.inl (Or.inr (Or.inr (Or.inr ⟨rfl, i, by show i < mn + 1; omega, by show a = jm' i; rw [hj2 i hi]; exact ei⟩)))
      · exact Or.inr h2
  · rcases ha with ⟨e, _⟩ | ⟨e | e, _⟩ | ⟨e, _⟩ | ⟨_, i, hi, ei⟩
    · exact absurd e (by simp)
    · exact absurd e (by simp)
    · exact absurd e (by simp)
    · exact absurd e (by simp)
    · try dsimp only at hi ei
      by_cases e : i = mn
      · rw [e, hj] at ei
        subst ei
        try dsimp only
        exact ⟨by (repeat' split) <;> omega, if_pos rfl, if_pos rfl, by omega⟩
      · rw [hj2 i (by omega)] at ei
        obtain ⟨b1, b2, b3, b4⟩ := l5 a (Or.inr (Or.inr (Or.inr ⟨rfl, i, by omega, ei⟩)))
        try dsimp only
        exact ⟨(hrr a (by omega)).trans b1, (if_neg (by omega)).trans b2, (if_neg (by omega)).trans b3, by omega⟩
  · obtain ⟨b1, b2⟩ := p3 i i1 i2
    exact ⟨(hrr (hd + i) (by omega)).trans b1, (if_neg (by show ¬ hd + i = a1 + 1; omega)).trans b2⟩
  · have hi' : i < c := by (try dsimp only at h1); omega
    obtain ⟨⟨e1, q', x, r1, r2, r3, r4⟩, r5⟩ := p4 i hi'
    have hgi : ∀ j, 1 ≤ j → j ≤ 17 → g (hd + j) = f (hd + j) := fun j j1 j2 => hx _ (by rw [(p3 j j1 j2).1]; omega)
    have q2 : g (hd + 2 + 4 * i) = f (hd + 2 + 4 * i) := by have := hgi (2 + 4 * i) (by omega) (by omega); rwa [show hd + (2 + 4 * i) = hd + 2 + 4 * i by omega] at this
    have q3 : g (hd + 3 + 4 * i) = f (hd + 3 + 4 * i) := by have := hgi (3 + 4 * i) (by omega) (by omega); rwa [show hd + (3 + 4 * i) = hd + 3 + 4 * i by omega] at this
    have q4 : g (hd + 4 + 4 * i) = f (hd + 4 + 4 * i) := by have := hgi (4 + 4 * i) (by omega) (by omega); rwa [show hd + (4 + 4 * i) = hd + 4 + 4 * i by omega] at this
    have q5 : g (hd + 5 + 4 * i) = f (hd + 5 + 4 * i) := by have := hgi (5 + 4 * i) (by omega) (by omega); rwa [show hd + (5 + 4 * i) = hd + 5 + 4 * i by omega] at this
    unfold m_AR
    rw [q2, q3, q4, q5]
    exact ⟨⟨e1, q', x, r1, r2.step (fun x h1 => hrr x (by omega)) (fun x h1 => hx x (by omega)), r3, r4⟩, r5⟩
end RV
/-- code that is well formed, of n cells -/
def m_WF (f : Nat → Int32) (V : Nat → Prop) (own pown : Nat → Nat) (bl : List Nat) (role : Nat → Nat) (n : Nat) : Prop := (∀ p, V p → p < n ∧ m_in f V own pown bl role (fun _ => none) p) ∧ (∀ a, n ≤ a → role a = 3) ∧ V 0 ∧ own 0 = 0 ∧ 0 ∈ bl ∧ bl.length ≤ 80
theorem m_S1.fin {f g : Nat → Int32} {a1 nb : Nat} (h : m_S1 f [] a1 nb) (e0 : g a1 = 12) (hf : ∀ j, j < a1 → g j = f j) (hnb : nb ≤ 80) : ∃ (V : Nat → Prop) (own pown : Nat → Nat) (bl : List Nat) (role : Nat → Nat), m_WF g V own pown bl role (a1 + 1) := by
  obtain ⟨V, own, pown, bl, role, Hl, hv, ⟨k1, k2, k3, ⟨k4, k5, k6, k7⟩, k8⟩, hV1, hnb⟩ := h.go2 e0 hf
  have e : Hl = fun _ => none := by
    funext a
    cases hH : Hl a with
    | none => rfl
    | some o => exact absurd (k3 a o hH) (fun h => h)
  subst e
  refine ⟨V, own, pown, bl, role, fun p hp => ?_, k2, k5, k6, k7, by omega⟩
  rcases k1 p hp with ⟨h1, h2 | h2⟩ | h1
  · exact ⟨h1, h2⟩
  · exact absurd h2 (fun h => h)
  · exact absurd hp (h1 ▸ hV1)
theorem m_WF.same {f g : Nat → Int32} {V : Nat → Prop} {own pown : Nat → Nat} {bl : List Nat} {role : Nat → Nat} {n : Nat} (h : m_WF f V own pown bl role n) (hg : ∀ j, j < n → g j = f j) : m_WF g V own pown bl role n := by
  obtain ⟨h1, h2, h3⟩ := h
  have hl : ∀ x, role x ≤ 1 → x < n := fun x hx => by
    rcases Nat.lt_or_ge x n with h | h
    · exact h
    · have := h2 x h; omega
  exact ⟨fun p hp => ⟨(h1 p hp).1, (h1 p hp).2.step hp (fun _ _ => rfl) (fun x hx => hg x (hl x (by omega))) (fun _ h => h) (fun _ _ => rfl) (fun _ _ => rfl) (fun _ h => h) (fun a ha => ⟨fun o ho => (nomatch ho), fun _ => ⟨rfl, hg a (hl a (by omega))⟩⟩)⟩, h2, h3⟩
