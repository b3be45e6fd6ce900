-- ===== 43.rs: the state while read reads: levels that stand open, the code so far =====
/-- a level that is open: kind, head, many, owner, content's owner (kind 2) or rows written (kind 6), jumps -/
abbrev m_Lv := Nat × Nat × Nat × Nat × Nat × (Nat → Nat)
def m_hole (k hd mn : Nat) (jm : Nat → Nat) (a : Nat) : Prop := (k = 2 ∧ a = hd + 6) ∨ ((k = 3 ∨ k = 4) ∧ a = hd + 1) ∨ (k = 5 ∧ a = jm 0) ∨ (k = 6 ∧ ∃ i, i < mn ∧ a = jm i)
def m_hs : List m_Lv → Nat → Prop
  | [], _ => False
  | x :: L, a => m_hole x.1 x.2.1 x.2.2.1 x.2.2.2.2.2 a ∨ m_hs L a
def m_hd : List m_Lv → Nat → Prop
  | [], _ => False
  | x :: L, p => ((x.1 = 2 ∨ x.1 = 6) ∧ x.2.1 = p) ∨ m_hd L p
def m_co : List m_Lv → Nat
  | [] => 0
  | x :: _ => if x.1 = 2 then x.2.2.2.2.1 else x.2.2.2.1
def m_in1 : List m_Lv → Prop
  | [] => True
  | x :: _ => (x.1 = 6 → x.2.2.2.2.1 = x.2.2.1 + 1) ∧ (x.1 = 2 → 1 ≤ x.2.2.1)
def m_sg : List m_Lv → Int
  | [] => 0
  | x :: L => m_sg L + (if x.1 = 3 ∨ x.1 = 4 ∨ x.1 = 5 then -3 else 9)
theorem m_sg_le : ∀ L : List m_Lv, m_sg L ≤ 9 * (L.length : Int) := by
  intro L
  induction L with
  | nil => exact Int.le_refl _
  | cons x L ih =>
    have e : m_sg (x :: L) = m_sg L + (if x.1 = 3 ∨ x.1 = 4 ∨ x.1 = 5 then -3 else 9) := rfl
    rw [e, List.length_cons]
    by_cases h : x.1 = 3 ∨ x.1 = 4 ∨ x.1 = 5
    · rw [if_pos h]; omega
    · rw [if_neg h]; omega
def m_PB (f : Nat → Int32) (V : Nat → Prop) (own pown : Nat → Nat) (bl : List Nat) (hd mn ow : Nat) : Prop := ∀ i, i < mn → ∃ y, f (hd + 2 + i) = Int32.ofNat y ∧ V y ∧ own y = y ∧ pown y = ow ∧ y ∈ bl ∧ (0 < y ∧ y < 1200) ∧ ∀ i', i' < mn → i' ≠ i → ∃ y', f (hd + 2 + i') = Int32.ofNat y' ∧ y' < 1200 ∧ y' ≠ y
def m_AR (f : Nat → Int32) (V : Nat → Prop) (own : Nat → Nat) (role : Nat → Nat) (hd ow g : Nat) : Prop := (∃ e q x, f (hd + 2 + 4 * g) = Int32.ofNat e ∧ m_we f role e q ∧ f (hd + 5 + 4 * g) = Int32.ofNat x ∧ m_go V own ow x) ∧ (f (hd + 3 + 4 * g) = -1 ∨ ∃ c v, f (hd + 3 + 4 * g) = Int32.ofNat c ∧ c ≤ 4 ∧ f (hd + 4 + 4 * g) = Int32.ofNat v ∧ v < 6)
/-- the level n is as it should be -/
def m_lv (f : Nat → Int32) (V : Nat → Prop) (own pown : Nat → Nat) (bl : List Nat) (role : Nat → Nat) (Hl : Nat → Option Nat) (hv : Nat → Nat) (at' n k hd mn ow c : Nat) (jm : Nat → Nat) : Prop :=
  (1 ≤ k ∧ k ≤ 6 ∧ mn ≤ 4 ∧ hd ≤ at') ∧
  (∀ a, m_hole k hd mn jm a → role a = 1 ∧ Hl a = some ow ∧ hv a = n ∧ a < at') ∧
  (k = 1 ∨ (V hd ∧ own hd = ow ∧ role hd = 0 ∧ hd < at')) ∧
  (k = 3 → f hd = 4) ∧
  (k = 2 → f hd = 5 ∧ hd + 7 ≤ at' ∧ (∀ i, 1 ≤ i → i ≤ 5 → role (hd + i) = 2 ∧ hv (hd + i) = n) ∧ m_PB f V own pown bl hd mn ow) ∧
  (k = 6 → f hd = 8 ∧ hd + 18 ≤ at' ∧ (∀ i, 1 ≤ i → i ≤ 17 → role (hd + i) = 2 ∧ hv (hd + i) = n) ∧ c ≤ 4 ∧ ∀ g, g < c → m_AR f V own role hd ow g)
def m_LV (f : Nat → Int32) (V : Nat → Prop) (own pown : Nat → Nat) (bl : List Nat) (role : Nat → Nat) (Hl : Nat → Option Nat) (hv : Nat → Nat) (at' : Nat) : List m_Lv → Prop
  | [] => True
  | x :: L => m_lv f V own pown bl role Hl hv at' L.length x.1 x.2.1 x.2.2.1 x.2.2.2.1 x.2.2.2.2.1 x.2.2.2.2.2 ∧ x.2.2.2.1 = m_co L ∧ m_in1 L ∧ m_LV f V own pown bl role Hl hv at' L
def m_RS (f : Nat → Int32) (V : Nat → Prop) (own pown : Nat → Nat) (bl : List Nat) (role : Nat → Nat) (Hl : Nat → Option Nat) (hv : Nat → Nat) (L : List m_Lv) (at' : Nat) : Prop :=
  (∀ p, V p → (p < at' ∧ (m_in f V own pown bl role Hl p ∨ m_hd L p)) ∨ p = at') ∧
  (∀ a, at' ≤ a → role a = 3) ∧
  (∀ a o, Hl a = some o → m_hs L a) ∧
  ((∀ y, y ∈ bl → V y) ∧ V 0 ∧ own 0 = 0 ∧ 0 ∈ bl) ∧
  m_LV f V own pown bl role Hl hv at' L
section RS
variable {f g : Nat → Int32} {V V' : Nat → Prop} {own own' pown pown' : Nat → Nat} {bl bl' : List Nat} {role role' : Nat → Nat} {Hl Hl' : Nat → Option Nat} {hv hv' : Nat → Nat} {a1 a2 : Nat}
theorem m_lv.step {n k hd mn ow c : Nat} {jm : Nat → Nat} (h : m_lv f V own pown bl role Hl hv a1 n k hd mn ow c jm) (hat : a1 ≤ a2) (hr : ∀ x, role x ≤ 1 → role' x = role x) (hg : ∀ x, role x = 0 → g x = f x) (hV : ∀ x, V x → V' x) (ho : ∀ x, V x → own' x = own x) (hp : ∀ y, y ∈ bl → pown' y = pown y) (hb : ∀ y, y ∈ bl → y ∈ bl')
    (hw : ∀ a, hv a = n → (role a = 1 → Hl a ≠ none → Hl' a = Hl a ∧ hv' a = n) ∧ (role a = 2 → role' a = 2 ∧ hv' a = n ∧ g a = f a)) :
    m_lv g V' own' pown' bl' role' Hl' hv' a2 n k hd mn ow c jm := by
  obtain ⟨⟨h1, h2, h3, h4⟩, h5, h6, h7, h8, h9⟩ := h
  refine ⟨⟨h1, h2, h3, by omega⟩, fun a ha => ?_, ?_, fun e => ?_, fun e => ?_, fun e => ?_⟩
  · obtain ⟨b1, b2, b3, b4⟩ := h5 a ha
    obtain ⟨c1, c2⟩ := (hw a b3).1 b1 (by rw [b2]; exact fun h => (nomatch h))
    exact ⟨(hr a (by omega)).trans b1, c1.trans b2, c2, by omega⟩
  · rcases h6 with h6 | ⟨b1, b2, b3, b4⟩
    · exact Or.inl h6
    · exact Or.inr ⟨hV _ b1, (ho _ b1).trans b2, (hr _ (by omega)).trans b3, by omega⟩
  · rcases h6 with h6 | ⟨b1, b2, b3, b4⟩
    · omega
    · exact (hg hd b3).trans (h7 e)
  · obtain ⟨b1, b2, b3, b4⟩ := h8 e
    rcases h6 with h6 | ⟨d1, d2, d3, d4⟩
    · omega
    · refine ⟨(hg hd d3).trans b1, by omega, fun i i1 i2 => ?_, fun i hi => ?_⟩
      · obtain ⟨c1, c2⟩ := b3 i i1 i2
        obtain ⟨e1, e2, _⟩ := (hw _ c2).2 c1
        exact ⟨e1, e2⟩
      · have hgi : ∀ i, i < mn → g (hd + 2 + i) = f (hd + 2 + i) := fun i hi => by
          obtain ⟨c1, c2⟩ := b3 (2 + i) (by omega) (by omega)
          rw [show hd + (2 + i) = hd + 2 + i by omega] at c1 c2
          exact ((hw _ c2).2 c1).2.2
        obtain ⟨y, y1, y2, y3, y4, y5, y6, y7⟩ := b4 i hi
        refine ⟨y, (hgi i hi).trans y1, hV y y2, (ho y y2).trans y3, (hp y y5).trans y4, hb y y5, y6, fun i' hi' hne => ?_⟩
        obtain ⟨y', z1, z2, z3⟩ := y7 i' hi' hne
        exact ⟨y', (hgi i' hi').trans z1, z2, z3⟩
  · obtain ⟨b1, b2, b3, b5, b4⟩ := h9 e
    rcases h6 with h6 | ⟨d1, d2, d3, d4⟩
    · omega
    · refine ⟨(hg hd d3).trans b1, by omega, fun i i1 i2 => ?_, b5, fun i hi => ?_⟩
      · obtain ⟨c1, c2⟩ := b3 i i1 i2
        obtain ⟨e1, e2, _⟩ := (hw _ c2).2 c1
        exact ⟨e1, e2⟩
      · have hgi : ∀ j, 1 ≤ j → j ≤ 17 → g (hd + j) = f (hd + j) := fun j j1 j2 => by
          obtain ⟨c1, c2⟩ := b3 j j1 j2
          exact ((hw _ c2).2 c1).2.2
        have q2 : g (hd + 2 + 4 * i) = f (hd + 2 + 4 * i) := by have := hgi (2 + 4 * i) (by omega) (by omega); rwa [show hd + (2 + 4 * i) = hd + 2 + 4 * i by omega] at this
        have q3 : g (hd + 3 + 4 * i) = f (hd + 3 + 4 * i) := by have := hgi (3 + 4 * i) (by omega) (by omega); rwa [show hd + (3 + 4 * i) = hd + 3 + 4 * i by omega] at this
        have q4 : g (hd + 4 + 4 * i) = f (hd + 4 + 4 * i) := by have := hgi (4 + 4 * i) (by omega) (by omega); rwa [show hd + (4 + 4 * i) = hd + 4 + 4 * i by omega] at this
        have q5 : g (hd + 5 + 4 * i) = f (hd + 5 + 4 * i) := by have := hgi (5 + 4 * i) (by omega) (by omega); rwa [show hd + (5 + 4 * i) = hd + 5 + 4 * i by omega] at this
        obtain ⟨⟨e1, q, x, r1, r2, r3, r4⟩, r5⟩ := b4 i hi
        unfold m_AR
        rw [q2, q3, q4, q5]
        exact ⟨⟨e1, q, x, r1, r2.step hr hg, r3, ⟨hV _ r4.1, (ho _ r4.1).trans r4.2⟩⟩, r5⟩
theorem m_LV.step : ∀ {L : List m_Lv} (_ : m_LV f V own pown bl role Hl hv a1 L) (_ : a1 ≤ a2) (_ : ∀ x, role x ≤ 1 → role' x = role x) (_ : ∀ x, role x = 0 → g x = f x) (_ : ∀ x, V x → V' x) (_ : ∀ x, V x → own' x = own x) (_ : ∀ y, y ∈ bl → pown' y = pown y) (_ : ∀ y, y ∈ bl → y ∈ bl')
    (_ : ∀ a, hv a < L.length → (role a = 1 → Hl a ≠ none → Hl' a = Hl a ∧ hv' a = hv a) ∧ (role a = 2 → role' a = 2 ∧ hv' a = hv a ∧ g a = f a)), m_LV g V' own' pown' bl' role' Hl' hv' a2 L := by
  intro L
  induction L with
  | nil => intros; trivial
  | cons x L ih =>
    intro h hat hr hg hV ho hp hb hw
    obtain ⟨h1, h2, h3, h4⟩ := h
    refine ⟨h1.step hat hr hg hV ho hp hb (fun a ha => ?_), h2, h3, ih h4 hat hr hg hV ho hp hb (fun a ha => hw a (by rw [List.length_cons]; omega))⟩
    have := hw a (by rw [List.length_cons, ha]; omega)
    rw [ha] at this
    exact this
theorem m_hd_app : ∀ {E L : List m_Lv} {p : Nat}, m_hd (E ++ L) p → m_hd E p ∨ m_hd L p := by
  intro E
  induction E with
  | nil => intro L p h; exact Or.inr h
  | cons x E ih => intro L p h; exact h.elim (fun h => Or.inl (Or.inl h)) (fun h => (ih h).elim (fun h => Or.inl (Or.inr h)) Or.inr)
theorem m_hd_r : ∀ {E L : List m_Lv} {p : Nat}, m_hd L p → m_hd (E ++ L) p := by
  intro E
  induction E with
  | nil => intro L p h; exact h
  | cons x E ih => intro L p h; exact Or.inr (ih h)
theorem m_LV_r : ∀ {E L : List m_Lv}, m_LV f V own pown bl role Hl hv a1 (E ++ L) → m_LV f V own pown bl role Hl hv a1 L := by
  intro E
  induction E with
  | nil => intro L h; exact h
  | cons x E ih => intro L h; exact ih h.2.2.2
/-- a step of the reading -/
theorem m_RS.go {E E' L : List m_Lv} (h : m_RS f V own pown bl role Hl hv (E ++ L) a1)
    (hat : a1 ≤ a2) (hr : ∀ x, role x ≤ 1 → role' x = role x) (hg : ∀ x, role x = 0 → g x = f x) (hVV : ∀ x, V x → V' x) (ho : ∀ x, V x → own' x = own x) (hp : ∀ y, y ∈ bl → pown' y = pown y) (hb : ∀ y, y ∈ bl → y ∈ bl')
    (hh : ∀ a, role a = 1 → (∀ o, Hl a = some o → Hl' a = some o ∨ (Hl' a = none ∧ ∃ x, g a = Int32.ofNat x ∧ V' x ∧ own' x = o ∧ a ≤ x)) ∧ (Hl a = none → Hl' a = none ∧ g a = f a))
    (hw : ∀ a, hv a < L.length → (role a = 1 → Hl a ≠ none → Hl' a = Hl a ∧ hv' a = hv a) ∧ (role a = 2 → role' a = 2 ∧ hv' a = hv a ∧ g a = f a))
    (hV : ∀ p, V' p → (V p ∧ p < a1) ∨ (p < a2 ∧ (m_in g V' own' pown' bl' role' Hl' p ∨ m_hd (E' ++ L) p)) ∨ p = a2)
    (hH : ∀ p, V p → m_hd E p → m_in g V' own' pown' bl' role' Hl' p ∨ m_hd (E' ++ L) p)
    (h3 : ∀ a, a2 ≤ a → role' a = 3)
    (hs : ∀ a o, Hl' a = some o → m_hs (E' ++ L) a)
    (hbl : ∀ y, y ∈ bl' → V' y)
    (hL : m_LV g V' own' pown' bl' role' Hl' hv' a2 L → m_LV g V' own' pown' bl' role' Hl' hv' a2 (E' ++ L)) :
    m_RS g V' own' pown' bl' role' Hl' hv' (E' ++ L) a2 := by
  obtain ⟨k1, k2, k3, ⟨k4, k5, k6, k7⟩, k8⟩ := h
  refine ⟨fun p hp' => ?_, h3, hs, ⟨hbl, hVV 0 k5, (ho 0 k5).trans k6, hb 0 k7⟩, hL ((m_LV_r k8).step hat hr hg hVV ho hp hb hw)⟩
  rcases hV p hp' with ⟨h1, h2⟩ | h1 | h1
  · refine Or.inl ⟨by omega, ?_⟩
    rcases k1 p h1 with ⟨h4, h5⟩ | h4
    · rcases h5 with h5 | h5
      · exact Or.inl (h5.step h1 hr hg hVV ho hp hb hh)
      · rcases m_hd_app h5 with h6 | h6
        · exact hH p h1 h6
        · exact Or.inr (m_hd_r h6)
    · omega
  · exact Or.inl h1
  · exact Or.inr h1
/-- holes and cells of role 2 lie below -/
theorem m_RS.lt {L : List m_Lv} (h : m_RS f V own pown bl role Hl hv L a1) {a : Nat} (ha : role a ≤ 2) : a < a1 := by
  rcases Nat.lt_or_ge a a1 with h1 | h1
  · exact h1
  · have := h.2.1 a h1
    omega
theorem m_RS.vle {L : List m_Lv} (h : m_RS f V own pown bl role Hl hv L a1) {p : Nat} (hp : V p) : p ≤ a1 := by
  rcases h.1 p hp with ⟨h1, _⟩ | h1 <;> omega
theorem m_hs_role : ∀ {L : List m_Lv} (_ : m_LV f V own pown bl role Hl hv a1 L) {a : Nat} (_ : m_hs L a), role a = 1 ∧ hv a < L.length ∧ a < a1 := by
  intro L
  induction L with
  | nil => intro _ a h; exact absurd h (fun h => h)
  | cons x L ih =>
    intro h a ha
    rcases ha with ha | ha
    · obtain ⟨c1, c2, c3, c4⟩ := h.1.2.1 a ha
      exact ⟨c1, by rw [List.length_cons, c3]; omega, c4⟩
    · obtain ⟨c1, c2, c3⟩ := ih h.2.2.2 ha
      exact ⟨c1, by rw [List.length_cons]; omega, c3⟩
end RS
/-- control comes to a1, which belongs to the content; control comes not to a1 -/
def m_S1 (f : Nat → Int32) (L : List m_Lv) (a1 nb : Nat) : Prop := ∃ (V : Nat → Prop) (own pown : Nat → Nat) (bl : List Nat) (role : Nat → Nat) (Hl : Nat → Option Nat) (hv : Nat → Nat), m_RS f V own pown bl role Hl hv L a1 ∧ V a1 ∧ own a1 = m_co L ∧ bl.length ≤ nb ∧ m_in1 L
def m_S0 (f : Nat → Int32) (L : List m_Lv) (a1 nb : Nat) : Prop := ∃ (V : Nat → Prop) (own pown : Nat → Nat) (bl : List Nat) (role : Nat → Nat) (Hl : Nat → Option Nat) (hv : Nat → Nat), m_RS f V own pown bl role Hl hv L a1 ∧ ¬ V a1 ∧ bl.length ≤ nb
theorem m_S1.start (f : Nat → Int32) : m_S1 f [] 0 1 := by
  refine ⟨fun p => p = 0, fun _ => 0, fun _ => 0, [0], fun _ => 3, fun _ => none, fun _ => 0, ⟨fun p h => Or.inr h, fun a _ => rfl, fun a o h => (nomatch h), ⟨fun y hy => by simpa using hy, rfl, rfl, by simp⟩, trivial⟩, rfl, rfl, Nat.le_refl _, trivial⟩
