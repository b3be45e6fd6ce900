-- ===== 53.rk: what settle does to the state of a run =====
def m_CU (I : Nat → Int32) (A : Nat → Nat → Int32) (st : Nat → Nat) : Prop := I 30 = -1 ∨ ∃ t, t < 90 ∧ I 30 = Int32.ofNat t ∧ m_al A t ∧ st t = 2
def m_RUN (I : Nat → Int32) (A : Nat → Nat → Int32) : Prop := ∃ (V : Nat → Prop) (own pown : Nat → Nat) (bl : List Nat) (role : Nat → Nat) (n q : Nat) (pn br st : Nat → Nat), I 29 = Int32.ofNat q ∧ m_RI A q V own pown bl role n pn br st ∧ m_CU I A st
def m_SET (I : Nat → Int32) (A : Nat → Nat → Int32) : Prop := ∃ (V : Nat → Prop) (own pown : Nat → Nat) (bl : List Nat) (role : Nat → Nat) (n q : Nat) (pn br st : Nat → Nat), I 29 = Int32.ofNat q ∧ m_RI A q V own pown bl role n pn br st ∧ ((I 30 = -1 ∧ q = 0) ∨ ∃ t, t < 90 ∧ I 30 = Int32.ofNat t ∧ m_al A t ∧ st t = 2 ∧ ¬ A 1 (pn t) = 10 ∧ ¬ A 1 (pn t) = 11 ∧ ¬ A 1 (pn t) = 12)
section RK
variable {A A' : Nat → Nat → Int32} {q : Nat} {V : Nat → Prop} {own pown : Nat → Nat} {bl : List Nat} {role : Nat → Nat} {n : Nat} {pn br st : Nat → Nat}
theorem m_in.jump {f : Nat → Int32} {p : Nat} (h : m_in f V own pown bl role (fun _ => none) p) (e : f p = 10) (hV : ∀ x, V x → x < 1200) (hp : V p) : ∃ x, f (p + 1) = Int32.ofNat x ∧ V x ∧ own x = own p ∧ m_wt f x < m_wt f p := by
  obtain ⟨h0, h⟩ := h
  rcases h with ⟨e', _⟩ | ⟨e', _⟩ | e' | ⟨e', _⟩ | ⟨e', _⟩ | ⟨e', _⟩ | ⟨e', _⟩ | ⟨e', _⟩ | ⟨e', _⟩ | ⟨e', h1, h2⟩ | ⟨e', _⟩ | e'
  case inr.inr.inr.inr.inr.inr.inr.inr.inr.inl =>
    obtain ⟨_, h3⟩ := h1
    rcases h3 with h3 | ⟨_, x, x1, x2, x3⟩
    · exact nomatch h3
    · obtain ⟨y, y1, yV, y2⟩ := h2 rfl
      have hx := hV x x2
      have hy := hV y yV
      have hpl := hV p hp
      have exy := x_inj (by omega) (by omega) (x1.symm.trans y1)
      subst exy
      refine ⟨x, x1, x2, x3, ?_⟩
      have hw : m_wt f p = 1300 - p := if_pos (Or.inl e)
      rw [hw]
      rcases y2 with y2 | ⟨y2, _⟩
      · unfold m_wt; split <;> omega
      · have hfx : m_wt f x = 0 := if_neg (by rw [y2]; decide)
        rw [hfx]; omega
  all_goals (rw [e] at e'; exact absurd e' (by decide))
theorem m_in.yield {f : Nat → Int32} {p : Nat} (h : m_in f V own pown bl role (fun _ => none) p) (e : f p = 11) : V (p + 1) ∧ own (p + 1) = own p := by
  obtain ⟨h0, h⟩ := h
  rcases h with ⟨e', _⟩ | ⟨e', _⟩ | e' | ⟨e', _⟩ | ⟨e', _⟩ | ⟨e', _⟩ | ⟨e', _⟩ | ⟨e', _⟩ | ⟨e', _⟩ | ⟨e', _⟩ | ⟨e', h1⟩ | e'
  case inr.inr.inr.inr.inr.inr.inr.inr.inr.inr.inl => exact h1
  all_goals (rw [e] at e'; exact absurd e' (by decide))
theorem m_RI.at (h : m_RI A q V own pown bl role n pn br st) {t : Nat} (ht : t < 90) (ha : m_al A t) : A 20 t = Int32.ofNat (pn t) ∧ pn t < 1001 ∧ V (pn t) ∧ own (pn t) = br t ∧ m_in (A 1) V own pown bl role (fun _ => none) (pn t) := by
  obtain ⟨a1, a2, a3, a4⟩ := h.2.1.1 t ht ha
  obtain ⟨b1, b2⟩ := h.1.1.1 _ a2
  have := h.1.2
  exact ⟨a1, by omega, a2, a3, b2⟩
theorem m_RI.vlt (h : m_RI A q V own pown bl role n pn br st) {x : Nat} (hx : V x) : x < 1001 := by
  have := (h.1.1.1 x hx).1
  have := h.1.2
  omega
theorem m_set_jump {t : Nat} (h : m_RI A q V own pown bl role n pn br st) (ht : t < 90) (ha : m_al A t) (e : A 1 (pn t) = 10) : ∃ x, x < 1001 ∧ A 1 (pn t + 1) = Int32.ofNat x ∧ m_RI (m_up A 20 (upd (A 20) t (Int32.ofNat x))) q V own pown bl role n (fun y => if y = t then x else pn y) br st ∧ m_ms (A 1) (A 27) (fun y => if y = t then x else pn y) 90 < m_ms (A 1) (A 27) pn 90 := by
  obtain ⟨a1, a2, a3, a4, a5⟩ := h.at ht ha
  obtain ⟨x, x1, x2, x3, x4⟩ := a5.jump e (fun x hx => by have := h.vlt hx; omega) a3
  refine ⟨x, h.vlt x2, x1, h.pc x2 (x3.trans a4), ?_⟩
  have := m_ms_set (f := A 1) (th := A 27) (th' := A 27) (pn := pn) (pn' := fun y => if y = t then x else pn y) 90 ht (fun y _ hy => ⟨rfl, if_neg hy⟩)
  rw [if_neg ha, if_neg ha, if_pos rfl] at this
  omega
theorem m_RI.kc0 (h : m_RI A q V own pown bl role n pn br st) {t : Nat} (ht : t < 90) (ha : m_al A t) (hs : st t ≠ 0) : m_kc (A 27) (A 21) t 90 = 0 := h.2.1.2.2.2.2 t ht ha hs
theorem m_set_yield {t : Nat} (h : m_RI A q V own pown bl role n pn br st) (ht : t < 90) (ha : m_al A t) (hs : st t = 2) (e : A 1 (pn t) = 11) : q < 90 ∧ m_RI (m_up (m_up A 20 (upd (A 20) t (Int32.ofNat (pn t + 1)))) 24 (upd (A 24) q (Int32.ofNat t))) (q + 1) V own pown bl role n (fun y => if y = t then pn t + 1 else pn y) br (fun x => if x = t then 1 else (if x = t then 0 else st x)) ∧ m_ms (A 1) (A 27) (fun y => if y = t then pn t + 1 else pn y) 90 < m_ms (A 1) (A 27) pn 90 := by
  obtain ⟨a1, a2, a3, a4, a5⟩ := h.at ht ha
  obtain ⟨x2, x3⟩ := a5.yield e
  have hk := h.kc0 ht ha (by omega)
  obtain ⟨r1, r2⟩ := ((h.pc x2 (x3.trans a4)).st20 hs).put ht ha (if_pos rfl) hk
  refine ⟨r1, r2, ?_⟩
  have := m_ms_set (f := A 1) (th := A 27) (th' := A 27) (pn := pn) (pn' := fun y => if y = t then pn t + 1 else pn y) 90 ht (fun y _ hy => ⟨rfl, if_neg hy⟩)
  rw [if_neg ha, if_neg ha, if_pos rfl] at this
  have hw : m_wt (A 1) (pn t) = 1300 - pn t := if_pos (Or.inr (Or.inl e))
  have hw2 : m_wt (A 1) (pn t + 1) ≤ 1300 - (pn t + 1) := by unfold m_wt; split <;> omega
  omega
theorem m_set_end {t : Nat} (h : m_RI A q V own pown bl role n pn br st) (ht : t < 90) (ha : m_al A t) (hs : st t = 2) (e : A 1 (pn t) = 12) : (A 21 t = -1 ∨ ∃ p9 k9 : Nat, p9 < 90 ∧ A 21 t = Int32.ofNat p9 ∧ A 22 p9 = Int32.ofNat k9 ∧ 1 ≤ k9 ∧ k9 ≤ 90 ∧ (k9 = 1 → q < 90)) ∧ (∀ p9 k9 : Nat, p9 < 90 → A 21 t = Int32.ofNat p9 → A 22 p9 = Int32.ofNat k9 → k9 ≤ 90 → (k9 = 1 → m_RI (m_up (m_up (m_up A 27 (upd (A 27) t 0)) 22 (upd (A 22) p9 (Int32.ofNat (k9 - 1)))) 24 (upd (A 24) q (Int32.ofNat p9))) (q + 1) V own pown bl role n pn br (fun x => if x = p9 then 1 else (if x = t then 0 else st x))) ∧ (¬ k9 = 1 → m_RI (m_up (m_up A 27 (upd (A 27) t 0)) 22 (upd (A 22) p9 (Int32.ofNat (k9 - 1)))) q V own pown bl role n pn br (fun x => if x = t then 0 else st x))) ∧ m_ms (A 1) (upd (A 27) t 0) pn 90 < m_ms (A 1) (A 27) pn 90 := by
  obtain ⟨a1, a2, a3, a4, a5⟩ := h.at ht ha
  have hk := h.kc0 ht ha (by omega)
  have h2 := h.st20 hs
  have key : ∀ p9 k9 : Nat, p9 < 90 → A 21 t = Int32.ofNat p9 → A 22 p9 = Int32.ofNat k9 → k9 ≤ 90 → k9 = m_kc (A 27) (A 21) p9 90 ∧ 1 ≤ k9 ∧ m_al (m_up (m_up A 27 (upd (A 27) t 0)) 22 (upd (A 22) p9 (Int32.ofNat (k9 - 1)))) p9 ∧ (if p9 = t then 0 else st p9) = 0 ∧ m_kc (upd (A 27) t 0) (A 21) p9 90 = k9 - 1 ∧ m_RI (m_up (m_up A 27 (upd (A 27) t 0)) 22 (upd (A 22) p9 (Int32.ofNat (k9 - 1)))) q V own pown bl role n pn br (fun x => if x = t then 0 else st x) := fun p9 k9 hp9 h21 h22 hk90 => by
    have hal : m_al A p9 := by
      rcases h.2.1.2.2.1 t ht ha with ⟨r1, _⟩ | ⟨p', p1, p2, p3, _⟩
      · rw [h21] at r1; exact absurd r1 (x_n1 (by omega))
      · rw [h21] at p2; rw [x_inj (by omega) (by omega) p2]; exact p3
    have e22 := h.2.1.2.2.2.1 p9 hp9 hal
    have hle : m_kc (A 27) (A 21) p9 90 ≤ 90 := m_kc_le 90
    have ek : k9 = m_kc (A 27) (A 21) p9 90 := x_inj (by omega) (by omega) (h22.symm.trans e22)
    obtain ⟨f1, f2, f3, f4, f5⟩ := h2.finish (A' := m_up (m_up A 27 (upd (A 27) t 0)) 22 (upd (A 22) p9 (Int32.ofNat (k9 - 1)))) ht ha (if_pos rfl) hk hp9 h21 rfl rfl rfl (by rw [← ek, m_up_s]) rfl rfl rfl rfl rfl rfl rfl
    exact ⟨ek, by omega, f2, f3, by rw [ek]; exact f4, f5⟩
  refine ⟨?_, fun p9 k9 hp9 h21 h22 hk90 => ?_, ?_⟩
  · rcases h.2.1.2.2.1 t ht ha with ⟨r1, _⟩ | ⟨p, p1, p2, p3, _⟩
    · exact Or.inl r1
    · have e22 := h.2.1.2.2.2.1 p p1 p3
      have hle : m_kc (A 27) (A 21) p 90 ≤ 90 := m_kc_le 90
      obtain ⟨g1, g2, g3, g4, g5, g6⟩ := key p _ p1 p2 e22 hle
      refine Or.inr ⟨p, _, p1, p2, e22, g2, hle, fun e1 => ?_⟩
      exact (g6.put p1 g3 g4 (by rw [e1] at g5; exact g5)).1
  · obtain ⟨g1, g2, g3, g4, g5, g6⟩ := key p9 k9 hp9 h21 h22 hk90
    exact ⟨fun e1 => (g6.put hp9 g3 g4 (by rw [e1] at g5; rw [e1]; exact g5)).2, fun _ => g6⟩
  · have := m_ms_set (f := A 1) (th := A 27) (th' := upd (A 27) t 0) (pn := pn) (pn' := pn) 90 ht (fun y _ hy => ⟨upd_n hy, rfl⟩)
    rw [if_neg ha, if_pos upd_s] at this
    have hw : m_wt (A 1) (pn t) = 1300 - pn t := if_pos (Or.inr (Or.inr e))
    omega
end RK
