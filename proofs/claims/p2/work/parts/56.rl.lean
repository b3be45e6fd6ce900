-- ===== 56.rl: hand and make over the state of a run =====
section RL
variable {A A' : Nat → Nat → Int32} {q : Nat} {V : Nat → Prop} {own pown : Nat → Nat} {bl : List Nat} {role : Nat → Nat} {n : Nat} {pn br st : Nat → Nat}
theorem m_RI.qlt (h : m_RI A q V own pown bl role n pn br st) : q < 90 := by
  have h1 := h.place
  obtain ⟨t, ht⟩ := Classical.not_forall.mp h1
  have ht9 : t < 90 := by
    rcases Nat.lt_or_ge t 90 with h2 | h2
    · exact h2
    · exact absurd (fun h3 => absurd h3 (by omega)) ht
  have hta : ¬ m_al A t := fun h2 => ht (fun _ => h2)
  obtain ⟨q1, q2, q3⟩ := h.2.2.1
  have hm : ∀ i, i < q → Int32.toNatClampNeg (A 24 i) < 90 ∧ Int32.toNatClampNeg (A 24 i) ≠ t ∧ A 24 i = Int32.ofNat (Int32.toNatClampNeg (A 24 i)) := fun i hi => by
    obtain ⟨x, x1, x2, x3, x4⟩ := q2 i hi
    rw [x2, x_nat (by omega)]
    exact ⟨x1, fun e => hta (e ▸ x3), rfl⟩
  have h9 := m_pig (q + 1) (fun i => if i = q then t else Int32.toNatClampNeg (A 24 i)) (List.range 90) (fun i hi => ?_) (fun i j hi hj e => ?_)
  · rw [List.length_range] at h9; omega
  · rw [List.mem_range]
    by_cases e : i = q
    · simp only [if_pos e]; exact ht9
    · simp only [if_neg e]; exact (hm i (by omega)).1
  · by_cases e1 : i = q
    · by_cases e2 : j = q
      · omega
      · simp only [if_pos e1, if_neg e2] at e
        exact absurd e.symm (hm j (by omega)).2.1
    · by_cases e2 : j = q
      · simp only [if_neg e1, if_pos e2] at e
        exact absurd e (hm i (by omega)).2.1
      · simp only [if_neg e1, if_neg e2] at e
        exact q3 i j (by omega) (by omega) (by rw [(hm i (by omega)).2.2, (hm j (by omega)).2.2, e])
theorem m_RI.hand {c r x : Nat} (h : m_RI A q V own pown bl role n pn br st) (hr : r < 90) (har : m_al A r) (hsr : st r = 4) (e37 : A 37 c = Int32.ofNat x) (hx : V x) (hox : own x = br r) (hfa : m_fa [3, 20, 24, 35] A A') (e20 : A' 20 = upd (A 20) r (A 37 c)) (e24 : A' 24 = upd (A 24) q (Int32.ofNat r)) (e35 : ∀ y, y < 6 → (A 35 y = Int32.ofNat r ∧ A' 35 y = -1) ∨ (¬ A 35 y = Int32.ofNat r ∧ A' 35 y = A 35 y)) :
    m_RI A' (q + 1) V own pown bl role n (fun y => if y = r then x else pn y) br (fun y => if y = r then 1 else (if y = r then 0 else st y)) := by
  have hk := h.kc0 hr har (by omega)
  have h1 := (h.pc (t := r) hx hox).unread (A' := m_up (m_up A 20 (upd (A 20) r (Int32.ofNat x))) 35 (A' 35)) hsr hr rfl rfl rfl rfl rfl rfl rfl (fun y hy => by rw [m_up_s]; exact e35 y hy) rfl rfl rfl
  have h2 := (h1.put hr har (if_pos rfl) hk).2
  exact h2.eq (hfa 1 (by decide)) (by rw [e20, e37]; rfl) (hfa 21 (by decide)) (hfa 22 (by decide)) e24 (hfa 27 (by decide)) (hfa 28 (by decide)) rfl (hfa 36 (by decide)) (hfa 37 (by decide)) (hfa 38 (by decide))
theorem m_RI.spawn {t t0 y : Nat} (h : m_RI A q V own pown bl role n pn br st) (ht : t < 90) (ha : m_al A t) (hs0 : st t = 0) (ht0 : t0 < 90) (hn0 : A 27 t0 = 0) (hy : V y) (hoy : own y = y) (hpy : pown y = br t) (hyb : y ∈ bl) (hno : ∀ x, x < 90 → m_al A x → br x ≠ y)
    (e1 : A' 1 = A 1) (e20 : A' 20 = upd (A 20) t0 (Int32.ofNat y)) (e21 : A' 21 = upd (A 21) t0 (Int32.ofNat t)) (e22 : A' 22 = upd (upd (A 22) t (Int32.ofNat (m_kc (A 27) (A 21) t 90 + 1))) t0 0) (e24 : A' 24 = upd (A 24) q (Int32.ofNat t0)) (e27 : A' 27 = upd (A 27) t0 1) (e28 : A' 28 = upd (A 28) t0 0) (e35 : A' 35 = A 35) (e36 : A' 36 = A 36) (e37 : A' 37 = A 37) (e38 : A' 38 = A 38) :
    m_RI A' (q + 1) V own pown bl role n (fun x => if x = t0 then y else pn x) (fun x => if x = t0 then y else br x) (fun x => if x = t0 then 1 else (if x = t0 then 0 else st x)) ∧ t ≠ t0 ∧ m_al A' t ∧ m_kc (A' 27) (A' 21) t 90 = m_kc (A 27) (A 21) t 90 + 1 := by
  obtain ⟨f1, f2, f3⟩ := h.make (A' := m_up A' 24 (A 24)) ht ha hs0 ht0 hn0 hy hoy hpy hyb hno e1 e20 e21 e22 rfl e27 e28 e35 e36 e37 e38
  have hal0 : m_al (m_up A' 24 (A 24)) t0 := by
    show ¬ A' 27 t0 = 0
    rw [e27, upd_s]; decide
  have hne : t ≠ t0 := fun e => ha (by rw [e]; exact hn0)
  refine ⟨(f1.put ht0 hal0 (if_pos rfl) f2).2.eq rfl rfl rfl rfl ?_ rfl rfl rfl rfl rfl rfl, hne, ?_, f3⟩
  · rw [e24]; rfl
  · show ¬ A' 27 t = 0
    rw [e27, upd_n hne]; exact ha
/-- no task is there yet for a branch of a PAR whose task has no kids -/
theorem m_RI.nobr {t y : Nat} (h : m_RI A q V own pown bl role n pn br st) (ht : t < 90) (ha : m_al A t) (hk : m_kc (A 27) (A 21) t 90 = 0) (hy0 : 0 < y) (hpy : pown y = br t) : ∀ x, x < 90 → m_al A x → br x ≠ y := fun x hx hax e => by
  rcases h.2.1.2.2.1 x hx hax with ⟨_, r2⟩ | ⟨p, p1, p2, p3, p4⟩
  · omega
  · rw [e, hpy] at p4
    have := h.2.1.2.1 p t p1 ht p3 ha p4
    subst this
    have := m_kc_pos 90 hx hax p2
    omega
end RL
def m_BX (I : Nat → Int32) : Prop := (∃ g : Nat, g ≤ 8 ∧ I 42 = Int32.ofNat g) ∧ ∃ b : Nat, b ≤ 8 ∧ I 43 = Int32.ofNat b
