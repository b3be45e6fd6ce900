-- ===== 51.rj: how the state of a run changes =====
section RJ
variable {A A' : Nat → Nat → Int32} {q : Nat} {V : Nat → Prop} {own pown : Nat → Nat} {bl : List Nat} {role : Nat → Nat} {n : Nat} {pn br st : Nat → Nat}
theorem m_RI.eq (h : m_RI A q V own pown bl role n pn br st) (e1 : A' 1 = A 1) (e20 : A' 20 = A 20) (e21 : A' 21 = A 21) (e22 : A' 22 = A 22) (e24 : A' 24 = A 24) (e27 : A' 27 = A 27) (e28 : A' 28 = A 28) (e35 : A' 35 = A 35) (e36 : A' 36 = A 36) (e37 : A' 37 = A 37) (e38 : A' 38 = A 38) : m_RI A' q V own pown bl role n pn br st := by
  unfold m_RI m_TS m_QU m_CH m_al at *
  (try dsimp only); rw [e1, e20, e21, e22, e24, e27, e28, e35, e36, e37, e38]
  exact h
/-- a task is made -/
theorem m_RI.make {t t0 y : Nat} (h : m_RI A q V own pown bl role n pn br st) (ht : t < 90) (ha : m_al A t) (hs0 : st t = 0) (ht0 : t0 < 90) (hn0 : A 27 t0 = 0) (hy : V y) (hoy : own y = y) (hpy : pown y = br t) (hyb : y ∈ bl) (hno : ∀ x, x < 90 → m_al A x → br x ≠ y)
    (e1 : A' 1 = A 1) (e20 : A' 20 = upd (A 20) t0 (Int32.ofNat y)) (e21 : A' 21 = upd (A 21) t0 (Int32.ofNat t)) (e22 : A' 22 = upd (upd (A 22) t (Int32.ofNat (m_kc (A 27) (A 21) t 90 + 1))) t0 0) (e24 : A' 24 = A 24) (e27 : A' 27 = upd (A 27) t0 1) (e28 : A' 28 = upd (A 28) t0 0) (e35 : A' 35 = A 35) (e36 : A' 36 = A 36) (e37 : A' 37 = A 37) (e38 : A' 38 = A 38) :
    m_RI A' q V own pown bl role n (fun x => if x = t0 then y else pn x) (fun x => if x = t0 then y else br x) (fun x => if x = t0 then 0 else st x) ∧ m_kc (A' 27) (A' 21) t0 90 = 0 ∧ m_kc (A' 27) (A' 21) t 90 = m_kc (A 27) (A 21) t 90 + 1 := by
  obtain ⟨h1, ⟨t1, t2, t3, t4, t5⟩, ⟨q1, q2, q3⟩, c1, c2, c3, c4⟩ := h
  have hne : ∀ x, m_al A x → x ≠ t0 := fun x hx e => hx (by rw [e]; exact hn0)
  have htne := hne t ha
  have hal : ∀ x, m_al A' x ↔ m_al A x ∨ x = t0 := fun x => by
    unfold m_al; rw [e27]
    by_cases e : x = t0
    · (try dsimp only); rw [e, upd_s]; exact ⟨fun _ => Or.inr rfl, fun _ => by decide⟩
    · (try dsimp only); rw [upd_n e]; exact ⟨fun h => Or.inl h, fun h => h.elim id (fun h => absurd h e)⟩
  have kset : ∀ p, m_kc (A' 27) (A' 21) p 90 + (if ¬ A 27 t0 = 0 ∧ A 21 t0 = Int32.ofNat p then 1 else 0) = m_kc (A 27) (A 21) p 90 + (if ¬ A' 27 t0 = 0 ∧ A' 21 t0 = Int32.ofNat p then 1 else 0) := fun p => m_kc_set 90 ht0 (fun x _ hx => by rw [e27, e21, upd_n hx, upd_n hx]; exact ⟨rfl, rfl⟩)
  have kn : ∀ p, p < 90 → p ≠ t → m_kc (A' 27) (A' 21) p 90 = m_kc (A 27) (A 21) p 90 := fun p hp hpt => by
    have := kset p
    rw [if_neg (fun h => h.1 hn0), if_neg (fun h => ?_)] at this
    · omega
    · have e := h.2
      rw [e21, upd_s] at e
      exact hpt (x_inj (by omega) (by omega) e).symm
  have kt : m_kc (A' 27) (A' 21) t 90 = m_kc (A 27) (A 21) t 90 + 1 := by
    have := kset t
    rw [if_neg (fun h => h.1 hn0), if_pos ⟨by rw [e27, upd_s]; decide, by rw [e21, upd_s]⟩] at this
    omega
  have k0 : m_kc (A 27) (A 21) t0 90 = 0 := by
    have e : m_kc (A 27) (A 21) t0 90 = m_kc (fun _ => 0) (A 21) t0 90 := m_kc_same 90 (fun x hx => ⟨fun h => by
      rcases t3 x hx h.1 with ⟨r1, _⟩ | ⟨p, p1, p2, p3, _⟩
      · rw [r1] at h; exact absurd h.2.symm (x_n1 (by omega))
      · rw [p2] at h
        exact absurd (x_inj (by omega) (by omega) h.2) (hne p p3), fun h => absurd rfl h.1⟩)
    (try dsimp only); rw [e]
    have : ∀ m, m_kc (fun _ => 0) (A 21) t0 m = 0 := fun m => by
      induction m with
      | zero => rfl
      | succ m ih => show m_kc _ _ t0 m + _ = 0; rw [ih, if_neg (fun h => h.1 rfl)]
    exact this 90
  have k0' : m_kc (A' 27) (A' 21) t0 90 = 0 := by rw [kn t0 ht0 (fun e => htne e.symm)]; exact k0
  have hs : ∀ x, m_al A x → (if x = t0 then 0 else st x) = st x := fun x hx => if_neg (hne x hx)
  refine ⟨⟨⟨by rw [e1]; exact h1.1, h1.2⟩, ⟨fun x hx hax => ?_, fun x x' hx hx' hax hax' e => ?_, fun x hx hax => ?_, fun x hx hax => ?_, fun x hx hax hne' => ?_⟩, ⟨q1, fun i hi => ?_, fun i j hi hj e => q3 i j hi hj (by rw [e24] at e; exact e)⟩, fun x hx hax hnz => ?_, fun c hc => ?_, fun c hc => ?_, fun c c' hc hc' e he => c4 c c' hc hc' (by rw [e38] at e; exact e) (by rw [e38] at he; exact he)⟩, k0', kt⟩
  · (try dsimp only); rw [e20]
    rcases (hal x).mp hax with ha' | e
    · obtain ⟨a1, a2, a3, a4⟩ := t1 x hx ha'
      have := hne x ha'
      try dsimp only
      (try dsimp only); rw [upd_n this, if_neg this, if_neg this]
      exact ⟨a1, a2, a3, a4⟩
    · (try dsimp only)
      (try dsimp only); rw [e, upd_s, if_pos rfl, if_pos rfl]
      exact ⟨rfl, hy, hoy, hyb⟩
  · try dsimp only at e
    rcases (hal x).mp hax with ha1 | e1'
    · rcases (hal x').mp hax' with ha2 | e2'
      · rw [if_neg (hne x ha1), if_neg (hne x' ha2)] at e
        exact t2 x x' hx hx' ha1 ha2 e
      · rw [if_neg (hne x ha1), if_pos e2'] at e
        exact absurd e (hno x hx ha1)
    · rcases (hal x').mp hax' with ha2 | e2'
      · rw [if_pos e1', if_neg (hne x' ha2)] at e
        exact absurd e.symm (hno x' hx' ha2)
      · omega
  · rcases (hal x).mp hax with ha' | e
    · have hx0 := hne x ha'
      try dsimp only
      (try dsimp only); rw [e21, upd_n hx0, if_neg hx0]
      rcases t3 x hx ha' with r | ⟨p, p1, p2, p3, p4⟩
      · exact Or.inl r
      · exact Or.inr ⟨p, p1, p2, (hal p).mpr (Or.inl p3), by rw [if_neg (hne p p3)]; exact p4⟩
    · (try dsimp only)
      (try dsimp only); rw [e21, e, upd_s, if_pos rfl]
      exact Or.inr ⟨t, ht, rfl, (hal t).mpr (Or.inl ha), by rw [if_neg htne]; exact hpy.symm⟩
  · (try dsimp only); rw [e22]
    by_cases e : x = t0
    · (try dsimp only); rw [e, upd_s, k0']; rfl
    · (try dsimp only); rw [upd_n e]
      rcases (hal x).mp hax with ha' | e'
      · by_cases ex : x = t
        · (try dsimp only); rw [ex, upd_s, kt]
        · (try dsimp only); rw [upd_n ex, kn x hx ex]; exact t4 x hx ha'
      · exact absurd e' e
  · by_cases e : x = t0
    · (try dsimp only); rw [e]; exact k0'
    · try dsimp only at hne'
      rw [if_neg e] at hne'
      rcases (hal x).mp hax with ha' | e'
      · (try dsimp only); rw [kn x hx (fun e9 => hne' (by rw [e9]; exact hs0))]
        exact t5 x hx ha' hne'
      · exact absurd e' e
  · obtain ⟨x, x1, x2, x3, x4⟩ := q2 i hi
    exact ⟨x, x1, by rw [e24]; exact x2, (hal x).mpr (Or.inl x3), (hs x x3).trans x4⟩
  · rw [e28] at hnz
    rcases (hal x).mp hax with ha' | e
    · have := hne x ha'
      rw [upd_n this] at hnz
      exact (hs x ha').trans (c1 x hx ha' hnz)
    · rw [e, upd_s] at hnz; exact absurd rfl hnz
  · (try dsimp only); rw [e35, e36, e37]
    rcases c2 c hc with e | ⟨x, v, z, x1, x2, x3, x4, x5, x6, x7, x8, x9⟩
    · exact Or.inl e
    · exact Or.inr ⟨x, v, z, x1, x2, (hal x).mpr (Or.inl x3), (hs x x3).trans x4, x5, x6, x7, x8, by rw [if_neg (hne x x3)]; exact x9⟩
  · (try dsimp only); rw [e38]
    rcases c3 c hc with e | ⟨x, x1, x2, x3, x4⟩
    · exact Or.inl e
    · exact Or.inr ⟨x, x1, x2, (hal x).mpr (Or.inl x3), (hs x x3).trans x4⟩
/-- a task ends that isn't the program's -/
theorem m_RI.finish {t p : Nat} (h : m_RI A q V own pown bl role n pn br st) (ht : t < 90) (ha : m_al A t) (hs0 : st t = 0) (hk : m_kc (A 27) (A 21) t 90 = 0) (hp : p < 90) (hpt : A 21 t = Int32.ofNat p)
    (e1 : A' 1 = A 1) (e20 : A' 20 = A 20) (e21 : A' 21 = A 21) (e22 : A' 22 = upd (A 22) p (Int32.ofNat (m_kc (A 27) (A 21) p 90 - 1))) (e24 : A' 24 = A 24) (e27 : A' 27 = upd (A 27) t 0) (e28 : A' 28 = A 28) (e35 : A' 35 = A 35) (e36 : A' 36 = A 36) (e37 : A' 37 = A 37) (e38 : A' 38 = A 38) :
    1 ≤ m_kc (A 27) (A 21) p 90 ∧ m_al A' p ∧ st p = 0 ∧ m_kc (A' 27) (A' 21) p 90 = m_kc (A 27) (A 21) p 90 - 1 ∧ m_RI A' q V own pown bl role n pn br st := by
  obtain ⟨h1, ⟨t1, t2, t3, t4, t5⟩, ⟨q1, q2, q3⟩, c1, c2, c3, c4⟩ := h
  have hkp : 1 ≤ m_kc (A 27) (A 21) p 90 := m_kc_pos 90 ht ha hpt
  have hal : ∀ x, m_al A' x ↔ m_al A x ∧ x ≠ t := fun x => by
    unfold m_al; rw [e27]
    by_cases e : x = t
    · (try dsimp only); rw [e, upd_s]; exact ⟨fun h => absurd rfl h, fun h => absurd rfl h.2⟩
    · (try dsimp only); rw [upd_n e]; exact ⟨fun h => ⟨h, e⟩, fun h => h.1⟩
  have hap : m_al A p := by
    rcases t3 t ht ha with ⟨r1, _⟩ | ⟨p', p1, p2, p3, _⟩
    · rw [hpt] at r1; exact absurd r1 (x_n1 (by omega))
    · rw [hpt] at p2; rw [x_inj (by omega) (by omega) p2]; exact p3
  have hpne : p ≠ t := fun e => by rw [e] at hkp; omega
  have hsp : st p = 0 := by
    rcases Nat.eq_zero_or_pos (st p) with e | e
    · exact e
    · have := t5 p hp hap (by omega); omega
  have kset : ∀ x, m_kc (A' 27) (A' 21) x 90 + (if ¬ A 27 t = 0 ∧ A 21 t = Int32.ofNat x then 1 else 0) = m_kc (A 27) (A 21) x 90 + (if ¬ A' 27 t = 0 ∧ A' 21 t = Int32.ofNat x then 1 else 0) := fun x => m_kc_set 90 ht (fun y _ hy => by rw [e27, e21, upd_n hy]; exact ⟨rfl, rfl⟩)
  have kp : m_kc (A' 27) (A' 21) p 90 = m_kc (A 27) (A 21) p 90 - 1 := by
    have := kset p
    rw [if_pos ⟨ha, hpt⟩, if_neg (fun h => h.1 (by rw [e27, upd_s]))] at this
    omega
  have kn : ∀ x, x < 90 → x ≠ p → m_kc (A' 27) (A' 21) x 90 = m_kc (A 27) (A 21) x 90 := fun x hx hxp => by
    have := kset x
    rw [if_neg (fun h => hxp (by have e := h.2; rw [hpt] at e; exact (x_inj (by omega) (by omega) e).symm)), if_neg (fun h => h.1 (by rw [e27, upd_s]))] at this
    omega
  have hst : ∀ x, st x ≠ 0 → x ≠ t := fun x hx e => hx (by rw [e]; exact hs0)
  refine ⟨hkp, (hal p).mpr ⟨hap, hpne⟩, hsp, kp, ⟨by rw [e1]; exact h1.1, h1.2⟩, ⟨fun x hx hax => ?_, fun x x' hx hx' hax hax' e => t2 x x' hx hx' ((hal x).mp hax).1 ((hal x').mp hax').1 e, fun x hx hax => ?_, fun x hx hax => ?_, fun x hx hax hne => ?_⟩, ⟨q1, fun i hi => ?_, fun i j hi hj e => q3 i j hi hj (by rw [e24] at e; exact e)⟩, fun x hx hax hnz => c1 x hx ((hal x).mp hax).1 (by rw [e28] at hnz; exact hnz), fun c hc => ?_, fun c hc => ?_, fun c c' hc hc' e he => c4 c c' hc hc' (by rw [e38] at e; exact e) (by rw [e38] at he; exact he)⟩
  · (try dsimp only); rw [e20]; exact t1 x hx ((hal x).mp hax).1
  · (try dsimp only); rw [e21]
    rcases t3 x hx ((hal x).mp hax).1 with r | ⟨p', p1, p2, p3, p4⟩
    · exact Or.inl r
    · refine Or.inr ⟨p', p1, p2, (hal p').mpr ⟨p3, fun e => ?_⟩, p4⟩
      rw [e] at p2
      have := m_kc_pos 90 hx ((hal x).mp hax).1 p2
      omega
  · (try dsimp only); rw [e22]
    by_cases e : x = p
    · (try dsimp only); rw [e, upd_s, kp]
    · (try dsimp only); rw [upd_n e, kn x hx e]; exact t4 x hx ((hal x).mp hax).1
  · have := t5 x hx ((hal x).mp hax).1 hne
    by_cases e : x = p
    · rw [e, kp]; rw [e] at this; omega
    · (try dsimp only); rw [kn x hx e]; exact this
  · obtain ⟨x, x1, x2, x3, x4⟩ := q2 i hi
    exact ⟨x, x1, by rw [e24]; exact x2, (hal x).mpr ⟨x3, hst x (by omega)⟩, x4⟩
  · (try dsimp only); rw [e35, e36, e37]
    rcases c2 c hc with e | ⟨x, v, z, x1, x2, x3, x4, x5⟩
    · exact Or.inl e
    · exact Or.inr ⟨x, v, z, x1, x2, (hal x).mpr ⟨x3, hst x (by omega)⟩, x4, x5⟩
  · (try dsimp only); rw [e38]
    rcases c3 c hc with e | ⟨x, x1, x2, x3, x4⟩
    · exact Or.inl e
    · exact Or.inr ⟨x, x1, x2, (hal x).mpr ⟨x3, hst x (by omega)⟩, x4⟩
/-- a task reads, no longer reads, writes, no longer writes -/
theorem m_RI.read {t c v x : Nat} (h : m_RI A q V own pown bl role n pn br st) (ht : t < 90) (ha : m_al A t) (hs0 : st t = 0 ∨ st t = 4) (hk : m_kc (A 27) (A 21) t 90 = 0) (hc : c < 6) (hv : v < 6) (hx : V x) (ho : own x = br t)
    (e1 : A' 1 = A 1) (e20 : A' 20 = A 20) (e21 : A' 21 = A 21) (e22 : A' 22 = A 22) (e24 : A' 24 = A 24) (e27 : A' 27 = A 27) (e28 : A' 28 = A 28) (e35 : A' 35 = upd (A 35) c (Int32.ofNat t)) (e36 : A' 36 = upd (A 36) c (Int32.ofNat v)) (e37 : A' 37 = upd (A 37) c (Int32.ofNat x)) (e38 : A' 38 = A 38) :
    m_RI A' q V own pown bl role n pn br (fun y => if y = t then 4 else st y) := by
  obtain ⟨h1, ⟨t1, t2, t3, t4, t5⟩, ⟨q1, q2, q3⟩, c1, c2, c3, c4⟩ := h
  have hs : ∀ y, st y ≠ 0 → (if y = t then 4 else st y) = st y := fun y hy => by
    split
    · rename_i e
      rcases hs0 with e0 | e0
      · exact absurd (by rw [e]; exact e0) hy
      · (try dsimp only); rw [e]; exact e0.symm
    · rfl
  unfold m_RI m_TS m_QU m_CH m_al at *
  (try dsimp only); rw [e1, e20, e21, e22, e24, e27, e28, e35, e36, e37, e38]
  refine ⟨h1, ⟨t1, t2, t3, t4, fun y hy ha hne => ?_⟩, ⟨q1, fun i hi => ?_, q3⟩, fun y hy ha hne => ?_, fun c' hc' => ?_, fun c' hc' => ?_, c4⟩
  · by_cases e : y = t
    · (try dsimp only); rw [e]; exact hk
    · rw [if_neg e] at hne
      exact t5 y hy ha hne
  · obtain ⟨y, x1, x2, x3, x4⟩ := q2 i hi
    exact ⟨y, x1, x2, x3, (hs y (by omega)).trans x4⟩
  · have := c1 y hy ha hne
    exact (hs y (by omega)).trans this
  · by_cases e : c' = c
    · subst e
      exact Or.inr ⟨t, v, x, ht, upd_s, ha, if_pos rfl, upd_s, hv, upd_s, hx, ho⟩
    · (try dsimp only); rw [upd_n e, upd_n e, upd_n e]
      rcases c2 c' hc' with e | ⟨y, w, z, x1, x2, x3, x4, x5⟩
      · exact Or.inl e
      · exact Or.inr ⟨y, w, z, x1, x2, x3, (hs y (by omega)).trans x4, x5⟩
  · rcases c3 c' hc' with e | ⟨y, x1, x2, x3, x4⟩
    · exact Or.inl e
    · exact Or.inr ⟨y, x1, x2, x3, (hs y (by omega)).trans x4⟩
theorem m_RI.unread {t : Nat} (h : m_RI A q V own pown bl role n pn br st) (hst : st t = 4) (ht : t < 90)
    (e1 : A' 1 = A 1) (e20 : A' 20 = A 20) (e21 : A' 21 = A 21) (e22 : A' 22 = A 22) (e24 : A' 24 = A 24) (e27 : A' 27 = A 27) (e28 : A' 28 = A 28) (e35 : ∀ c, c < 6 → (A 35 c = Int32.ofNat t ∧ A' 35 c = -1) ∨ (¬ A 35 c = Int32.ofNat t ∧ A' 35 c = A 35 c)) (e36 : A' 36 = A 36) (e37 : A' 37 = A 37) (e38 : A' 38 = A 38) :
    m_RI A' q V own pown bl role n pn br (fun y => if y = t then 0 else st y) := by
  obtain ⟨h1, ⟨t1, t2, t3, t4, t5⟩, ⟨q1, q2, q3⟩, c1, c2, c3, c4⟩ := h
  have hs : ∀ y, st y ≠ 4 → (if y = t then 0 else st y) = st y := fun y hy => if_neg (fun e => hy (by rw [e]; exact hst))
  unfold m_RI m_TS m_QU m_CH m_al at *
  (try dsimp only); rw [e1, e20, e21, e22, e24, e27, e28, e36, e37, e38]
  refine ⟨h1, ⟨t1, t2, t3, t4, fun y hy ha hne => t5 y hy ha (fun e => hne ?_)⟩, ⟨q1, fun i hi => ?_, q3⟩, fun y hy ha hne => ?_, fun c' hc' => ?_, fun c' hc' => ?_, c4⟩
  · split
    · rfl
    · exact e
  · obtain ⟨y, x1, x2, x3, x4⟩ := q2 i hi
    exact ⟨y, x1, x2, x3, (hs y (by omega)).trans x4⟩
  · have := c1 y hy ha hne
    exact (hs y (by omega)).trans this
  · rcases e35 c' hc' with ⟨_, r2⟩ | ⟨r1, r2⟩
    · exact Or.inl r2
    · (try dsimp only); rw [r2]
      rcases c2 c' hc' with e | ⟨y, w, z, x1, x2, x3, x4, x5⟩
      · exact Or.inl e
      · exact Or.inr ⟨y, w, z, x1, x2, x3, (if_neg (fun e => r1 (by rw [x2, e]))).trans x4, x5⟩
  · rcases c3 c' hc' with e | ⟨y, x1, x2, x3, x4⟩
    · exact Or.inl e
    · exact Or.inr ⟨y, x1, x2, x3, (hs y (by omega)).trans x4⟩
theorem m_RI.write {t c : Nat} (h : m_RI A q V own pown bl role n pn br st) (ht : t < 90) (ha : m_al A t) (hs0 : st t = 0) (hk : m_kc (A 27) (A 21) t 90 = 0)
    (e1 : A' 1 = A 1) (e20 : A' 20 = A 20) (e21 : A' 21 = A 21) (e22 : A' 22 = A 22) (e24 : A' 24 = A 24) (e27 : A' 27 = A 27) (e28 : A' 28 = A 28) (e35 : A' 35 = A 35) (e36 : A' 36 = A 36) (e37 : A' 37 = A 37) (e38 : A' 38 = upd (A 38) c (Int32.ofNat t)) :
    m_RI A' q V own pown bl role n pn br (fun y => if y = t then 5 else st y) := by
  obtain ⟨h1, ⟨t1, t2, t3, t4, t5⟩, ⟨q1, q2, q3⟩, c1, c2, c3, c4⟩ := h
  have hs : ∀ y, st y ≠ 0 → (if y = t then 5 else st y) = st y := fun y hy => if_neg (fun e => hy (by rw [e]; exact hs0))
  have hno : ∀ c', c' < 6 → ¬ A 38 c' = Int32.ofNat t := fun c' hc' e => by
    rcases c3 c' hc' with e' | ⟨y, x1, x2, x3, x4⟩
    · rw [e'] at e; exact x_n1 (by omega) e.symm
    · rw [x2] at e
      rw [x_inj (by omega) (by omega) e] at x4; omega
  unfold m_RI m_TS m_QU m_CH m_al at *
  (try dsimp only); rw [e1, e20, e21, e22, e24, e27, e28, e35, e36, e37, e38]
  refine ⟨h1, ⟨t1, t2, t3, t4, fun y hy ha hne => ?_⟩, ⟨q1, fun i hi => ?_, q3⟩, fun y hy ha hne => ?_, fun c' hc' => ?_, fun c' hc' => ?_, fun c' c2' hc' hc2' e he => ?_⟩
  · by_cases e : y = t
    · (try dsimp only); rw [e]; exact hk
    · rw [if_neg e] at hne
      exact t5 y hy ha hne
  · obtain ⟨y, x1, x2, x3, x4⟩ := q2 i hi
    exact ⟨y, x1, x2, x3, (hs y (by omega)).trans x4⟩
  · have := c1 y hy ha hne
    exact (hs y (by omega)).trans this
  · rcases c2 c' hc' with e | ⟨y, w, z, x1, x2, x3, x4, x5⟩
    · exact Or.inl e
    · exact Or.inr ⟨y, w, z, x1, x2, x3, (hs y (by omega)).trans x4, x5⟩
  · by_cases e : c' = c
    · subst e
      exact Or.inr ⟨t, ht, upd_s, ha, if_pos rfl⟩
    · (try dsimp only); rw [upd_n e]
      rcases c3 c' hc' with e | ⟨y, x1, x2, x3, x4⟩
      · exact Or.inl e
      · exact Or.inr ⟨y, x1, x2, x3, (hs y (by omega)).trans x4⟩
  · by_cases e1 : c' = c
    · by_cases e2 : c2' = c
      · omega
      · rw [e1, upd_s, upd_n e2] at e
        exact absurd e.symm (hno c2' hc2')
    · by_cases e2 : c2' = c
      · rw [e2, upd_s, upd_n e1] at e
        exact absurd e (hno c' hc')
      · rw [upd_n e1, upd_n e2] at e
        rw [upd_n e1] at he
        exact c4 c' c2' hc' hc2' e he
theorem m_RI.unwrite {t c : Nat} (h : m_RI A q V own pown bl role n pn br st) (hc : c < 6) (ht : t < 90) (hw : A 38 c = Int32.ofNat t) (hst : st t = 5)
    (e1 : A' 1 = A 1) (e20 : A' 20 = A 20) (e21 : A' 21 = A 21) (e22 : A' 22 = A 22) (e24 : A' 24 = A 24) (e27 : A' 27 = A 27) (e28 : A' 28 = A 28) (e35 : A' 35 = A 35) (e36 : A' 36 = A 36) (e37 : A' 37 = A 37) (e38 : A' 38 = upd (A 38) c (-1)) :
    m_RI A' q V own pown bl role n pn br (fun y => if y = t then 0 else st y) := by
  obtain ⟨h1, ⟨t1, t2, t3, t4, t5⟩, ⟨q1, q2, q3⟩, c1, c2, c3, c4⟩ := h
  have hs : ∀ y, st y ≠ 5 → (if y = t then 0 else st y) = st y := fun y hy => if_neg (fun e => hy (by rw [e]; exact hst))
  unfold m_RI m_TS m_QU m_CH m_al at *
  (try dsimp only); rw [e1, e20, e21, e22, e24, e27, e28, e35, e36, e37, e38]
  refine ⟨h1, ⟨t1, t2, t3, t4, fun y hy ha hne => t5 y hy ha (fun e => hne ?_)⟩, ⟨q1, fun i hi => ?_, q3⟩, fun y hy ha hne => ?_, fun c' hc' => ?_, fun c' hc' => ?_, fun c' c2' hc' hc2' e he => ?_⟩
  · split
    · rfl
    · exact e
  · obtain ⟨y, x1, x2, x3, x4⟩ := q2 i hi
    exact ⟨y, x1, x2, x3, (hs y (by omega)).trans x4⟩
  · have := c1 y hy ha hne
    exact (hs y (by omega)).trans this
  · rcases c2 c' hc' with e | ⟨y, w, z, x1, x2, x3, x4, x5⟩
    · exact Or.inl e
    · exact Or.inr ⟨y, w, z, x1, x2, x3, (hs y (by omega)).trans x4, x5⟩
  · by_cases e : c' = c
    · (try dsimp only); rw [e]; exact Or.inl upd_s
    · (try dsimp only); rw [upd_n e]
      rcases c3 c' hc' with e9 | ⟨y, x1, x2, x3, x4⟩
      · exact Or.inl e9
      · refine Or.inr ⟨y, x1, x2, x3, (if_neg (fun e9 => ?_)).trans x4⟩
        exact e (c4 c' c hc' hc (by rw [x2, hw, e9]) (by rw [x2]; exact x_n1 (by omega)))
  · by_cases e1 : c' = c
    · rw [e1, upd_s] at he; exact absurd rfl he
    · rw [upd_n e1] at he e
      by_cases e2 : c2' = c
      · rw [e2, upd_s] at e; exact absurd e he
      · rw [upd_n e2] at e
        exact c4 c' c2' hc' hc2' e he
end RJ
/-- how far the tasks are from an ACT -/
def m_wt (f : Nat → Int32) (p : Nat) : Nat := if f p = 10 ∨ f p = 11 ∨ f p = 12 then 1300 - p else 0
def m_ms (f th : Nat → Int32) (pn : Nat → Nat) : Nat → Nat
  | 0 => 0
  | n + 1 => m_ms f th pn n + (if th n = 0 then 0 else m_wt f (pn n))
theorem m_ms_set {f th th' : Nat → Int32} {pn pn' : Nat → Nat} {t0 : Nat} : ∀ n, t0 < n → (∀ t, t < n → t ≠ t0 → th' t = th t ∧ pn' t = pn t) → m_ms f th' pn' n + (if th t0 = 0 then 0 else m_wt f (pn t0)) = m_ms f th pn n + (if th' t0 = 0 then 0 else m_wt f (pn' t0)) := by
  intro n
  induction n with
  | zero => intro h; omega
  | succ n ih =>
    intro ht h
    show m_ms f th' pn' n + _ + _ = m_ms f th pn n + _ + _
    by_cases e : t0 = n
    · subst e
      have e1 : ∀ m, m ≤ t0 → m_ms f th' pn' m = m_ms f th pn m := by
        intro m
        induction m with
        | zero => intro _; rfl
        | succ m ihm =>
          intro hm
          obtain ⟨a, b⟩ := h m (by omega) (by omega)
          show m_ms f th' pn' m + _ = m_ms f th pn m + _
          (try dsimp only); rw [ihm (by omega), a, b]
      (try dsimp only); rw [e1 t0 (Nat.le_refl _)]
      omega
    · have h1 := ih (by omega) (fun t h1 h2 => h t (by omega) h2)
      obtain ⟨a, b⟩ := h n (by omega) (by omega)
      (try dsimp only); rw [a, b]
      omega
/-- how many tasks are timed -/
def m_tc (th ti : Nat → Int32) : Nat → Nat
  | 0 => 0
  | n + 1 => m_tc th ti n + (if ¬ th n = 0 ∧ ¬ ti n = 0 then 1 else 0)
theorem m_tc_le {th ti th' ti' : Nat → Int32} : ∀ n, (∀ t, t < n → ¬ th' t = 0 → ¬ ti' t = 0 → ¬ th t = 0 ∧ ¬ ti t = 0) → m_tc th' ti' n ≤ m_tc th ti n := by
  intro n
  induction n with
  | zero => intro _; exact Nat.le_refl _
  | succ n ih =>
    intro h
    have h1 := ih (fun t ht => h t (by omega))
    have h2 := h n (by omega)
    show m_tc th' ti' n + _ ≤ m_tc th ti n + _
    by_cases e : ¬ th' n = 0 ∧ ¬ ti' n = 0
    · (try dsimp only); rw [if_pos e, if_pos (h2 e.1 e.2)]; omega
    · (try dsimp only); rw [if_neg e]; omega
theorem m_tc_lt {th ti th' ti' : Nat → Int32} {t0 : Nat} : ∀ n, t0 < n → ¬ th t0 = 0 → ¬ ti t0 = 0 → (th' t0 = 0 ∨ ti' t0 = 0) → (∀ t, t < n → ¬ th' t = 0 → ¬ ti' t = 0 → ¬ th t = 0 ∧ ¬ ti t = 0) → m_tc th' ti' n < m_tc th ti n := by
  intro n
  induction n with
  | zero => intro h; omega
  | succ n ih =>
    intro ht a1 a2 a3 h
    show m_tc th' ti' n + _ < m_tc th ti n + _
    by_cases e : t0 = n
    · subst e
      have h1 := m_tc_le t0 (fun t ht => h t (by omega))
      (try dsimp only); rw [if_neg (fun h9 : ¬ th' t0 = 0 ∧ ¬ ti' t0 = 0 => a3.elim h9.1 h9.2), if_pos (⟨a1, a2⟩ : ¬ th t0 = 0 ∧ ¬ ti t0 = 0)]
      omega
    · have h1 := ih (by omega) a1 a2 a3 (fun t ht => h t (by omega))
      have h2 := h n (by omega)
      by_cases e : ¬ th' n = 0 ∧ ¬ ti' n = 0
      · (try dsimp only); rw [if_pos e, if_pos (h2 e.1 e.2)]; omega
      · (try dsimp only); rw [if_neg e]; omega
