-- ===== 36.ex: the state while expression reads =====
def m_EX (I : Nat → Int32) (A : Nat → Nat → Int32) (I1 : Nat → Int32) (A1 : Nat → Nat → Int32) (st : Nat → Nat) (b O dp od e P0 P1 S a0 a1 : Nat) : Prop :=
  (I1 6 = Int32.ofNat P1 ∧ I1 7 = Int32.ofNat a1 ∧ I1 10 = Int32.ofNat O) ∧ (P0 ≤ P1 ∧ P1 ≤ S ∧ a0 ≤ a1 ∧ a1 + O + m_nb (A1 16) O ≤ a0 + 2 * (P1 - P0)) ∧
  (m_fr [6, 7, 10] I I1 ∧ m_fa [2, 15, 16, 17, 19] A A1 ∧ ∀ j, j < a0 → A1 2 j = A 2 j) ∧ (∀ j, j ≤ b → A1 17 j = Int32.ofNat (st j)) ∧ m_ES (A1 16) st b O dp od ∧ m_TK (A1 2) a0 a1 (m_nb (A1 16) O + e) (P1 - P0)
section EX
variable {I : Nat → Int32} {A : Nat → Nat → Int32} {I1 I2 : Nat → Int32} {A1 : Nat → Nat → Int32} {st : Nat → Nat} {b O dp od e P0 P1 S a0 a1 : Nat}
theorem m_EX.num (h : m_EX I A I1 A1 st b O dp od e P0 P1 S a0 a1) : P0 ≤ P1 ∧ P1 ≤ S ∧ a0 ≤ a1 ∧ a1 + O + m_nb (A1 16) O ≤ a0 + 2 * (P1 - P0) ∧ b ≤ 4 ∧ O ≤ 19 ∧ b + 1 ≤ dp ∧ st b ≤ O ∧ dp ≤ 5 ∧ m_nb (A1 16) O + e ≤ P1 - P0 := by
  obtain ⟨h1, ⟨h2, h3, h4, h5⟩, h6, h7, h8, h9⟩ := h
  have := h8.small
  have := h8.2.2.2.2.2.2.2.1
  have := h9.nle
  omega
/-- an operand is written -/
theorem m_EX.opnd {P2 : Nat} {t v : Int32} (h : m_EX I A I1 A1 st b O dp 1 0 P0 P1 S a0 a1) (hp : P1 < P2) (hs : P2 ≤ S) (ht : t = 20 ∨ (t = 21 ∧ ∃ k : Nat, k < 6 ∧ v = Int32.ofNat k)) (i6 : I2 6 = Int32.ofNat P2) (i7 : I2 7 = Int32.ofNat (a1 + 2)) (i10 : I2 10 = Int32.ofNat O) (hf : m_fr [6, 7, 10] I1 I2) :
    m_EX I A I2 (m_up A1 2 (upd (upd (A1 2) a1 t) (a1 + 1) v)) st b O dp 1 1 P0 P2 S a0 (a1 + 2) := by
  obtain ⟨h1, ⟨h2, h3, h4, h5⟩, ⟨h6, h6a, h6b⟩, h7, h8, h9⟩ := h
  have h10 := h9.nle
  refine ⟨⟨i6, i7, i10⟩, ⟨by omega, hs, by omega, ?_⟩, ⟨h6.tr hf (fun k hk => hk), h6a.up (by decide) _, fun j hj => ?_⟩, h7, h8, ?_⟩
  · show a1 + 2 + O + m_nb (A1 16) O ≤ a0 + 2 * (P2 - P0)
    omega
  · rw [m_up_s, upd_n (by omega), upd_n (by omega)]; exact h6b j hj
  · rw [m_up_s]
    refine (h9.same (g := upd (upd (A1 2) a1 t) (a1 + 1) v) (fun j hj => by rw [upd_n (by omega), upd_n (by omega)])).snoc (Or.inl ⟨rfl, rfl, ?_⟩) (by show m_nb (A1 16) O + 0 + 1 ≤ P2 - P0; omega) (by omega)
    rw [upd_s, upd_n (by omega), upd_s]
    exact ht
/-- a minus behind its operand -/
theorem m_EX.pop (h : m_EX I A I1 A1 st b O dp 1 1 P0 P1 S a0 a1) (ho : st b < O) (h4 : A1 16 (O - 1) = 4) (i6 : I2 6 = Int32.ofNat P1) (i7 : I2 7 = Int32.ofNat (a1 + 1)) (i10 : I2 10 = Int32.ofNat (O - 1)) (hf : m_fr [6, 7, 10] I1 I2) :
    m_EX I A I2 (m_up A1 2 (upd (A1 2) a1 23)) st b (O - 1) (dp - 1) 1 1 P0 P1 S a0 (a1 + 1) := by
  obtain ⟨h1, ⟨h2, h3, h4', h5⟩, ⟨h6, h6a, h6b⟩, h7, h8, h9⟩ := h
  have e9 := m_nb_s (rk := A1 16) (o := O) (by omega)
  rw [if_pos h4] at e9
  have h10 := h9.nle
  refine ⟨⟨i6, i7, i10⟩, ⟨h2, h3, by omega, ?_⟩, ⟨h6.tr hf (fun k hk => hk), h6a.up (by decide) _, fun j hj => ?_⟩, h7, h8.pop ho h4, ?_⟩
  · show a1 + 1 + (O - 1) + m_nb (A1 16) (O - 1) ≤ a0 + 2 * (P1 - P0)
    omega
  · rw [m_up_s, upd_n (by omega)]; exact h6b j hj
  · rw [m_up_s]
    show m_TK _ a0 (a1 + 1) (m_nb (A1 16) (O - 1) + 1) (P1 - P0)
    rw [e9] at h9 h10
    exact (h9.same (g := upd (A1 2) a1 23) (fun j hj => upd_n (by omega))).snoc (Or.inr (Or.inl ⟨rfl, upd_s, by omega, by omega⟩)) (by omega) (Nat.le_refl _)
theorem m_EX.done (h : m_EX I A I1 A1 st b O dp 1 1 P0 P1 S a0 a1) (ht : O ≤ st b ∨ ¬ A1 16 (O - 1) = 4) : m_EX I A I1 A1 st b O dp 0 1 P0 P1 S a0 a1 := by
  obtain ⟨h1, h2, h6, h7, h8, h9⟩ := h
  exact ⟨h1, h2, h6, h7, h8.done ht, h9⟩
theorem m_EX.neg {x : Int32} (h : m_EX I A I1 A1 st b O dp 1 0 P0 P1 S a0 a1) (hd : dp ≤ 4) (hp : P1 < S) (i6 : I2 6 = Int32.ofNat (P1 + 1)) (i7 : I2 7 = Int32.ofNat a1) (i10 : I2 10 = Int32.ofNat (O + 1)) (hf : m_fr [6, 7, 10] I1 I2) :
    m_EX I A I2 (m_up (m_up A1 15 (upd (A1 15) O x)) 16 (upd (A1 16) O 4)) st b (O + 1) (dp + 1) 1 0 P0 (P1 + 1) S a0 a1 := by
  obtain ⟨h1, ⟨h2, h3, h4, h5⟩, ⟨h6, h6a, h6b⟩, h7, h8, h9⟩ := h
  have e9 : m_nb (upd (A1 16) O 4) (O + 1) = m_nb (A1 16) O := by
    show m_nb (upd (A1 16) O 4) O + (if upd (A1 16) O 4 O = 4 then 0 else 1) = _
    rw [upd_s, if_pos rfl, m_nb_upd O (Nat.le_refl O)]; rfl
  refine ⟨⟨i6, i7, i10⟩, ⟨by omega, by omega, h4, ?_⟩, ⟨h6.tr hf (fun k hk => hk), (h6a.up (by decide) _).up (by decide) _, h6b⟩, h7, h8.neg hd, ?_⟩
  · show a1 + (O + 1) + m_nb (upd (A1 16) O 4) (O + 1) ≤ a0 + 2 * (P1 + 1 - P0)
    rw [e9]; omega
  · show m_TK (A1 2) a0 a1 (m_nb (upd (A1 16) O 4) (O + 1) + 0) (P1 + 1 - P0)
    rw [e9]; exact h9.mono (by omega)
theorem m_EX.opn {f : Nat → Int32} (h : m_EX I A I1 A1 st b O dp 1 0 P0 P1 S a0 a1) (hd : dp ≤ 4) (hp : P1 < S) (i6 : I2 6 = Int32.ofNat (P1 + 1)) (i7 : I2 7 = Int32.ofNat a1) (i10 : I2 10 = Int32.ofNat O) (hf : m_fr [6, 7, 10] I1 I2) :
    m_EX I A I2 (m_up (m_up A1 17 (upd (A1 17) (b + 1) (Int32.ofNat O))) 19 f) (m_us st (b + 1) O) (b + 1) O (dp + 1) 1 0 P0 (P1 + 1) S a0 a1 := by
  obtain ⟨h1, ⟨h2, h3, h4, h5⟩, ⟨h6, h6a, h6b⟩, h7, h8, h9⟩ := h
  refine ⟨⟨i6, i7, i10⟩, ⟨by omega, by omega, h4, ?_⟩, ⟨h6.tr hf (fun k hk => hk), (h6a.up (by decide) _).up (by decide) _, h6b⟩, fun j hj => ?_, h8.opn hd, h9.mono (by omega)⟩
  · show a1 + O + m_nb (A1 16) O ≤ a0 + 2 * (P1 + 1 - P0)
    omega
  · show upd (A1 17) (b + 1) (Int32.ofNat O) j = _
    by_cases ej : j = b + 1
    · rw [ej, upd_s, m_us_s]
    · rw [upd_n ej, m_us_n ej]; exact h7 j (by omega)
theorem m_EX.cmp {f : Nat → Int32} (h : m_EX I A I1 A1 st b O dp od e P0 P1 S a0 a1) : m_EX I A I1 (m_up A1 19 f) st b O dp od e P0 P1 S a0 a1 := by
  obtain ⟨h1, h2, ⟨h6, h6a, h6b⟩, h7, h8, h9⟩ := h
  exact ⟨h1, h2, ⟨h6, h6a.up (by decide) _, h6b⟩, h7, h8, h9⟩
/-- behind write: the operators above o1 are written -/
theorem m_EX.wr {A2 : Nat → Nat → Int32} {o1 a2 : Nat} (h : m_EX I A I1 A1 st b O dp 0 1 P0 P1 S a0 a1) (l1 : st b ≤ o1) (l2 : o1 ≤ O) (i10 : I2 10 = Int32.ofNat o1) (i7 : I2 7 = Int32.ofNat a2) (l3 : a1 ≤ a2) (hpot : a2 + o1 + m_nb (A1 16) o1 = a1 + O + m_nb (A1 16) O) (hf : m_fr [7, 10] I1 I2) (hfa : m_fa [2] A1 A2) (hlow : ∀ j, j < a1 → A2 2 j = A1 2 j) (htk : m_TK (A2 2) a0 a2 (1 + m_nb (A1 16) o1) (P1 - P0)) :
    (I2 6 = Int32.ofNat P1 ∧ m_fr [6, 7, 10] I I2 ∧ m_fa [2, 15, 16, 17, 19] A A2 ∧ (∀ j, j < a0 → A2 2 j = A 2 j) ∧ (∀ j, j ≤ b → A2 17 j = Int32.ofNat (st j))) ∧ A2 16 = A1 16 ∧ a2 + o1 + m_nb (A2 16) o1 ≤ a0 + 2 * (P1 - P0) ∧ m_TK (A2 2) a0 a2 (m_nb (A2 16) o1 + 1) (P1 - P0) := by
  obtain ⟨h1, ⟨h2, h3, h4, h5⟩, ⟨h6, h6a, h6b⟩, h7, h8, h9⟩ := h
  have e16 : A2 16 = A1 16 := hfa 16 (by decide)
  have e17 : A2 17 = A1 17 := hfa 17 (by decide)
  refine ⟨⟨(hf 6 (by decide)).trans h1.1, h6.tr hf (by decide), h6a.tr hfa (by decide), fun j hj => (hlow j (by omega)).trans (h6b j hj), fun j hj => by rw [e17]; exact h7 j hj⟩, e16, by rw [e16]; omega, by rw [e16, Nat.add_comm]; exact htk⟩
theorem m_EX.bin {A2 : Nat → Nat → Int32} {I3 : Nat → Int32} {o1 a2 q : Nat} {x : Int32} (h : m_EX I A I1 A1 st b O dp 0 1 P0 P1 S a0 a1) (l1 : st b ≤ o1) (l2 : o1 ≤ O) (i10 : I2 10 = Int32.ofNat o1) (i7 : I2 7 = Int32.ofNat a2) (l3 : a1 ≤ a2) (hpot : a2 + o1 + m_nb (A1 16) o1 = a1 + O + m_nb (A1 16) O) (hf : m_fr [7, 10] I1 I2) (hfa : m_fa [2] A1 A2) (hlow : ∀ j, j < a1 → A2 2 j = A1 2 j) (htk : m_TK (A2 2) a0 a2 (1 + m_nb (A1 16) o1) (P1 - P0))
    (ht : o1 = st b ∨ A1 16 (o1 - 1) < Int32.ofNat q) (hq : 1 ≤ q) (hq3 : q ≤ 3) (hp : P1 < S) (j6 : I3 6 = Int32.ofNat (P1 + 1)) (j7 : I3 7 = Int32.ofNat a2) (j10 : I3 10 = Int32.ofNat (o1 + 1)) (hf3 : m_fr [6, 7, 10] I2 I3) :
    m_EX I A I3 (m_up (m_up A2 15 (upd (A2 15) o1 x)) 16 (upd (A2 16) o1 (Int32.ofNat q))) st b (o1 + 1) dp 1 0 P0 (P1 + 1) S a0 a2 := by
  obtain ⟨⟨w1, w2, w3, w4, w5⟩, e16, w6, w7⟩ := h.wr l1 l2 i10 i7 l3 hpot hf hfa hlow htk
  obtain ⟨h1, ⟨h2, h3, h4, h5⟩, ⟨h6, h6a, h6b⟩, h7, h8, h9⟩ := h
  have hne : ¬ Int32.ofNat q = 4 := fun e => by
    have := (x_eqN (a := q) (b := 4) (by omega) (by omega)).mp e
    omega
  have e9 : m_nb (upd (A2 16) o1 (Int32.ofNat q)) (o1 + 1) = m_nb (A2 16) o1 + 1 := by
    show m_nb (upd (A2 16) o1 (Int32.ofNat q)) o1 + (if upd (A2 16) o1 (Int32.ofNat q) o1 = 4 then 0 else 1) = _
    rw [upd_s, if_neg hne, m_nb_upd o1 (Nat.le_refl o1)]
  refine ⟨⟨j6, j7, j10⟩, ⟨by omega, by omega, by omega, ?_⟩, ⟨w2.tr hf3 (fun k hk => hk), (w3.up (by decide) _).up (by decide) _, w4⟩, w5, ?_, ?_⟩
  · show a2 + (o1 + 1) + m_nb (upd (A2 16) o1 (Int32.ofNat q)) (o1 + 1) ≤ a0 + 2 * (P1 + 1 - P0)
    rw [e9]; omega
  · show m_ES (upd (A2 16) o1 (Int32.ofNat q)) st b (o1 + 1) dp 1
    rw [e16]; exact h8.binp l1 l2 hq hq3 ht
  · show m_TK (A2 2) a0 a2 (m_nb (upd (A2 16) o1 (Int32.ofNat q)) (o1 + 1) + 0) (P1 + 1 - P0)
    rw [e9]; exact w7.mono (by omega)
theorem m_EX.cls {A2 : Nat → Nat → Int32} {I3 : Nat → Int32} {o1 a2 : Nat} (h : m_EX I A I1 A1 st b O dp 0 1 P0 P1 S a0 a1) (hb : 1 ≤ b) (l1 : st b ≤ o1) (l2 : o1 ≤ O) (i10 : I2 10 = Int32.ofNat o1) (i7 : I2 7 = Int32.ofNat a2) (l3 : a1 ≤ a2) (hpot : a2 + o1 + m_nb (A1 16) o1 = a1 + O + m_nb (A1 16) O) (hf : m_fr [7, 10] I1 I2) (hfa : m_fa [2] A1 A2) (hlow : ∀ j, j < a1 → A2 2 j = A1 2 j) (htk : m_TK (A2 2) a0 a2 (1 + m_nb (A1 16) o1) (P1 - P0))
    (ht : o1 = st b ∨ A1 16 (o1 - 1) < 1) (hp : P1 < S) (j6 : I3 6 = Int32.ofNat (P1 + 1)) (j7 : I3 7 = Int32.ofNat a2) (j10 : I3 10 = Int32.ofNat o1) (hf3 : m_fr [6, 7, 10] I2 I3) :
    m_EX I A I3 A2 st (b - 1) o1 (dp - 1) 1 1 P0 (P1 + 1) S a0 a2 := by
  obtain ⟨⟨w1, w2, w3, w4, w5⟩, e16, w6, w7⟩ := h.wr l1 l2 i10 i7 l3 hpot hf hfa hlow htk
  obtain ⟨h1, ⟨h2, h3, h4, h5⟩, ⟨h6, h6a, h6b⟩, h7, h8, h9⟩ := h
  refine ⟨⟨j6, j7, j10⟩, ⟨by omega, by omega, by omega, by omega⟩, ⟨w2.tr hf3 (fun k hk => hk), w3, w4⟩, fun j hj => w5 j (by omega), ?_, w7.mono (by omega)⟩
  rw [e16]; exact (h8.cls hb l1 l2 ht).1
theorem m_EX.fin {A2 : Nat → Nat → Int32} {o1 a2 : Nat} (h : m_EX I A I1 A1 st 0 O dp 0 1 P0 P1 S a0 a1) (l2 : o1 ≤ O) (i10 : I2 10 = Int32.ofNat o1) (i7 : I2 7 = Int32.ofNat a2) (l3 : a1 ≤ a2) (hpot : a2 + o1 + m_nb (A1 16) o1 = a1 + O + m_nb (A1 16) O) (hf : m_fr [7, 10] I1 I2) (hfa : m_fa [2] A1 A2) (hlow : ∀ j, j < a1 → A2 2 j = A1 2 j) (htk : m_TK (A2 2) a0 a2 (1 + m_nb (A1 16) o1) (P1 - P0)) (ht : o1 = st 0 ∨ A1 16 (o1 - 1) < 1) :
    m_TK (A2 2) a0 a2 1 (P1 - P0) ∧ a2 ≤ a0 + 2 * (P1 - P0) ∧ P0 < P1 := by
  obtain ⟨⟨w1, w2, w3, w4, w5⟩, e16, w6, w7⟩ := h.wr (by have := h.2.2.2.2.1.1; omega) l2 i10 i7 l3 hpot hf hfa hlow htk
  have h0 := h.2.2.2.2.1.1
  have hno := h.2.2.2.2.1.2.2.2.2.2.2.2.2 rfl
  have h4 := h.2.2.2.2.1.2.2.2.1
  have hs := h.2.2.2.2.1.small
  have e : o1 = 0 := by
    rcases ht with ht | ht
    · omega
    · by_cases e2 : o1 = 0
      · exact e2
      · rcases h4 0 (o1 - 1) (Nat.le_refl 0) (by omega) (by rw [m_nx_b]; omega) with h | ⟨q', b1, b2, b3, b4⟩
        · exact absurd h (hno (o1 - 1) (by omega) (by omega))
        · rw [b1] at ht
          have := (x_ltN (a := q') (b := 1) (by omega) (by omega)).mp ht
          omega
  subst e
  have w8 := w7.nle
  refine ⟨?_, by omega, ?_⟩
  · have e0 : m_nb (A2 16) 0 = 0 := rfl
    rw [e0] at w7; exact w7
  · omega
end EX
theorem m_lk0 {t : Nat → Int32} {P S : Nat} (h : ¬ x_lk t P S = 0) : P < S := by
  by_cases hp : P < S
  · exact hp
  · exact absurd (by unfold x_lk; rw [if_neg hp]) h
theorem m_lk48 {t : Nat → Int32} {P S : Nat} {c : Int32} (h : c = x_lk t P S) (hc : ¬ c < 48) : P < S := m_lk0 (fun h9 => hc (by rw [h, h9]; decide))
theorem m_lkv {t : Nat → Int32} {P S : Nat} (h : x_isv (x_lk t P S)) : P < S := m_lk0 (fun h9 => h.1 (by rw [h9]; decide))
theorem m_lke {t : Nat → Int32} {P S : Nat} {c k : Int32} (h : c = x_lk t P S) (hc : c = k) (hk : ¬ k = 0) : P < S := m_lk0 (fun h9 => hk (by rw [← hc, h, h9]))
theorem m_lkr {t : Nat → Int32} {P S : Nat} {c : Int32} (h : c = x_lk t P S) (hc : ¬ x_rank c ≤ 0) : P < S := m_lk0 (fun h9 => hc (by rw [h, h9]; decide))
theorem m_rk {c : Int32} (hc : ¬ x_rank c ≤ 0) : ∃ q : Nat, x_rank c = Int32.ofNat q ∧ 1 ≤ q ∧ q ≤ 3 := by
  unfold x_rank at hc ⊢
  split
  · exact ⟨1, rfl, by omega, by omega⟩
  · split
    · exact ⟨2, rfl, by omega, by omega⟩
    · split
      · exact ⟨3, rfl, by omega, by omega⟩
      · rename_i h1 h2 h3
        rw [if_neg h1, if_neg h2, if_neg h3] at hc
        exact absurd (by decide) hc
theorem m_var {c : Int32} (h : x_isv c) : ∃ v : Nat, v < 6 ∧ c - 97 = Int32.ofNat v := by
  obtain ⟨h1, h2⟩ := h
  rw [x_lt] at h1 h2
  have e1 : (97 : Int32).toInt = 97 := by decide
  have e2 : (102 : Int32).toInt = 102 := by decide
  have hk : c.toInt = 97 ∨ c.toInt = 98 ∨ c.toInt = 99 ∨ c.toInt = 100 ∨ c.toInt = 101 ∨ c.toInt = 102 := by omega
  have e : ∀ k : Int32, c.toInt = k.toInt → c = k := fun k h => Int32.toInt_inj.mp h
  rcases hk with h | h | h | h | h | h
  · exact ⟨0, by omega, by rw [e 97 (by rw [h]; rfl)]; rfl⟩
  · exact ⟨1, by omega, by rw [e 98 (by rw [h]; rfl)]; rfl⟩
  · exact ⟨2, by omega, by rw [e 99 (by rw [h]; rfl)]; rfl⟩
  · exact ⟨3, by omega, by rw [e 100 (by rw [h]; rfl)]; rfl⟩
  · exact ⟨4, by omega, by rw [e 101 (by rw [h]; rfl)]; rfl⟩
  · exact ⟨5, by omega, by rw [e 102 (by rw [h]; rfl)]; rfl⟩
