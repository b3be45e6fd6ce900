-- ===== 98.yphase: what reading does to the cells, taken together =====
/-- a PROCESS was read: p, under par -/
def y_SU (z : Nat → Nat) (ar : Nat → ClassId) (f0 f : Nat → Option va_E) (G J : Nat → Nat) (C Gs : Nat → List Nat) (S : Nat → Nat) (par : Option Nat) (p : Nat) (f' : Nat → Option va_E) : Prop :=
  ∃ (G' J' : Nat → Nat) (C' Gs' : Nat → List Nat) (S' : Nat → Nat), f p = none ∧ y_DX z ar f0 G' J' C' Gs' S' f' ∧ y_FX f G J Gs S f' G' J' Gs' S' ∧ (∀ a, f a ≠ none → C' a = if par = some a then C a ++ [p] else C a) ∧ G' p = 7 ∧ ∀ a, f a = none → G' a = 7 → S' a = 0
/-- something was done under P, which was there -/
def y_PH (P : Nat) (f : Nat → Option va_E) (G J : Nat → Nat) (C Gs : Nat → List Nat) (S : Nat → Nat) (f' : Nat → Option va_E) (G' J' : Nat → Nat) (C' Gs' : Nat → List Nat) (S' : Nat → Nat) : Prop :=
  (∀ a, f a ≠ none → a ≠ P → f' a ≠ none ∧ G' a = G a ∧ J' a = J a ∧ C' a = C a ∧ Gs' a = Gs a ∧ S' a = S a ∧ (G a ≠ 7 → f' a = f a)) ∧ (f' P ≠ none ∧ G' P = G P ∧ J' P = J P) ∧ ∀ a, f a = none → G' a = 7 → S' a = 0
section YPH
variable {z : Nat → Nat} {ar : Nat → ClassId} {f0 f f1 f2 f' : Nat → Option va_E} {G J G1 J1 G2 J2 : Nat → Nat} {C Gs C1 Gs1 C2 Gs2 : Nat → List Nat} {S S1 S2 : Nat → Nat} {P : Nat}
theorem y_PH.rf (h : f P ≠ none) (hz : ∀ a, f a = none → G a = 0) : y_PH P f G J C Gs S f G J C Gs S := ⟨fun a ha _ => ⟨ha, rfl, rfl, rfl, rfl, rfl, fun _ => rfl⟩, ⟨h, rfl, rfl⟩, fun a ha h7 => by rw [hz a ha] at h7; omega⟩
/-- two steps; the second may change what the first has made -/
theorem y_PH.trb (h : y_PH P f G J C Gs S f1 G1 J1 C1 Gs1 S1) (ha : ∀ a, f1 a ≠ none → a ≠ P → (f a ≠ none ∨ G2 a = 7) → f2 a ≠ none ∧ G2 a = G1 a ∧ J2 a = J1 a ∧ C2 a = C1 a ∧ Gs2 a = Gs1 a ∧ S2 a = S1 a) (hb : ∀ a, f a ≠ none → f1 a ≠ none → a ≠ P → G1 a ≠ 7 → f2 a = f1 a)
    (hP : f2 P ≠ none ∧ G2 P = G1 P ∧ J2 P = J1 P) (hn : ∀ a, f1 a = none → G2 a = 7 → S2 a = 0) (hPe : f P ≠ none) : y_PH P f G J C Gs S f2 G2 J2 C2 Gs2 S2 := by
  obtain ⟨q1, q2, q3⟩ := h
  refine ⟨fun a h1 h2 => ?_, ⟨hP.1, hP.2.1.trans q2.2.1, hP.2.2.trans q2.2.2⟩, fun a h1 h7 => ?_⟩
  · obtain ⟨a1, a2, a3, a4, a5, a6, a7⟩ := q1 a h1 h2
    obtain ⟨b1, b2, b3, b4, b5, b6⟩ := ha a a1 h2 (Or.inl h1)
    exact ⟨b1, b2.trans a2, b3.trans a3, b4.trans a4, b5.trans a5, b6.trans a6, fun h9 => (hb a h1 a1 h2 (by rw [a2]; exact h9)).trans (a7 h9)⟩
  · by_cases e : f1 a = none
    · exact hn a e h7
    · have hne : a ≠ P := fun e9 => hPe (by rw [← e9]; exact h1)
      obtain ⟨b1, b2, b3, b4, b5, b6⟩ := ha a e hne (Or.inr h7)
      rw [b6]
      exact q3 a h1 (by rw [← b2]; exact h7)
theorem y_PH.tr (h : y_PH P f G J C Gs S f1 G1 J1 C1 Gs1 S1) (h' : y_PH P f1 G1 J1 C1 Gs1 S1 f2 G2 J2 C2 Gs2 S2) (hPe : f P ≠ none) : y_PH P f G J C Gs S f2 G2 J2 C2 Gs2 S2 :=
  h.trb (fun a h1 h2 _ => by obtain ⟨a1, a2, a3, a4, a5, a6, _⟩ := h'.1 a h1 h2; exact ⟨a1, a2, a3, a4, a5, a6⟩) (fun a _ h1 h2 => (h'.1 a h1 h2).2.2.2.2.2.2) h'.2.1 h'.2.2 hPe
/-- its code was read -/
theorem y_DX.code (h : y_DX z ar f0 G J C Gs S f) {p q n s' co : Nat} {hh : Nat → Int32} {par nx tk : Option Nat} {ch va : Int32} (hp : G p = 7) (hf : f p = some (.inr (7, y_Pf z C Gs p (J p) par nx tk co ch va))) (hq : f q = none) (hn : n ≤ 72) (hok : y_cok n hh)
    (hq' : f' q = some (.inl (ar 0, n, .inl hh))) (hp' : f' p = some (.inr (7, y_Pf z C Gs p (J p) par nx tk q ch va))) (ho : ∀ b, b ≠ q → b ≠ p → f' b = f b) (hs : s' = 0 → ((J p = 1 ∨ J p = 2 → ∃ c : Nat, c < 6 ∧ ch = Int32.ofNat c) ∧ (J p = 7 ∨ J p = 8 → 1 ≤ (C p).length))) :
    y_DX z ar f0 (y_un G q 10) J C Gs (y_un S p s') f' ∧ y_PH p f G J C Gs S f' (y_un G q 10) J C Gs (y_un S p s') := by
  obtain ⟨hq0, hqG⟩ := h.un hq
  have hne : p ≠ q := fun e => by rw [e, hqG] at hp; omega
  have h1 := (h.off (e := .inl (ar 0, n, .inl hh)) hq0 hqG).one (k := 10) hq0 hqG (by rw [y_Lu_s]; exact nofun) (Or.inr ⟨rfl, n, hh, y_Lu_s, hn, hok⟩)
  have h2 := h1.put (p := p) (s' := s') (co' := q) (ch' := ch) (va' := va) (by rw [y_un_n hne]; exact hp) (by rw [y_Lu_n hne]; exact hf) (fun _ _ => y_un_s) hs
  have e : f' = y_Lu (y_Lu f q (.inl (ar 0, n, .inl hh))) p (.inr (7, y_Pf z C Gs p (J p) par nx tk q ch va)) := by
    refine y_Lu_eq hp' (fun b hb => ?_)
    by_cases e : b = q
    · rw [e, y_Lu_s]; exact hq'
    · rw [y_Lu_n e]; exact ho b e hb
  refine ⟨by rw [e]; exact h2, fun a h3 h4 => ?_, ⟨by rw [hp']; exact nofun, y_un_n hne, rfl⟩, fun a h3 h7 => ?_⟩
  · have h5 : a ≠ q := fun e9 => h3 (by rw [e9]; exact hq)
    have h6 := ho a h5 h4
    exact ⟨by rw [h6]; exact h3, y_un_n h5, rfl, rfl, rfl, y_un_n h4, fun _ => h6⟩
  · by_cases e9 : a = q
    · rw [e9, y_un_s] at h7; omega
    · rw [y_un_n e9, (h.un h3).2] at h7; omega
/-- it is closed -/
theorem y_DX.close (h : y_DX z ar f0 G J C Gs S f) {p : Nat} (hp : G p = 7) (hc : (S p = 2 ∧ (J p = 7 ∨ J p = 8) ∧ 1 ≤ (C p).length) ∨ J p = 3 ∨ J p = 4 ∨ J p = 5 ∨ J p = 6 ∨ J p = 10) :
    y_DX z ar f0 G J C Gs (y_un S p 0) f ∧ y_PH p f G J C Gs S f G J C Gs (y_un S p 0) := by
  obtain ⟨par, nx, tk, co, ch, va, q1, q2⟩ := h.2.1 p hp
  have h1 := h.put (s' := 0) (co' := co) (ch' := ch) (va' := va) hp q1 (fun _ h9 => by
      rcases hc with ⟨c1, c2, c3⟩ | c
      · exact q2.2.2.2.2.2.1 (by omega) h9
      · omega) (fun _ => ⟨fun h9 => by omega, fun h9 => by
      rcases hc with ⟨c1, c2, c3⟩ | c
      · exact c3
      · omega⟩)
  have e : y_Lu f p (.inr (7, y_Pf z C Gs p (J p) par nx tk co ch va)) = f := (y_Lu_eq q1 (fun _ _ => rfl)).symm
  rw [e] at h1
  exact ⟨h1, fun a h3 h4 => ⟨h3, rfl, rfl, rfl, rfl, y_un_n h4, fun _ => rfl⟩, ⟨by rw [q1]; exact nofun, rfl, rfl⟩, fun a h3 h7 => by rw [(h.un h3).2] at h7; omega⟩
/-- a child was read -/
theorem y_SU.ph {p : Nat} (h : y_SU z ar f0 f G J C Gs S (some P) p f') (hP : f P ≠ none) : ∃ (G' J' : Nat → Nat) (C' Gs' : Nat → List Nat) (S' : Nat → Nat), y_DX z ar f0 G' J' C' Gs' S' f' ∧ y_PH P f G J C Gs S f' G' J' C' Gs' S' ∧ S' P = S P ∧ Gs' P = Gs P ∧ C' P = C P ++ [p] ∧ G' p = 7 := by
  obtain ⟨G', J', C', Gs', S', h1, h2, h3, h4, h5, h6⟩ := h
  obtain ⟨b1, b2, b3, b4, b5, b6⟩ := h3 P hP
  refine ⟨G', J', C', Gs', S', h2, ⟨fun a ha hn => ?_, ⟨b1, b2, b3⟩, h6⟩, b5, b4, by rw [h4 P hP, if_pos rfl], h5⟩
  obtain ⟨c1, c2, c3, c4, c5, c6⟩ := h3 a ha
  exact ⟨c1, c2, c3, by rw [h4 a ha, if_neg (fun e => hn (Option.some.inj e).symm)], c4, c5, c6⟩
/-- a PROCESS was begun, and what stands under it was read -/
theorem y_SU.mk {p : Nat} {par : Option Nat} (hz : f p = none) (hfx : y_FX f G J Gs S f1 G1 J1 Gs1 S1) (hcx : ∀ a, f a ≠ none → C1 a = if par = some a then C a ++ [p] else C a) (hg1 : G1 p = 7) (hg6 : ∀ a, f a = none → G1 a = 7 → a = p)
    (h2 : y_DX z ar f0 G2 J2 C2 Gs2 S2 f2) (hph : y_PH p f1 G1 J1 C1 Gs1 S1 f2 G2 J2 C2 Gs2 S2) (hS : S2 p = 0) : y_SU z ar f0 f G J C Gs S par p f2 := by
  obtain ⟨q1, q2, q3⟩ := hph
  refine ⟨G2, J2, C2, Gs2, S2, hz, h2, fun a ha => ?_, fun a ha => ?_, by rw [q2.2.1]; exact hg1, fun a ha h7 => ?_⟩
  · obtain ⟨a1, a2, a3, a4, a5, a6⟩ := hfx a ha
    have hn : a ≠ p := fun e => ha (by rw [e]; exact hz)
    obtain ⟨b1, b2, b3, b4, b5, b6, b7⟩ := q1 a a1 hn
    exact ⟨b1, b2.trans a2, b3.trans a3, b5.trans a4, b6.trans a5, fun h9 => (b7 (by rw [a2]; exact h9)).trans (a6 h9)⟩
  · have hn : a ≠ p := fun e => ha (by rw [e]; exact hz)
    rw [(q1 a (hfx a ha).1 hn).2.2.2.1]
    exact hcx a ha
  · by_cases e : a = p
    · rw [e]; exact hS
    · by_cases e1 : f1 a = none
      · exact q3 a e1 h7
      · obtain ⟨b1, b2, b3, b4, b5, b6, b7⟩ := q1 a e1 e
        rw [b2] at h7
        exact absurd (hg6 a ha h7) e
/-- the cells without a type may be others -/
theorem y_DX.two (h : y_DX z ar f0 G J C Gs S f) {g q : Nat} {eg eq : va_E} (hg : f g = none) (hq : f q = none) (hne : g ≠ q) (h1 : f' g = some eg) (h2 : f' q = some eq) (ho : ∀ b, b ≠ g → b ≠ q → f' b = f b) : y_DX z ar f0 G J C Gs S f' := by
  obtain ⟨g0, gG⟩ := h.un hg
  obtain ⟨q0, qG⟩ := h.un hq
  have e : f' = y_Lu (y_Lu f q eq) g eg := y_Lu_eq h1 (fun b hb => by
    by_cases e : b = q
    · rw [e, y_Lu_s]; exact h2
    · rw [y_Lu_n e]; exact ho b hb e)
  rw [e]
  exact (h.off q0 qG).off g0 gG
theorem y_DX.keep1 (h : y_DX z ar f0 G J C Gs S f) {p : Nat} (hp : G p = 7) (ho : ∀ b, f b ≠ none → b ≠ p → f' b = f b) : ∀ a, f0 a ≠ none → f' a = f0 a := fun a ha => by
  obtain ⟨h1, h2⟩ := h.1 a ha
  rw [ho a (by rw [h1]; exact ha) (fun e => by rw [e] at h2; omega), h1]
theorem y_PH.put (h : y_DX z ar f0 G J C Gs S f) {p s' : Nat} {e : va_E} (hp : G p = 7) : y_PH p f G J C Gs S (y_Lu f p e) G J C Gs (y_un S p s') :=
  ⟨fun a h3 h4 => by rw [y_Lu_n h4]; exact ⟨h3, rfl, rfl, rfl, rfl, y_un_n h4, fun _ => rfl⟩, ⟨by rw [y_Lu_s]; exact nofun, rfl, rfl⟩, fun a h3 h7 => by rw [(h.un h3).2] at h7; omega⟩
/-- a GUARD is put under its ALTERNATIVE -/
theorem y_DX.grd (h : y_DX z ar f0 G J C Gs S f) {g q p n : Nat} {hh : Nat → Int32} {ch va op : Int32} (hP : G P = 7) (hg0 : f0 g = none) (hgG : G g = 0) (hq0 : f0 q = none) (hqG : G q = 0) (hgq : g ≠ q) (hp : G p = 7) (hch : ch = -1 ∨ ∃ c9 : Nat, c9 < 6 ∧ ch = Int32.ofNat c9) (hq : f q = some (.inl (ar 0, n, .inl hh))) (hn : n ≤ 72) (hok : y_cok n hh)
    (hg' : f' g = some (.inr (9, y_Gf q ch va (some p) none op)))
    (hfP : ∃ (par nx tk : Option Nat) (co : Nat) (ch va : Int32), f P = some (.inr (7, y_Pf z C Gs P (J P) par nx tk co ch va)) ∧ f' P = some (.inr (7, y_Pf z C (y_un Gs P (Gs P ++ [g])) P (J P) par nx tk co ch va)))
    (hfc : ∀ c, (Gs P).getLast? = some c → ∃ (co : Nat) (ch va : Int32) (fo nx : Option Nat) (op : Int32), f c = some (.inr (9, y_Gf co ch va fo nx op)) ∧ f' c = some (.inr (9, y_Gf co ch va fo (some g) op)))
    (hoth : ∀ b, b ≠ P → b ≠ g → (Gs P).getLast? ≠ some b → f' b = f b) : y_DX z ar f0 (y_un (y_un G q 10) g 9) J C (y_un Gs P (Gs P ++ [g])) S f' := by
  have hgP : g ≠ P := fun e => by rw [e] at hgG; omega
  have hqP : q ≠ P := fun e => by rw [e] at hqG; omega
  have h1 := (h.off (e := .inr (9, y_Gf q ch va (some p) none op)) hg0 hgG).one (k := 10) (x := q) hq0 hqG (by rw [y_Lu_n (fun e => hgq e.symm), hq]; exact nofun) (Or.inr ⟨rfl, n, hh, by rw [y_Lu_n (fun e => hgq e.symm)]; exact hq, hn, hok⟩)
  have h2 := h1.one (k := 9) (x := g) hg0 (by rw [y_un_n hgq]; exact hgG) (by rw [y_Lu_s]; exact nofun) (Or.inl ⟨rfl, q, ch, va, some p, none, op, y_Lu_s, y_un_s, hch, p, rfl, by rw [y_un_n (fun e => by rw [e] at hp; omega)]; exact hp⟩)
  have hm : ∀ a, G a = 7 → y_un (y_un G q 10) g 9 a = 7 := fun a ha => by rw [y_un_n (fun e => by rw [e] at ha; omega), y_un_n (fun e => by rw [e] at ha; omega)]; exact ha
  have hl : ∀ c, (Gs P).getLast? = some c → c ≠ g := fun c hc e => by
    have := (h.lastg hP hc).1
    rw [e, hgG] at this; omega
  refine h2.gdl (f' := f') (hm P hP) y_un_s (fun Q hQ hmm => ?_) (by rw [y_sl_at y_Lu_s]; rfl) ?_ (fun c hc => ?_) (fun b hb hb2 => ?_)
  · have hQ7 : G Q = 7 := by
      by_cases e1 : Q = g
      · rw [e1, y_un_s] at hQ; omega
      · rw [y_un_n e1] at hQ
        by_cases e2 : Q = q
        · rw [e2, y_un_s] at hQ; omega
        · rw [y_un_n e2] at hQ; exact hQ
    obtain ⟨i, hi⟩ := List.mem_iff_getElem?.mp hmm
    have := (h.2.2.2.2.2.2.1 Q i g hQ7 hi).1
    omega
  · obtain ⟨par, nx, tk, co, ch2, va2, q1, q2⟩ := hfP
    exact ⟨par, nx, tk, co, ch2, va2, by rw [y_Lu_n (fun e => hgP e.symm)]; exact q1, q2⟩
  · obtain ⟨co, ch2, va2, fo, nx, op2, q1, q2⟩ := hfc c hc
    exact ⟨co, ch2, va2, fo, nx, op2, by rw [y_Lu_n (hl c hc)]; exact q1, q2⟩
  · by_cases e : b = g
    · rw [e, y_Lu_s]; exact hg'
    · rw [y_Lu_n e]; exact hoth b hb e hb2
theorem y_PH.grd {fE f9 fc : Nat → Option va_E} {g q : Nat} {lo : Option Nat} {L : List Nat} (h : y_PH P fE G J C Gs S f1 G1 J1 C1 Gs1 S1) (hPe : fE P ≠ none) (hz1 : ∀ a, f1 a = none → G1 a = 0) (hg : f1 g = none) (hq : f1 q = none) (hcur : ∀ b, b ≠ g → b ≠ q → fc b = f1 b) (hcg : fc g ≠ none ∧ fc q ≠ none)
    (h2 : y_PH P fc G1 J1 C1 Gs1 S1 f2 G2 J2 C2 Gs2 S2) (hz2 : ∀ a, f2 a = none → G2 a = 0) (h9 : ∀ b, b ≠ P → b ≠ g → lo ≠ some b → f9 b = f2 b) (hlo : ∀ c, lo = some c → fE c = none ∧ f9 c ≠ none) (h9g : f9 g ≠ none ∧ f9 P ≠ none) :
    y_PH P fE G J C Gs S f9 (y_un (y_un G2 q 10) g 9) J2 C2 (y_un Gs2 P L) S2 := by
  have hE : ∀ a, fE a ≠ none → a ≠ P → f1 a ≠ none := fun a h1 hn => (h.1 a h1 hn).1
  have hPn : P ≠ g ∧ P ≠ q := ⟨fun e => h.2.1.1 (by rw [e]; exact hg), fun e => h.2.1.1 (by rw [e]; exact hq)⟩
  have s1 : y_PH P fE G J C Gs S fc G1 J1 C1 Gs1 S1 := h.trb (fun a h1 hn _ => by
      rw [hcur a (fun e => h1 (by rw [e]; exact hg)) (fun e => h1 (by rw [e]; exact hq))]
      exact ⟨h1, rfl, rfl, rfl, rfl, rfl⟩) (fun a _ h1 hn _ => hcur a (fun e => h1 (by rw [e]; exact hg)) (fun e => h1 (by rw [e]; exact hq))) ⟨by rw [hcur P hPn.1 hPn.2]; exact h.2.1.1, rfl, rfl⟩ (fun a h1 h7 => by rw [hz1 a h1] at h7; omega) hPe
  have s2 := s1.tr h2 hPe
  have hu : ∀ a, a ≠ g → a ≠ q → y_un (y_un G2 q 10) g 9 a = G2 a := fun a e1 e2 => by rw [y_un_n e1, y_un_n e2]
  have hgq : ∀ a, (fE a ≠ none ∨ y_un (y_un G2 q 10) g 9 a = 7) → a ≠ P → a ≠ g ∧ a ≠ q := fun a hc hn => by
    rcases hc with hc | hc
    · have := hE a hc hn
      exact ⟨fun e => this (by rw [e]; exact hg), fun e => this (by rw [e]; exact hq)⟩
    · by_cases e1 : a = g
      · rw [e1, y_un_s] at hc; omega
      · refine ⟨e1, fun e2 => ?_⟩
        rw [y_un_n e1, e2, y_un_s] at hc; omega
  refine s2.trb (fun a h1 hn hc => ?_) (fun a hE1 h1 hn h7 => ?_) ⟨h9g.2, hu P hPn.1 hPn.2, rfl⟩ (fun a h1 h7 => ?_) hPe
  · obtain ⟨e1, e2⟩ := hgq a hc hn
    refine ⟨?_, hu a e1 e2, rfl, rfl, y_un_n hn, rfl⟩
    by_cases e : lo = some a
    · exact (hlo a e).2
    · rw [h9 a hn e1 e]; exact h1
  · obtain ⟨e1, e2⟩ := hgq a (Or.inl hE1) hn
    exact h9 a hn e1 (fun e => hE1 (hlo a e).1)
  · by_cases e1 : a = g
    · rw [e1, y_un_s] at h7; omega
    · rw [y_un_n e1] at h7
      by_cases e2 : a = q
      · rw [e2, y_un_s] at h7; omega
      · rw [y_un_n e2, hz2 a h1] at h7; omega
end YPH
