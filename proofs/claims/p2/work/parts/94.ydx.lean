-- ===== 94.ydx: a program under construction =====
def y_un {α : Type} (f : Nat → α) (k : Nat) (x : α) : Nat → α := fun j => if j = k then x else f j
theorem y_un_s {α : Type} {f : Nat → α} {k : Nat} {x : α} : y_un f k x k = x := if_pos rfl
theorem y_un_n {α : Type} {f : Nat → α} {k j : Nat} {x : α} (h : j ≠ k) : y_un f k x j = f j := if_neg h
/-- a PROCESS of it: J its kind; S: 0 closed, 1 open, 2 open with its code -/
def y_PX (G J : Nat → Nat) (C : Nat → List Nat) (S : Nat → Nat) (p : Nat) (par nx tk : Option Nat) (co : Nat) (ch : Int32) : Prop :=
  J p < 11 ∧ y_o G 7 par ∧ y_o G 7 nx ∧ (∃ t, tk = some t ∧ G t = 8) ∧ (J p = 6 → (C p).length ≤ 4) ∧ (S p ≠ 1 → (J p = 0 ∨ J p = 1 ∨ J p = 7 ∨ J p = 8 ∨ J p = 9) → G co = 10) ∧ (S p = 0 → ((J p = 1 ∨ J p = 2 → ∃ c : Nat, c < 6 ∧ ch = Int32.ofNat c) ∧ (J p = 7 ∨ J p = 8 → 1 ≤ (C p).length)))
/-- f0: the cells before it -/
def y_DX (z : Nat → Nat) (ar : Nat → ClassId) (f0 : Nat → Option va_E) (G J : Nat → Nat) (C Gs : Nat → List Nat) (S : Nat → Nat) (f : Nat → Option va_E) : Prop :=
  (∀ a, f0 a ≠ none → f a = f0 a ∧ G a = 0) ∧
  (∀ p, G p = 7 → ∃ (par nx tk : Option Nat) (co : Nat) (ch va : Int32), f p = some (.inr (7, y_Pf z C Gs p (J p) par nx tk co ch va)) ∧ y_PX G J C S p par nx tk co ch) ∧
  (∀ t, G t = 8 → ∃ (w : Nat) (m : Option Nat) (a : Nat) (b r v : Int32) (u : Int64), f t = some (.inr (8, y_Tf w m a b r v u)) ∧ G w = 7 ∧ y_o G 8 m ∧ G a = 7) ∧
  (∀ x, G x = 9 → ∃ (co : Nat) (ch va : Int32) (fo nx : Option Nat) (op : Int32), f x = some (.inr (9, y_Gf co ch va fo nx op)) ∧ y_GK G co ch fo) ∧
  (∀ a, G a = 10 → ∃ (n : Nat) (h : Nat → Int32), f a = some (.inl (ar 0, n, .inl h)) ∧ n ≤ 72 ∧ y_cok n h) ∧
  (∀ P i p, G P = 7 → (C P)[i]? = some p → G p = 7 ∧ p ≠ P ∧ y_sl f p 4 = some (va_rf (C P)[i + 1]?)) ∧
  (∀ P i x, G P = 7 → (Gs P)[i]? = some x → G x = 9 ∧ y_sl f x 4 = some (va_rf (Gs P)[i + 1]?)) ∧
  (∀ P Q x, G P = 7 → G Q = 7 → x ∈ C P → x ∈ C Q → Q = P) ∧
  (∀ P Q x, G P = 7 → G Q = 7 → x ∈ Gs P → x ∈ Gs Q → Q = P) ∧ ∀ a, f a = none → G a = 0
/-- what reading a part keeps of the cells that were there -/
def y_FX (f : Nat → Option va_E) (G J : Nat → Nat) (Gs : Nat → List Nat) (S : Nat → Nat) (f' : Nat → Option va_E) (G' J' : Nat → Nat) (Gs' : Nat → List Nat) (S' : Nat → Nat) : Prop :=
  ∀ a, f a ≠ none → f' a ≠ none ∧ G' a = G a ∧ J' a = J a ∧ Gs' a = Gs a ∧ S' a = S a ∧ (G a ≠ 7 → f' a = f a)
section YDX
variable {z : Nat → Nat} {ar : Nat → ClassId} {f0 f f' f2 : Nat → Option va_E} {G G' G2 J J' J2 : Nat → Nat} {C C' Gs Gs' Gs2 : Nat → List Nat} {S S' S2 : Nat → Nat}
theorem y_FX.rf : y_FX f G J Gs S f G J Gs S := fun a ha => ⟨ha, rfl, rfl, rfl, rfl, fun _ => rfl⟩
theorem y_FX.tr (h : y_FX f G J Gs S f' G' J' Gs' S') (h' : y_FX f' G' J' Gs' S' f2 G2 J2 Gs2 S2) : y_FX f G J Gs S f2 G2 J2 Gs2 S2 := fun a ha => by
  obtain ⟨a1, a2, a3, a4, a5, a6⟩ := h a ha
  obtain ⟨b1, b2, b3, b4, b5, b6⟩ := h' a a1
  exact ⟨b1, b2.trans a2, b3.trans a3, b4.trans a4, b5.trans a5, fun h9 => (b6 (by rw [a2]; exact h9)).trans (a6 h9)⟩
theorem y_PX.mono {p : Nat} {par nx tk : Option Nat} {co : Nat} {ch : Int32} (h : y_PX G J C S p par nx tk co ch) (hm : ∀ a k, k ≠ 0 → G a = k → G' a = k) (hJ : J' p = J p) (hC : C' p = C p) (hS : S' p = S p) : y_PX G' J' C' S' p par nx tk co ch := by
  obtain ⟨a1, a2, a3, ⟨t, a4, a5⟩, a6, a7, a8⟩ := h
  unfold y_PX
  rw [hJ, hC, hS]
  exact ⟨a1, fun a ha => hm a 7 (by decide) (a2 a ha), fun a ha => hm a 7 (by decide) (a3 a ha), ⟨t, a4, hm t 8 (by decide) a5⟩, a6, fun h1 h2 => hm co 10 (by decide) (a7 h1 h2), a8⟩
theorem y_DX.un (h : y_DX z ar f0 G J C Gs S f) {x : Nat} (hx : f x = none) : f0 x = none ∧ G x = 0 := by
  refine ⟨?_, h.2.2.2.2.2.2.2.2.2 x hx⟩
  by_cases e : f0 x = none
  · exact e
  · have := (h.1 x e).1
    rw [hx] at this
    exact absurd this.symm e
/-- another content at an address without a type -/
theorem y_DX.off (h : y_DX z ar f0 G J C Gs S f) {x : Nat} {e : va_E} (h0 : f0 x = none) (hx : G x = 0) : y_DX z ar f0 G J C Gs S (y_Lu f x e) := by
  obtain ⟨a1, a2, a3, a4, a5, a6, a7, a8, a9, a10⟩ := h
  have hn : ∀ b k, G b = k → (k = 7 ∨ k = 8 ∨ k = 9 ∨ k = 10) → b ≠ x := fun b k hb hk e9 => by subst e9; omega
  refine ⟨fun a ha => ?_, fun p hp => ?_, fun p hp => ?_, fun p hp => ?_, fun p hp => ?_, fun P i p hP hi => ?_, fun P i p hP hi => ?_, a8, a9, fun b hb => ?_⟩
  · rw [y_Lu_n (fun e9 => ha (by rw [e9]; exact h0))]; exact a1 a ha
  · rw [y_Lu_n (hn p 7 hp (by omega))]; exact a2 p hp
  · rw [y_Lu_n (hn p 8 hp (by omega))]; exact a3 p hp
  · rw [y_Lu_n (hn p 9 hp (by omega))]; exact a4 p hp
  · rw [y_Lu_n (hn p 10 hp (by omega))]; exact a5 p hp
  · obtain ⟨q1, q2, q3⟩ := a6 P i p hP hi
    exact ⟨q1, q2, by rw [y_sl_Lu (hn p 7 q1 (by omega))]; exact q3⟩
  · obtain ⟨q1, q2⟩ := a7 P i p hP hi
    exact ⟨q1, by rw [y_sl_Lu (hn p 9 q1 (by omega))]; exact q2⟩
  · by_cases e : b = x
    · rw [e]; exact hx
    · rw [y_Lu_n e] at hb; exact a10 b hb
/-- more addresses have a type -/
theorem y_DX.grow (h : y_DX z ar f0 G J C Gs S f) (hG : ∀ a, G a ≠ 0 → G' a = G a ∧ J' a = J a ∧ C' a = C a ∧ Gs' a = Gs a ∧ S' a = S a) (h0 : ∀ a, f0 a ≠ none → G' a = 0) (hz : ∀ a, f a = none → G' a = 0)
    (n7 : ∀ p, G p = 0 → G' p = 7 → C' p = [] ∧ Gs' p = [] ∧ ∃ (par nx tk : Option Nat) (co : Nat) (ch va : Int32), f p = some (.inr (7, y_Pf z C' Gs' p (J' p) par nx tk co ch va)) ∧ y_PX G' J' C' S' p par nx tk co ch)
    (n8 : ∀ t, G t = 0 → G' t = 8 → ∃ (w : Nat) (m : Option Nat) (a : Nat) (b r v : Int32) (u : Int64), f t = some (.inr (8, y_Tf w m a b r v u)) ∧ G' w = 7 ∧ y_o G' 8 m ∧ G' a = 7)
    (n9 : ∀ x, G x = 0 → G' x = 9 → ∃ (co : Nat) (ch va : Int32) (fo nx : Option Nat) (op : Int32), f x = some (.inr (9, y_Gf co ch va fo nx op)) ∧ y_GK G' co ch fo)
    (n10 : ∀ a, G a = 0 → G' a = 10 → ∃ (n : Nat) (h : Nat → Int32), f a = some (.inl (ar 0, n, .inl h)) ∧ n ≤ 72 ∧ y_cok n h) : y_DX z ar f0 G' J' C' Gs' S' f := by
  obtain ⟨a1, a2, a3, a4, a5, a6, a7, a8, a9, a10⟩ := h
  have hm : ∀ a k, k ≠ 0 → G a = k → G' a = k := fun a k hk ha => by rw [(hG a (by omega)).1]; exact ha
  have hC : ∀ P x, G' P = 7 → x ∈ C' P → G P = 7 ∧ C' P = C P := fun P x hP hx => by
    by_cases e : G P = 0
    · rw [(n7 P e hP).1] at hx; cases hx
    · have e1 := hG P e
      exact ⟨by rw [← e1.1]; exact hP, e1.2.2.1⟩
  have hGs : ∀ P x, G' P = 7 → x ∈ Gs' P → G P = 7 ∧ Gs' P = Gs P := fun P x hP hx => by
    by_cases e : G P = 0
    · rw [(n7 P e hP).2.1] at hx; cases hx
    · have e1 := hG P e
      exact ⟨by rw [← e1.1]; exact hP, e1.2.2.2.1⟩
  refine ⟨fun a ha => ⟨(a1 a ha).1, h0 a ha⟩, fun p hp => ?_, fun p hp => ?_, fun p hp => ?_, fun p hp => ?_, fun P i p hP hi => ?_, fun P i p hP hi => ?_, fun P Q x hP hQ h1 h2 => ?_, fun P Q x hP hQ h1 h2 => ?_, hz⟩
  · by_cases e : G p = 0
    · exact (n7 p e hp).2.2
    · have e1 := hG p e
      obtain ⟨par, nx, tk, co, ch, va, q1, q2⟩ := a2 p (by rw [← e1.1]; exact hp)
      refine ⟨par, nx, tk, co, ch, va, ?_, q2.mono hm e1.2.1 e1.2.2.1 e1.2.2.2.2⟩
      rw [q1]
      unfold y_Pf
      rw [e1.2.1, e1.2.2.1, e1.2.2.2.1]
  · by_cases e : G p = 0
    · exact n8 p e hp
    · obtain ⟨w, m, a, b, r, v, u, q1, q2, q3, q4⟩ := a3 p (by rw [← (hG p e).1]; exact hp)
      exact ⟨w, m, a, b, r, v, u, q1, hm w 7 (by decide) q2, fun y hy => hm y 8 (by decide) (q3 y hy), hm a 7 (by decide) q4⟩
  · by_cases e : G p = 0
    · exact n9 p e hp
    · obtain ⟨co, ch, va, fo, nx, op, q1, q2, q3, ⟨y, q4, q5⟩⟩ := a4 p (by rw [← (hG p e).1]; exact hp)
      exact ⟨co, ch, va, fo, nx, op, q1, hm co 10 (by decide) q2, q3, ⟨y, q4, hm y 7 (by decide) q5⟩⟩
  · by_cases e : G p = 0
    · exact n10 p e hp
    · exact a5 p (by rw [← (hG p e).1]; exact hp)
  · obtain ⟨e1, e2⟩ := hC P p hP (List.mem_of_getElem? hi)
    rw [e2] at hi ⊢
    obtain ⟨q1, q2, q3⟩ := a6 P i p e1 hi
    exact ⟨hm p 7 (by decide) q1, q2, q3⟩
  · obtain ⟨e1, e2⟩ := hGs P p hP (List.mem_of_getElem? hi)
    rw [e2] at hi ⊢
    obtain ⟨q1, q2⟩ := a7 P i p e1 hi
    exact ⟨hm p 9 (by decide) q1, q2⟩
  · obtain ⟨e1, e2⟩ := hC P x hP h1
    obtain ⟨e3, e4⟩ := hC Q x hQ h2
    rw [e2] at h1; rw [e4] at h2
    exact a8 P Q x e1 e3 h1 h2
  · obtain ⟨e1, e2⟩ := hGs P x hP h1
    obtain ⟨e3, e4⟩ := hGs Q x hQ h2
    rw [e2] at h1; rw [e4] at h2
    exact a9 P Q x e1 e3 h1 h2
/-- the code, the channel, the variable of an open PROCESS; it may be closed -/
theorem y_DX.put (h : y_DX z ar f0 G J C Gs S f) {p s' co co' : Nat} {par nx tk : Option Nat} {ch va ch' va' : Int32} (hp : G p = 7) (hf : f p = some (.inr (7, y_Pf z C Gs p (J p) par nx tk co ch va)))
    (hc : s' ≠ 1 → (J p = 0 ∨ J p = 1 ∨ J p = 7 ∨ J p = 8 ∨ J p = 9) → G co' = 10) (hs : s' = 0 → ((J p = 1 ∨ J p = 2 → ∃ c : Nat, c < 6 ∧ ch' = Int32.ofNat c) ∧ (J p = 7 ∨ J p = 8 → 1 ≤ (C p).length))) :
    y_DX z ar f0 G J C Gs (y_un S p s') (y_Lu f p (.inr (7, y_Pf z C Gs p (J p) par nx tk co' ch' va'))) := by
  obtain ⟨a1, a2, a3, a4, a5, a6, a7, a8, a9, a10⟩ := h
  have hn : ∀ b k, G b = k → k ≠ 7 → b ≠ p := fun b k hb hk e9 => by subst e9; exact hk (hb.symm.trans hp)
  refine ⟨fun a ha => ?_, fun q hq => ?_, fun q hq => ?_, fun q hq => ?_, fun q hq => ?_, fun P i q hP hi => ?_, fun P i q hP hi => ?_, a8, a9, fun b hb => ?_⟩
  · have e := a1 a ha
    rw [y_Lu_n (hn a 0 e.2 (by decide))]; exact e
  · by_cases e : q = p
    · subst e
      obtain ⟨par2, nx2, tk2, co2, ch2, va2, q1, b1, b2, b3, b4, b5, b6, b7⟩ := a2 q hq
      rw [hf] at q1
      simp only [y_Pf, Option.some.injEq, Sum.inr.injEq, Prod.mk.injEq, List.cons.injEq, Value.ref.injEq, Value.int.injEq, true_and, and_true] at q1
      obtain ⟨e1, e2, e3, _⟩ := q1
      have e1 := y_rf_inj e1
      have e2 := y_rf_inj e2
      have e3 := y_rf_inj e3
      subst e1 e2 e3
      exact ⟨par, nx, tk, co', ch', va', y_Lu_s, b1, b2, b3, b4, b5, by rw [y_un_s]; exact hc, by rw [y_un_s]; exact hs⟩
    · rw [y_Lu_n e]
      obtain ⟨par2, nx2, tk2, co2, ch2, va2, q1, q2⟩ := a2 q hq
      exact ⟨par2, nx2, tk2, co2, ch2, va2, q1, q2.mono (fun _ _ _ h9 => h9) rfl rfl (y_un_n e)⟩
  · rw [y_Lu_n (hn q 8 hq (by decide))]; exact a3 q hq
  · rw [y_Lu_n (hn q 9 hq (by decide))]; exact a4 q hq
  · rw [y_Lu_n (hn q 10 hq (by decide))]; exact a5 q hq
  · obtain ⟨q1, q2, q3⟩ := a6 P i q hP hi
    refine ⟨q1, q2, ?_⟩
    by_cases e : q = p
    · subst e
      rw [y_sl_at hf] at q3
      rw [y_sl_at y_Lu_s]
      exact q3
    · rw [y_sl_Lu e]; exact q3
  · obtain ⟨q1, q2⟩ := a7 P i q hP hi
    exact ⟨q1, by rw [y_sl_Lu (hn q 9 q1 (by decide))]; exact q2⟩
  · by_cases e : b = p
    · rw [e, y_Lu_s] at hb; cases hb
    · rw [y_Lu_n e] at hb; exact a10 b hb
theorem y_last_i {l : List Nat} {i x : Nat} (h : l[i]? = some x) (hl : i + 1 = l.length) : l.getLast? = some x := by
  rw [List.getLast?_eq_getElem?]
  rw [show l.length - 1 = i by omega]
  exact h
/-- one more child -/
theorem y_DX.kid (h : y_DX z ar f0 G J C Gs S f) {P p : Nat} (hP : G P = 7) (hp : G p = 7) (hne : p ≠ P) (hno : ∀ Q, G Q = 7 → p ∉ C Q) (hnx : y_sl f p 4 = some .null) (h4 : J P = 6 → (C P).length < 4)
    (hfP : ∃ (par nx tk : Option Nat) (co : Nat) (ch va : Int32), f P = some (.inr (7, y_Pf z C Gs P (J P) par nx tk co ch va)) ∧ f' P = some (.inr (7, y_Pf z (y_un C P (C P ++ [p])) Gs P (J P) par nx tk co ch va)))
    (hfc : ∀ c, (C P).getLast? = some c → ∃ (par nx tk : Option Nat) (co : Nat) (ch va : Int32), f c = some (.inr (7, y_Pf z C Gs c (J c) par nx tk co ch va)) ∧ f' c = some (.inr (7, y_Pf z C Gs c (J c) par (some p) tk co ch va)))
    (hoth : ∀ b, b ≠ P → (C P).getLast? ≠ some b → f' b = f b) : y_DX z ar f0 G J (y_un C P (C P ++ [p])) Gs S f' := by
  obtain ⟨a1, a2, a3, a4, a5, a6, a7, a8, a9, a10⟩ := h
  have hlast : ∀ c, (C P).getLast? = some c → G c = 7 ∧ c ≠ P ∧ c ∈ C P ∧ y_sl f c 4 = some .null := fun c hc => by
    rw [List.getLast?_eq_getElem?] at hc
    obtain ⟨q1, q2, q3⟩ := a6 P _ c hP hc
    have hl := (List.getElem?_eq_some_iff.mp hc).1
    rw [List.getElem?_eq_none (by omega)] at q3
    exact ⟨q1, q2, List.mem_of_getElem? hc, q3⟩
  have hkeep : ∀ b k, G b = k → k ≠ 7 → f' b = f b := fun b k hb hk => hoth b (fun e => by subst e; omega) (fun e => by have := (hlast b e).1; omega)
  have hsl : ∀ b, (C P).getLast? ≠ some b → y_sl f' b 4 = y_sl f b 4 := fun b hb => by
    by_cases e : b = P
    · subst e
      obtain ⟨par, nx, tk, co, ch, va, q1, q2⟩ := hfP
      rw [y_sl_at q1, y_sl_at q2]
      rfl
    · unfold y_sl; rw [hoth b e hb]
  refine ⟨fun a ha => ?_, fun q hq => ?_, fun q hq => ?_, fun q hq => ?_, fun q hq => ?_, fun Q i q hQ hi => ?_, fun Q i q hQ hi => ?_, fun Q Q' x hQ hQ' h1 h2 => ?_, a9, fun b hb => ?_⟩
  · have e := a1 a ha
    rw [hkeep a 0 e.2 (by decide)]; exact e
  · by_cases e : q = P
    · subst e
      obtain ⟨par, nx, tk, co, ch, va, q1, q2⟩ := hfP
      obtain ⟨par2, nx2, tk2, co2, ch2, va2, q3, b1, b2, b3, b4, b5, b6, b7⟩ := a2 q hq
      rw [q1] at q3
      simp only [y_Pf, Option.some.injEq, Sum.inr.injEq, Prod.mk.injEq, List.cons.injEq, Value.ref.injEq, Value.int.injEq, true_and, and_true] at q3
      obtain ⟨e1, e2, e3, e4, e5, e6⟩ := q3
      have e1 := y_rf_inj e1
      have e2 := y_rf_inj e2
      have e3 := y_rf_inj e3
      subst e1 e2 e3 e4 e5 e6
      refine ⟨par, nx, tk, co, ch, va, q2, b1, b2, b3, b4, ?_, b6, fun h9 => ⟨(b7 h9).1, ?_⟩⟩
      · rw [y_un_s, List.length_append]; intro h9; have := h4 h9; simp; omega
      · rw [y_un_s, List.length_append]; intro _; simp
    · by_cases ec : (C P).getLast? = some q
      · obtain ⟨par, nx, tk, co, ch, va, q1, q2⟩ := hfc q ec
        obtain ⟨par2, nx2, tk2, co2, ch2, va2, q3, b1, b2, b3, b4, b5, b6, b7⟩ := a2 q hq
        rw [q1] at q3
        simp only [y_Pf, Option.some.injEq, Sum.inr.injEq, Prod.mk.injEq, List.cons.injEq, Value.ref.injEq, Value.int.injEq, true_and, and_true] at q3
        obtain ⟨e1, e2, e3, e4, e5, e6⟩ := q3
        have e1 := y_rf_inj e1
        have e3 := y_rf_inj e3
        subst e1 e3 e4 e5 e6
        refine ⟨par, some p, tk, co, ch, va, ?_, ?_⟩
        · rw [q2]; unfold y_Pf; rw [y_un_n e]
        · exact y_PX.mono (C := C) (S := S) (J := J) (G := G) ⟨b1, b2, fun a ha => by cases ha; exact hp, b4, b5, b6, b7⟩ (fun _ _ _ h9 => h9) rfl (y_un_n e) rfl
      · obtain ⟨par2, nx2, tk2, co2, ch2, va2, q3, q4⟩ := a2 q hq
        refine ⟨par2, nx2, tk2, co2, ch2, va2, ?_, q4.mono (fun _ _ _ h9 => h9) rfl (y_un_n e) rfl⟩
        rw [hoth q e ec, q3]
        unfold y_Pf
        rw [y_un_n e]
  · rw [hkeep q 8 hq (by decide)]; exact a3 q hq
  · rw [hkeep q 9 hq (by decide)]; exact a4 q hq
  · rw [hkeep q 10 hq (by decide)]; exact a5 q hq
  · by_cases e : Q = P
    · subst e
      rw [y_un_s] at hi ⊢
      by_cases hl : i < (C Q).length
      · rw [List.getElem?_append_left hl] at hi
        obtain ⟨q1, q2, q3⟩ := a6 Q i q hQ hi
        refine ⟨q1, q2, ?_⟩
        by_cases hl2 : i + 1 = (C Q).length
        · have hc := y_last_i hi hl2
          obtain ⟨par, nx, tk, co, ch, va, c1, c2⟩ := hfc q hc
          rw [y_sl_at c2, hl2, List.getElem?_append_right (Nat.le_refl _), Nat.sub_self]
          rfl
        · have hc : (C Q).getLast? ≠ some q := fun hc => by
            have := (hlast q hc).2.2.2
            rw [q3, List.getElem?_eq_getElem (by omega)] at this
            cases this
          rw [hsl q hc, q3, List.getElem?_append_left (by omega)]
      · rw [List.getElem?_append_right (by omega)] at hi
        have hz : i - (C Q).length < 1 := (List.getElem?_eq_some_iff.mp hi).1
        rw [show i - (C Q).length = 0 by omega] at hi
        have hi : p = q := Option.some.inj hi
        subst hi
        refine ⟨hp, hne, ?_⟩
        rw [hsl p (fun hc => hno Q hQ (hlast p hc).2.2.1), hnx, List.getElem?_eq_none (by rw [List.length_append]; simp; omega)]
        rfl
    · rw [y_un_n e] at hi ⊢
      obtain ⟨q1, q2, q3⟩ := a6 Q i q hQ hi
      exact ⟨q1, q2, by rw [hsl q (fun hc => e (a8 P Q q hP hQ (hlast q hc).2.2.1 (List.mem_of_getElem? hi)))]; exact q3⟩
  · obtain ⟨q1, q2⟩ := a7 Q i q hQ hi
    refine ⟨q1, ?_⟩
    unfold y_sl at q2 ⊢
    rw [hkeep q 9 q1 (by decide)]
    exact q2
  · have key : ∀ R, G R = 7 → x ∈ y_un C P (C P ++ [p]) R → (x ∈ C R) ∨ (x = p ∧ R = P) := fun R hR hx => by
      by_cases e : R = P
      · subst e
        rw [y_un_s, List.mem_append] at hx
        rcases hx with hx | hx
        · exact Or.inl hx
        · exact Or.inr ⟨by simpa using hx, rfl⟩
      · rw [y_un_n e] at hx; exact Or.inl hx
    rcases key Q hQ h1 with k1 | ⟨k1, k2⟩ <;> rcases key Q' hQ' h2 with k3 | ⟨k3, k4⟩
    · exact a8 Q Q' x hQ hQ' k1 k3
    · subst k3; exact absurd k1 (hno Q hQ)
    · subst k1; exact absurd k3 (hno Q' hQ')
    · rw [k2, k4]
  · by_cases e : b = P
    · obtain ⟨_, _, _, _, _, _, _, q2⟩ := hfP
      rw [e, q2] at hb; cases hb
    · by_cases ec : (C P).getLast? = some b
      · obtain ⟨_, _, _, _, _, _, _, q2⟩ := hfc b ec
        rw [q2] at hb; cases hb
      · rw [hoth b e ec] at hb; exact a10 b hb
/-- one more GUARD -/
theorem y_DX.gdl (h : y_DX z ar f0 G J C Gs S f) {P p : Nat} (hP : G P = 7) (hp : G p = 9) (hno : ∀ Q, G Q = 7 → p ∉ Gs Q) (hnx : y_sl f p 4 = some .null)
    (hfP : ∃ (par nx tk : Option Nat) (co : Nat) (ch va : Int32), f P = some (.inr (7, y_Pf z C Gs P (J P) par nx tk co ch va)) ∧ f' P = some (.inr (7, y_Pf z C (y_un Gs P (Gs P ++ [p])) P (J P) par nx tk co ch va)))
    (hfc : ∀ c, (Gs P).getLast? = some c → ∃ (co : Nat) (ch va : Int32) (fo nx : Option Nat) (op : Int32), f c = some (.inr (9, y_Gf co ch va fo nx op)) ∧ f' c = some (.inr (9, y_Gf co ch va fo (some p) op)))
    (hoth : ∀ b, b ≠ P → (Gs P).getLast? ≠ some b → f' b = f b) : y_DX z ar f0 G J C (y_un Gs P (Gs P ++ [p])) S f' := by
  obtain ⟨a1, a2, a3, a4, a5, a6, a7, a8, a9, a10⟩ := h
  have hlast : ∀ c, (Gs P).getLast? = some c → G c = 9 ∧ c ∈ Gs P ∧ y_sl f c 4 = some .null := fun c hc => by
    rw [List.getLast?_eq_getElem?] at hc
    obtain ⟨q1, q3⟩ := a7 P _ c hP hc
    have hl := (List.getElem?_eq_some_iff.mp hc).1
    rw [List.getElem?_eq_none (by omega)] at q3
    exact ⟨q1, List.mem_of_getElem? hc, q3⟩
  have hkeep : ∀ b k, G b = k → k ≠ 7 → k ≠ 9 → f' b = f b := fun b k hb hk hk2 => hoth b (fun e => by subst e; omega) (fun e => by have := (hlast b e).1; omega)
  have h7 : ∀ q, G q = 7 → q ≠ P → f' q = f q := fun q hq hn => hoth q hn (fun e => by have := (hlast q e).1; omega)
  have hs7 : ∀ q, G q = 7 → y_sl f' q 4 = y_sl f q 4 := fun q hq => by
    by_cases e : q = P
    · subst e
      obtain ⟨par, nx, tk, co, ch, va, q1, q2⟩ := hfP
      rw [y_sl_at q1, y_sl_at q2]
      rfl
    · unfold y_sl; rw [h7 q hq e]
  have hs9 : ∀ q, G q = 9 → (Gs P).getLast? ≠ some q → y_sl f' q 4 = y_sl f q 4 := fun q hq hn => by
    unfold y_sl; rw [hoth q (fun e => by subst e; omega) hn]
  refine ⟨fun a ha => ?_, fun q hq => ?_, fun q hq => ?_, fun q hq => ?_, fun q hq => ?_, fun Q i q hQ hi => ?_, fun Q i q hQ hi => ?_, a8, fun Q Q' x hQ hQ' h1 h2 => ?_, fun b hb => ?_⟩
  · have e := a1 a ha
    rw [hkeep a 0 e.2 (by decide) (by decide)]; exact e
  · by_cases e : q = P
    · subst e
      obtain ⟨par, nx, tk, co, ch, va, q1, q2⟩ := hfP
      obtain ⟨par2, nx2, tk2, co2, ch2, va2, q3, q4⟩ := a2 q hq
      rw [q1] at q3
      simp only [y_Pf, Option.some.injEq, Sum.inr.injEq, Prod.mk.injEq, List.cons.injEq, Value.ref.injEq, Value.int.injEq, true_and, and_true] at q3
      obtain ⟨e1, e2, e3, e4, e5, e6⟩ := q3
      have e1 := y_rf_inj e1
      have e2 := y_rf_inj e2
      have e3 := y_rf_inj e3
      subst e1 e2 e3 e4 e5 e6
      exact ⟨par, nx, tk, co, ch, va, q2, q4⟩
    · obtain ⟨par2, nx2, tk2, co2, ch2, va2, q3, q4⟩ := a2 q hq
      refine ⟨par2, nx2, tk2, co2, ch2, va2, ?_, q4⟩
      rw [h7 q hq e, q3]
      unfold y_Pf
      rw [y_un_n e]
  · rw [hkeep q 8 hq (by decide) (by decide)]; exact a3 q hq
  · by_cases ec : (Gs P).getLast? = some q
    · obtain ⟨co, ch, va, fo, nx, op, q1, q2⟩ := hfc q ec
      obtain ⟨co2, ch2, va2, fo2, nx2, op2, q3, q4⟩ := a4 q hq
      rw [q1] at q3
      simp only [y_Gf, Option.some.injEq, Sum.inr.injEq, Prod.mk.injEq, List.cons.injEq, Value.ref.injEq, Value.int.injEq, true_and, and_true] at q3
      obtain ⟨e1, e2, e3, e4, _, _⟩ := q3
      have e4 := y_rf_inj e4
      subst e1 e2 e3 e4
      exact ⟨co, ch, va, fo, some p, op, q2, q4⟩
    · rw [hoth q (fun e => by subst e; omega) ec]; exact a4 q hq
  · rw [hkeep q 10 hq (by decide) (by decide)]; exact a5 q hq
  · obtain ⟨q1, q2, q3⟩ := a6 Q i q hQ hi
    exact ⟨q1, q2, by rw [hs7 q q1]; exact q3⟩
  · by_cases e : Q = P
    · subst e
      rw [y_un_s] at hi ⊢
      by_cases hl : i < (Gs Q).length
      · rw [List.getElem?_append_left hl] at hi
        obtain ⟨q1, q3⟩ := a7 Q i q hQ hi
        refine ⟨q1, ?_⟩
        by_cases hl2 : i + 1 = (Gs Q).length
        · have hc := y_last_i hi hl2
          obtain ⟨co, ch, va, fo, nx, op, c1, c2⟩ := hfc q hc
          rw [y_sl_at c2, hl2, List.getElem?_append_right (Nat.le_refl _), Nat.sub_self]
          rfl
        · have hc : (Gs Q).getLast? ≠ some q := fun hc => by
            have := (hlast q hc).2.2
            rw [q3, List.getElem?_eq_getElem (by omega)] at this
            cases this
          rw [hs9 q q1 hc, q3, List.getElem?_append_left (by omega)]
      · rw [List.getElem?_append_right (by omega)] at hi
        have hz : i - (Gs Q).length < 1 := (List.getElem?_eq_some_iff.mp hi).1
        rw [show i - (Gs Q).length = 0 by omega] at hi
        have hi : p = q := Option.some.inj hi
        subst hi
        refine ⟨hp, ?_⟩
        rw [hs9 p hp (fun hc => hno Q hQ (hlast p hc).2.1), hnx, List.getElem?_eq_none (by rw [List.length_append]; simp; omega)]
        rfl
    · rw [y_un_n e] at hi ⊢
      obtain ⟨q1, q3⟩ := a7 Q i q hQ hi
      exact ⟨q1, by rw [hs9 q q1 (fun hc => e (a9 P Q q hP hQ (hlast q hc).2.1 (List.mem_of_getElem? hi)))]; exact q3⟩
  · have key : ∀ R, G R = 7 → x ∈ y_un Gs P (Gs P ++ [p]) R → (x ∈ Gs R) ∨ (x = p ∧ R = P) := fun R hR hx => by
      by_cases e : R = P
      · subst e
        rw [y_un_s, List.mem_append] at hx
        rcases hx with hx | hx
        · exact Or.inl hx
        · exact Or.inr ⟨by simpa using hx, rfl⟩
      · rw [y_un_n e] at hx; exact Or.inl hx
    rcases key Q hQ h1 with k1 | ⟨k1, k2⟩ <;> rcases key Q' hQ' h2 with k3 | ⟨k3, k4⟩
    · exact a9 Q Q' x hQ hQ' k1 k3
    · subst k3; exact absurd k1 (hno Q hQ)
    · subst k1; exact absurd k3 (hno Q' hQ')
    · rw [k2, k4]
  · by_cases e : b = P
    · obtain ⟨_, _, _, _, _, _, _, q2⟩ := hfP
      rw [e, q2] at hb; cases hb
    · by_cases ec : (Gs P).getLast? = some b
      · obtain ⟨_, _, _, _, _, _, _, q2⟩ := hfc b ec
        rw [q2] at hb; cases hb
      · rw [hoth b e ec] at hb; exact a10 b hb
theorem y_DX.ex (h : y_DX z ar f0 G J C Gs S f) {a : Nat} (ha : G a ≠ 0) : f a ≠ none := fun e => ha (h.2.2.2.2.2.2.2.2.2 a e)
theorem y_DX.last (h : y_DX z ar f0 G J C Gs S f) {P c : Nat} (hP : G P = 7) (hc : (C P).getLast? = some c) : G c = 7 ∧ c ≠ P ∧ ∃ (par tk : Option Nat) (co : Nat) (ch va : Int32), f c = some (.inr (7, y_Pf z C Gs c (J c) par none tk co ch va)) := by
  have hc' := hc
  rw [List.getLast?_eq_getElem?] at hc
  obtain ⟨q1, q2, q3⟩ := h.2.2.2.2.2.1 P _ c hP hc
  have hl := (List.getElem?_eq_some_iff.mp hc).1
  rw [List.getElem?_eq_none (by omega)] at q3
  obtain ⟨par, nx, tk, co, ch, va, q4, _⟩ := h.2.1 c q1
  rw [y_sl_at q4] at q3
  have e : nx = none := y_rf_inj (Option.some.inj q3)
  subst e
  exact ⟨q1, q2, par, tk, co, ch, va, q4⟩
theorem y_DX.lastg (h : y_DX z ar f0 G J C Gs S f) {P c : Nat} (hP : G P = 7) (hc : (Gs P).getLast? = some c) : G c = 9 ∧ ∃ (co : Nat) (ch va : Int32) (fo : Option Nat) (op : Int32), f c = some (.inr (9, y_Gf co ch va fo none op)) := by
  rw [List.getLast?_eq_getElem?] at hc
  obtain ⟨q1, q3⟩ := h.2.2.2.2.2.2.1 P _ c hP hc
  have hl := (List.getElem?_eq_some_iff.mp hc).1
  rw [List.getElem?_eq_none (by omega)] at q3
  obtain ⟨co, ch, va, fo, nx, op, q4, _⟩ := h.2.2.2.1 c q1
  rw [y_sl_at q4] at q3
  have e : nx = none := y_rf_inj (Option.some.inj q3)
  subst e
  exact ⟨q1, co, ch, va, fo, op, q4⟩
/-- a new PROCESS, with its task -/
theorem y_DX.newP (h : y_DX z ar f0 G J C Gs S f) {p t jj nc : Nat} {par : Option Nat} {ch va : Int32} (hp0 : f0 p = none) (hpG : G p = 0) (htG : G t = 8 ∨ (G t = 0 ∧ f0 t = none ∧ ∃ m : Option Nat, f t = some (.inr (8, y_Tf p m p 0 0 0 0)) ∧ y_o G 8 m)) (hne : t ≠ p) (hj : jj < 11) (hpar : y_o G 7 par)
    (hfp : f p = some (.inr (7, [.ref (z (3 + jj)), va_rf par, .null, .null, .null, .ref t, .null, .ref nc, .int ch, .int va]))) : y_DX z ar f0 (y_un (y_un G t 8) p 7) (y_un J p jj) (y_un C p []) (y_un Gs p []) (y_un S p 1) f := by
  have hG' : ∀ a, a ≠ p → a ≠ t → y_un (y_un G t 8) p 7 a = G a := fun a h1 h2 => by rw [y_un_n h1, y_un_n h2]
  have hm : ∀ a k, k ≠ 0 → G a = k → y_un (y_un G t 8) p 7 a = k := fun a k hk ha => by
    by_cases e : a = p
    · subst e; omega
    · rw [y_un_n e]
      by_cases e2 : a = t
      · subst e2
        rw [y_un_s]
        rcases htG with h9 | ⟨h9, _⟩ <;> omega
      · rw [y_un_n e2]; exact ha
  have ht0 : f0 t = none := by
    rcases htG with h9 | ⟨_, h9, _⟩
    · by_cases e : f0 t = none
      · exact e
      · have := (h.1 t e).2; omega
    · exact h9
  have hpt : f p ≠ none ∧ f t ≠ none := by
    refine ⟨by rw [hfp]; exact nofun, ?_⟩
    rcases htG with h9 | ⟨_, _, m, h9, _⟩
    · exact h.ex (by omega)
    · rw [h9]; exact nofun
  refine h.grow (fun a ha => ?_) (fun a ha => ?_) (fun a ha => ?_) (fun q h1 h2 => ?_) (fun q h1 h2 => ?_) (fun q h1 h2 => ?_) (fun q h1 h2 => ?_)
  · have hap : a ≠ p := fun e => ha (by rw [e]; exact hpG)
    exact ⟨hm a (G a) ha rfl, y_un_n hap, y_un_n hap, y_un_n hap, y_un_n hap⟩
  · rw [hG' a (fun e => ha (by rw [e]; exact hp0)) (fun e => ha (by rw [e]; exact ht0))]
    exact (h.1 a ha).2
  · rw [hG' a (fun e => hpt.1 (by rw [← e]; exact ha)) (fun e => hpt.2 (by rw [← e]; exact ha))]
    exact h.2.2.2.2.2.2.2.2.2 a ha
  · have hq : q = p := by
      by_cases e : q = p
      · exact e
      · rw [y_un_n e] at h2
        by_cases e2 : q = t
        · rw [e2, y_un_s] at h2; omega
        · rw [y_un_n e2] at h2; omega
    subst hq
    refine ⟨y_un_s, y_un_s, par, none, some t, nc, ch, va, ?_, ?_⟩
    · rw [hfp]; unfold y_Pf; rw [y_un_s, y_un_s, y_un_s]; rfl
    · refine ⟨by rw [y_un_s]; exact hj, fun a ha => hm a 7 (by decide) (hpar a ha), (fun a ha => nomatch ha), ⟨t, rfl, by rw [y_un_n hne, y_un_s]⟩, fun _ => by rw [y_un_s]; exact Nat.zero_le _, fun h9 => absurd y_un_s h9, fun h9 => ?_⟩
      rw [y_un_s] at h9; omega
  · have hq : q = t := by
      by_cases e : q = p
      · rw [e, y_un_s] at h2; omega
      · rw [y_un_n e] at h2
        by_cases e2 : q = t
        · exact e2
        · rw [y_un_n e2] at h2; omega
    subst hq
    rcases htG with h9 | ⟨_, _, m, h8, h9⟩
    · omega
    · exact ⟨p, m, p, 0, 0, 0, 0, h8, y_un_s, fun a ha => hm a 8 (by decide) (h9 a ha), y_un_s⟩
  · by_cases e : q = p
    · rw [e, y_un_s] at h2; omega
    · rw [y_un_n e] at h2
      by_cases e2 : q = t
      · rw [e2, y_un_s] at h2; omega
      · rw [y_un_n e2] at h2; omega
  · by_cases e : q = p
    · rw [e, y_un_s] at h2; omega
    · rw [y_un_n e] at h2
      by_cases e2 : q = t
      · rw [e2, y_un_s] at h2; omega
      · rw [y_un_n e2] at h2; omega
/-- one address more has the type 9 or 10 -/
theorem y_DX.one (h : y_DX z ar f0 G J C Gs S f) {x k : Nat} (hx0 : f0 x = none) (hxG : G x = 0) (hfx : f x ≠ none) (hk : (k = 9 ∧ ∃ (co : Nat) (ch va : Int32) (fo nx : Option Nat) (op : Int32), f x = some (.inr (9, y_Gf co ch va fo nx op)) ∧ y_GK G co ch fo) ∨ (k = 10 ∧ ∃ (n : Nat) (h : Nat → Int32), f x = some (.inl (ar 0, n, .inl h)) ∧ n ≤ 72 ∧ y_cok n h)) : y_DX z ar f0 (y_un G x k) J C Gs S f := by
  have hm : ∀ a j, j ≠ 0 → G a = j → y_un G x k a = j := fun a j hj ha => by
    rw [y_un_n (fun e => by subst e; omega)]; exact ha
  have hq : ∀ q j, G q = 0 → y_un G x k q = j → j ≠ 0 → q = x ∧ j = k := fun q j h1 h2 h3 => by
    by_cases e : q = x
    · rw [e, y_un_s] at h2; exact ⟨e, h2.symm⟩
    · rw [y_un_n e] at h2; omega
  refine h.grow (fun a ha => ⟨hm a (G a) ha rfl, rfl, rfl, rfl, rfl⟩) (fun a ha => ?_) (fun a ha => ?_) (fun q h1 h2 => ?_) (fun q h1 h2 => ?_) (fun q h1 h2 => ?_) (fun q h1 h2 => ?_)
  · rw [y_un_n (fun e => ha (by rw [e]; exact hx0))]; exact (h.1 a ha).2
  · rw [y_un_n (fun e => hfx (by rw [← e]; exact ha))]; exact h.2.2.2.2.2.2.2.2.2 a ha
  · have := (hq q 7 h1 h2 (by decide)).2
    rcases hk with ⟨h9, _⟩ | ⟨h9, _⟩ <;> omega
  · have := (hq q 8 h1 h2 (by decide)).2
    rcases hk with ⟨h9, _⟩ | ⟨h9, _⟩ <;> omega
  · obtain ⟨e1, e2⟩ := hq q 9 h1 h2 (by decide)
    subst e1
    rcases hk with ⟨_, co, ch, va, fo, nx, op, q1, q2, q3, y, q4, q5⟩ | ⟨h9, _⟩
    · exact ⟨co, ch, va, fo, nx, op, q1, hm co 10 (by decide) q2, q3, y, q4, hm y 7 (by decide) q5⟩
    · omega
  · obtain ⟨e1, e2⟩ := hq q 10 h1 h2 (by decide)
    subst e1
    rcases hk with ⟨h9, _⟩ | ⟨_, h9⟩
    · omega
    · exact h9
end YDX
