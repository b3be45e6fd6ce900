-- ===== 9b.yload: the machine's cells and those that were read =====
def y_mg {α : Type} (f0 : Nat → Option va_E) (x y : Nat → α) : Nat → α := fun a => match f0 a with
  | none => x a
  | some _ => y a
theorem y_mg_n {α : Type} {f0 : Nat → Option va_E} {x y : Nat → α} {a : Nat} (h : f0 a = none) : y_mg f0 x y a = x a := by unfold y_mg; rw [h]
theorem y_mg_s {α : Type} {f0 : Nat → Option va_E} {x y : Nat → α} {a : Nat} (h : f0 a ≠ none) : y_mg f0 x y a = y a := by
  unfold y_mg
  cases e : f0 a with
  | none => exact absurd e h
  | some _ => rfl
section YLD
variable {z : Nat → Nat} {ar : Nat → ClassId} {f0 f f' : Nat → Option va_E} {G J G0 : Nat → Nat} {C Gs C0 Gs0 : Nat → List Nat} {S : Nat → Nat} {I I' : Nat → Int32} {O O' : Nat → Option Nat} {n : Nat × Nat × Nat × Nat}
theorem y_DX.nil : y_DX z ar f0 (fun _ => 0) (fun _ => 0) (fun _ => []) (fun _ => []) (fun _ => 0) f0 :=
  have h7 : ∀ k : Nat, 0 = k + 1 → False := fun k h => by omega
  ⟨fun _ _ => ⟨rfl, rfl⟩, fun _ h => (h7 6 h).elim, fun _ h => (h7 7 h).elim, fun _ h => (h7 8 h).elim, fun _ h => (h7 9 h).elim, fun _ _ _ h => (h7 6 h).elim, fun _ _ _ h => (h7 6 h).elim, fun _ _ _ h => (h7 6 h).elim, fun _ _ _ h => (h7 6 h).elim, fun _ _ => rfl⟩
theorem y_DY.ex (h : y_DY z ar G C Gs f) {a k : Nat} (ha : G a = k) (hk : k = 7 ∨ k = 8 ∨ k = 9 ∨ k = 10) : f a ≠ none := by
  rcases hk with rfl | rfl | rfl | rfl
  · obtain ⟨_, _, _, _, _, _, _, q, _⟩ := h.1 a ha; rw [q]; exact nofun
  · obtain ⟨_, _, _, _, _, _, _, q, _⟩ := h.2.1 a ha; rw [q]; exact nofun
  · obtain ⟨_, _, _, _, _, _, q, _⟩ := h.2.2.1 a ha; rw [q]; exact nofun
  · obtain ⟨_, _, q, _⟩ := h.2.2.2.1 a ha; rw [q]; exact nofun
theorem y_sl_eq {p k : Nat} (h : f' p = f p) : y_sl f' p k = y_sl f p k := by unfold y_sl; rw [h]
theorem y_DY.ext (h : y_DY z ar G C Gs f) (hf : ∀ a, f a ≠ none → f' a = f a) : y_DY z ar G C Gs f' := by
  have hx : ∀ a k, G a = k → (k = 7 ∨ k = 8 ∨ k = 9 ∨ k = 10) → f' a = f a := fun a k h1 h2 => hf a (h.ex h1 h2)
  obtain ⟨a1, a2, a3, a4, a5, a6⟩ := h
  refine ⟨fun p hp => ?_, fun p hp => ?_, fun p hp => ?_, fun p hp => ?_, fun P i p hP hi => ?_, fun P i p hP hi => ?_⟩
  · rw [hx p 7 hp (by omega)]; exact a1 p hp
  · rw [hx p 8 hp (by omega)]; exact a2 p hp
  · rw [hx p 9 hp (by omega)]; exact a3 p hp
  · rw [hx p 10 hp (by omega)]; exact a4 p hp
  · obtain ⟨q1, q2⟩ := a5 P i p hP hi
    exact ⟨q1, by rw [y_sl_eq (hx p 7 q1 (by omega))]; exact q2⟩
  · obtain ⟨q1, q2⟩ := a6 P i p hP hi
    exact ⟨q1, by rw [y_sl_eq (hx p 9 q1 (by omega))]; exact q2⟩
theorem y_LS.ext {o : Option Nat} {k cap : Nat} (h : y_LS z ar G f o k cap) (hf : ∀ a, f a ≠ none → f' a = f a) (hG : ∀ t, G t = 8 → G0 t = 8) : y_LS z ar G0 f' o k cap := by
  rcases h with h | ⟨a, g, h1, h2, h3, h4, h5, h6⟩
  · exact Or.inl h
  · exact Or.inr ⟨a, g, h1, by rw [hf a (by rw [h2]; exact nofun)]; exact h2, h3, h4, h5, fun j hj => by obtain ⟨t, q1, q2⟩ := h6 j hj; exact ⟨t, q1, hG t q2⟩⟩
theorem y_MI.ext (h : y_MI z ar G C Gs I O f n) (hf : ∀ a, f a ≠ none → f' a = f a) (h10 : I' 10 = I 10) (h11 : I' 11 = I 11) (h12 : I' 12 = I 12) (h14 : I' 14 = I 14) (hO : ∀ k, k ≠ 0 → O' k = O k) : y_MI z ar G C Gs I' O' f' n := by
  obtain ⟨a1, a2, a3, a4, a5, a6, a7, a8⟩ := h
  refine ⟨a1.ext hf, ⟨h12.trans a2.1, by rw [hO 1 (by decide)]; exact a2.2.ext hf (fun _ h9 => h9)⟩, ⟨h14.trans a3.1, by rw [hO 2 (by decide)]; exact a3.2.ext hf (fun _ h9 => h9)⟩, by rw [hO 1 (by decide), hO 2 (by decide)]; exact a4, a5, fun c hc => ?_, by rw [h10]; exact a7, by rw [h11]; exact a8⟩
  rw [hO _ (by omega), hO _ (by omega), hO _ (by omega)]
  exact a6 c hc
/-- what was read belongs to the machine's cells now -/
theorem y_MI.load (h : y_MI z ar G0 C0 Gs0 I O f0 n) (hx : y_DX z ar f0 G J C Gs S f) (hS : ∀ p, G p = 7 → S p = 0) : y_MI z ar (y_mg f0 G G0) (y_mg f0 C C0) (y_mg f0 Gs Gs0) I O f n := by
  obtain ⟨a1, a2, a3, a4, a5, a6, a7, a8⟩ := h
  have hn : ∀ a, G a ≠ 0 → f0 a = none := fun a ha => by
    by_cases e : f0 a = none
    · exact e
    · exact absurd (hx.1 a e).2 ha
  have hf : ∀ a, f0 a ≠ none → f a = f0 a := fun a ha => (hx.1 a ha).1
  have hm : ∀ a k, k ≠ 0 → G a = k → y_mg f0 G G0 a = k := fun a k hk ha => by rw [y_mg_n (hn a (by omega))]; exact ha
  have h0 : ∀ a k, (k = 7 ∨ k = 8 ∨ k = 9 ∨ k = 10) → G0 a = k → y_mg f0 G G0 a = k := fun a k hk ha => by rw [y_mg_s (a1.ex ha hk)]; exact ha
  have hdy : y_DY z ar (y_mg f0 G G0) (y_mg f0 C C0) (y_mg f0 Gs Gs0) f := by
    refine ⟨fun p hp => ?_, fun p hp => ?_, fun p hp => ?_, fun p hp => ?_, fun P i p hP hi => ?_, fun P i p hP hi => ?_⟩
    · by_cases e : f0 p = none
      · rw [y_mg_n e] at hp
        obtain ⟨par, nx, tk, co, ch, va, q1, b1, b2, b3, ⟨t, b4, b4'⟩, b5, b6, b7⟩ := hx.2.1 p hp
        have hs := hS p hp
        refine ⟨J p, par, nx, tk, co, ch, va, ?_, b1, fun a ha => hm a 7 (by decide) (b2 a ha), fun a ha => hm a 7 (by decide) (b3 a ha), ⟨t, b4, hm t 8 (by decide) b4'⟩, fun h9 => hm co 10 (by decide) (b6 (by omega) h9), (b7 hs).1, ?_, ?_⟩
        · rw [q1]; unfold y_Pf; rw [y_mg_n e, y_mg_n e]
        · rw [y_mg_n e]; exact (b7 hs).2
        · rw [y_mg_n e]; exact b5
      · rw [y_mg_s e] at hp
        obtain ⟨j, par, nx, tk, co, ch, va, q1, b1, b2, b3, ⟨t, b4, b4'⟩, b5, b6, b7, b8⟩ := a1.1 p hp
        refine ⟨j, par, nx, tk, co, ch, va, ?_, b1, fun a ha => h0 a 7 (by decide) (b2 a ha), fun a ha => h0 a 7 (by decide) (b3 a ha), ⟨t, b4, h0 t 8 (by decide) b4'⟩, fun h9 => h0 co 10 (by decide) (b5 h9), b6, ?_, ?_⟩
        · rw [hf p e, q1]; unfold y_Pf; rw [y_mg_s e, y_mg_s e]
        · rw [y_mg_s e]; exact b7
        · rw [y_mg_s e]; exact b8
    · by_cases e : f0 p = none
      · rw [y_mg_n e] at hp
        obtain ⟨w, m, a, b, r, v, u, q1, q2, q3, q4⟩ := hx.2.2.1 p hp
        exact ⟨w, m, a, b, r, v, u, q1, hm w 7 (by decide) q2, fun y hy => hm y 8 (by decide) (q3 y hy), hm a 7 (by decide) q4⟩
      · rw [y_mg_s e] at hp
        obtain ⟨w, m, a, b, r, v, u, q1, q2, q3, q4⟩ := a1.2.1 p hp
        exact ⟨w, m, a, b, r, v, u, by rw [hf p e]; exact q1, h0 w 7 (by decide) q2, fun y hy => h0 y 8 (by decide) (q3 y hy), h0 a 7 (by decide) q4⟩
    · by_cases e : f0 p = none
      · rw [y_mg_n e] at hp
        obtain ⟨co, ch, va, fo, nx, op, q1, q2, q3, y, q4, q5⟩ := hx.2.2.2.1 p hp
        exact ⟨co, ch, va, fo, nx, op, q1, hm co 10 (by decide) q2, q3, y, q4, hm y 7 (by decide) q5⟩
      · rw [y_mg_s e] at hp
        obtain ⟨co, ch, va, fo, nx, op, q1, q2, q3, y, q4, q5⟩ := a1.2.2.1 p hp
        exact ⟨co, ch, va, fo, nx, op, by rw [hf p e]; exact q1, h0 co 10 (by decide) q2, q3, y, q4, h0 y 7 (by decide) q5⟩
    · by_cases e : f0 p = none
      · rw [y_mg_n e] at hp
        exact hx.2.2.2.2.1 p hp
      · rw [y_mg_s e] at hp
        obtain ⟨k, h9, q1, q2⟩ := a1.2.2.2.1 p hp
        exact ⟨k, h9, by rw [hf p e]; exact q1, q2⟩
    · by_cases e : f0 P = none
      · rw [y_mg_n e] at hP hi ⊢
        obtain ⟨q1, q2, q3⟩ := hx.2.2.2.2.2.1 P i p hP hi
        exact ⟨hm p 7 (by decide) q1, q3⟩
      · rw [y_mg_s e] at hP hi ⊢
        obtain ⟨q1, q2⟩ := a1.2.2.2.2.1 P i p hP hi
        exact ⟨h0 p 7 (by decide) q1, by rw [y_sl_eq (hf p (a1.ex q1 (by decide)))]; exact q2⟩
    · by_cases e : f0 P = none
      · rw [y_mg_n e] at hP hi ⊢
        obtain ⟨q1, q2⟩ := hx.2.2.2.2.2.2.1 P i p hP hi
        exact ⟨hm p 9 (by decide) q1, q2⟩
      · rw [y_mg_s e] at hP hi ⊢
        obtain ⟨q1, q2⟩ := a1.2.2.2.2.2 P i p hP hi
        exact ⟨h0 p 9 (by decide) q1, by rw [y_sl_eq (hf p (a1.ex q1 (by decide)))]; exact q2⟩
  refine ⟨hdy, ⟨a2.1, a2.2.ext hf (fun t ht => h0 t 8 (by decide) ht)⟩, ⟨a3.1, a3.2.ext hf (fun t ht => h0 t 8 (by decide) ht)⟩, a4, a5, fun c hc => ?_, a7, a8⟩
  obtain ⟨b1, b2, b3⟩ := a6 c hc
  exact ⟨fun a ha => h0 a 8 (by decide) (b1 a ha), fun a ha => h0 a 8 (by decide) (b2 a ha), fun h9 a ha => h0 a 7 (by decide) (b3 h9 a ha)⟩
/-- the program that was read: its PROCESS, its task -/
theorem y_SU.load {p : Nat} (h : y_MI z ar G0 C0 Gs0 I O f0 n) (hs : y_SU z ar f0 f0 (fun _ => 0) (fun _ => 0) (fun _ => []) (fun _ => []) (fun _ => 0) none p f) : ∃ (G : Nat → Nat) (C Gs : Nat → List Nat) (J : Nat → Nat) (t : Nat) (v0 v1 v2 v3 v4 v6 v7 v8 v9 : Value), y_MI z ar G C Gs I O f n ∧ G t = 8 ∧ f p = some (.inr (7, [v0, v1, v2, v3, v4, .ref t, v6, v7, v8, v9])) ∧ J = fun _ => 0 := by
  obtain ⟨G, J, C, Gs, S, h1, hx, h3, h4, h5, h6⟩ := hs
  have hn : ∀ a, G a ≠ 0 → f0 a = none := fun a ha => by
    by_cases e : f0 a = none
    · exact e
    · exact absurd (hx.1 a e).2 ha
  obtain ⟨par, nx, tk, co, ch, va, q1, _, _, _, ⟨t, rfl, q2⟩, _⟩ := hx.2.1 p h5
  refine ⟨_, _, _, _, t, _, _, _, _, _, _, _, _, _, h.load hx (fun a ha => h6 a (hn a (by omega)) ha), ?_, q1, rfl⟩
  rw [y_mg_n (hn t (by omega))]
  exact q2
end YLD
