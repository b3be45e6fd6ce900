-- ===== 95.yadd: a new PROCESS is put under its parent =====
section YADD
variable {z : Nat → Nat} {ar : Nat → ClassId} {f0 f f' : Nat → Option va_E} {G J : Nat → Nat} {C Gs : Nat → List Nat} {S : Nat → Nat}
theorem y_glast {l : List Nat} {p : Nat} : (l ++ [p]).getLast? = some p := by simp
theorem y_DX.add (h : y_DX z ar f0 G J C Gs S f) {p t jj nc : Nat} {par : Option Nat} {ch va : Int32} (hpn : f p = none) (hj : jj < 11) (hne : t ≠ p)
    (ht : G t = 8 ∨ (f t = none ∧ ∃ m : Option Nat, f' t = some (.inr (8, y_Tf p m p 0 0 0 0)) ∧ y_o G 8 m))
    (hfp : f' p = some (.inr (7, [.ref (z (3 + jj)), va_rf par, .null, .null, .null, .ref t, .null, .ref nc, .int ch, .int va])))
    (hpar : ∀ P, par = some P → G P = 7 ∧ (J P = 6 → (C P).length < 4) ∧
      (∃ (par1 nx1 tk1 : Option Nat) (co1 : Nat) (ch1 va1 : Int32), f P = some (.inr (7, y_Pf z C Gs P (J P) par1 nx1 tk1 co1 ch1 va1)) ∧ f' P = some (.inr (7, [.ref (z (3 + J P)), va_rf par1, va_rf (C P ++ [p]).head?, .ref p, va_rf nx1, va_rf tk1, va_rf (Gs P).head?, .ref co1, .int ch1, .int va1]))) ∧
      (∀ c, (C P).getLast? = some c → ∃ (par1 nx1 tk1 : Option Nat) (co1 : Nat) (ch1 va1 : Int32), f c = some (.inr (7, y_Pf z C Gs c (J c) par1 nx1 tk1 co1 ch1 va1)) ∧ f' c = some (.inr (7, y_Pf z C Gs c (J c) par1 (some p) tk1 co1 ch1 va1))))
    (hoth : ∀ b, b ≠ p → (b ≠ t ∨ G t = 8) → par ≠ some b → (∀ P, par = some P → (C P).getLast? ≠ some b) → f' b = f b) :
    ∃ (G' J' : Nat → Nat) (C' Gs' : Nat → List Nat) (S' : Nat → Nat), y_DX z ar f0 G' J' C' Gs' S' f' ∧ y_FX f G J Gs S f' G' J' Gs' S' ∧ (∀ a, f a ≠ none → C' a = if par = some a then C a ++ [p] else C a) ∧ G' p = 7 ∧ J' p = jj ∧ C' p = [] ∧ Gs' p = [] ∧ S' p = 1 ∧ ∀ a, f a = none → G' a = 7 → a = p := by
  obtain ⟨hp0, hpG⟩ := h.un hpn
  have hparT : y_o G 7 par := fun a ha => (hpar a ha).1
  -- the cells with the new ones, not linked yet
  have key : ∃ f1 : Nat → Option va_E, y_DX z ar f0 G J C Gs S f1 ∧ f1 p = f' p ∧ f1 t = f' t ∧ (∀ b, b ≠ p → (b ≠ t ∨ G t = 8) → f1 b = f b) ∧ (G t = 8 ∨ (G t = 0 ∧ f0 t = none ∧ ∃ m : Option Nat, f1 t = some (.inr (8, y_Tf p m p 0 0 0 0)) ∧ y_o G 8 m)) := by
    rcases ht with h8 | ⟨htn, m, hft, hm⟩
    · refine ⟨y_Lu f p _, h.off (e := .inr (7, [.ref (z (3 + jj)), va_rf par, .null, .null, .null, .ref t, .null, .ref nc, .int ch, .int va])) hp0 hpG, by rw [y_Lu_s, hfp], ?_, fun b hb _ => y_Lu_n hb, Or.inl h8⟩
      rw [y_Lu_n hne]
      exact (hoth t hne (Or.inr h8) (fun e => by have := (hpar t e).1; omega) (fun P hP e => by have := (h.last (hpar P hP).1 e).1; omega)).symm
    · obtain ⟨ht0, htG⟩ := h.un htn
      refine ⟨y_Lu (y_Lu f t (.inr (8, y_Tf p m p 0 0 0 0))) p _, (h.off ht0 htG).off (e := .inr (7, [.ref (z (3 + jj)), va_rf par, .null, .null, .null, .ref t, .null, .ref nc, .int ch, .int va])) hp0 hpG, by rw [y_Lu_s, hfp], ?_, fun b hb hb2 => ?_, Or.inr ⟨htG, ht0, m, ?_, hm⟩⟩
      · rw [y_Lu_n hne, y_Lu_s, hft]
      · rw [y_Lu_n hb, y_Lu_n (hb2.elim id (fun e => by omega))]
      · rw [y_Lu_n hne, y_Lu_s]
  obtain ⟨f1, h1, e1, e2, e3, ht1⟩ := key
  have h2 := h1.newP (jj := jj) (nc := nc) (ch := ch) (va := va) hp0 hpG ht1 hne hj hparT (e1.trans hfp)
  have hold : ∀ a, f a ≠ none → a ≠ p ∧ (a ≠ t ∨ G t = 8) := fun a ha => by
    refine ⟨fun e => ha (by rw [e]; exact hpn), ?_⟩
    rcases ht with h8 | ⟨h8, _⟩
    · exact Or.inr h8
    · exact Or.inl (fun e => ha (by rw [e]; exact h8))
  have hGo : ∀ a, f a ≠ none → y_un (y_un G t 8) p 7 a = G a := fun a ha => by
    rw [y_un_n (hold a ha).1]
    by_cases e : a = t
    · rw [e, y_un_s]; exact ((hold a ha).2.elim (fun h9 => absurd e h9) id).symm
    · rw [y_un_n e]
  have hnew : ∀ a, f a = none → y_un (y_un G t 8) p 7 a = 7 → a = p := fun a ha h7 => by
    by_cases e : a = p
    · exact e
    · rw [y_un_n e] at h7
      by_cases e9 : a = t
      · rw [e9, y_un_s] at h7; omega
      · rw [y_un_n e9, (h.un ha).2] at h7; omega
  cases par with
  | none =>
    have hf : f' = f1 := by
      funext b
      by_cases eb : b = p
      · rw [eb, e1]
      · by_cases et : b = t
        · rw [et, e2]
        · rw [e3 b eb (Or.inl et)]
          exact hoth b eb (Or.inl et) nofun (fun P hP => nomatch hP)
    refine ⟨_, _, _, _, _, by rw [hf]; exact h2, fun a ha => ?_, fun a ha => ?_, y_un_s, y_un_s, y_un_s, y_un_s, y_un_s, hnew⟩
    · obtain ⟨q1, q2⟩ := hold a ha
      have q3 : f' a = f a := by rw [hf]; exact e3 a q1 q2
      exact ⟨by rw [q3]; exact ha, hGo a ha, y_un_n q1, y_un_n q1, y_un_n q1, fun _ => q3⟩
    · rw [if_neg nofun]
      exact y_un_n (hold a ha).1
  | some P =>
    obtain ⟨hP, h4, ⟨par1, nx1, tk1, co1, ch1, va1, hfP, hfP'⟩, hfc⟩ := hpar P rfl
    have hPe : f P ≠ none := h.ex (by omega)
    obtain ⟨hPp, hPt⟩ := hold P hPe
    have hlast : ∀ c, (C P).getLast? = some c → f c ≠ none ∧ G c = 7 := fun c hc => by
      have := (h.last hP hc).1
      exact ⟨h.ex (by omega), this⟩
    have h3 := h2.kid (f' := f') (P := P) (p := p) (by rw [hGo P hPe]; exact hP) y_un_s (fun e => hPp e.symm) (fun Q hQ hm => by
        by_cases e : Q = p
        · rw [e, y_un_s] at hm; cases hm
        · rw [y_un_n e] at hm
          obtain ⟨i, hi⟩ := List.mem_iff_getElem?.mp hm
          have hQ7 : G Q = 7 := by
            rw [y_un_n e] at hQ
            by_cases e9 : Q = t
            · rw [e9, y_un_s] at hQ; omega
            · rw [y_un_n e9] at hQ; exact hQ
          have := (h.2.2.2.2.2.1 Q i p hQ7 hi).1
          omega) (by rw [y_sl_at (e1.trans hfp)]; rfl) (by rw [y_un_n hPp, y_un_n hPp]; exact h4)
      ⟨par1, nx1, tk1, co1, ch1, va1, by rw [e3 P hPp hPt, hfP]; unfold y_Pf; rw [y_un_n hPp, y_un_n hPp, y_un_n hPp], by rw [hfP']; unfold y_Pf; rw [y_un_s, y_un_n hPp, y_un_n hPp, y_un_n hPp, y_glast]; rfl⟩
      (fun c hc => by
        rw [y_un_n hPp] at hc
        obtain ⟨q1, q2, q3, q4, q5, q6, q7, q8⟩ := hfc c hc
        obtain ⟨r1, r2⟩ := hold c (hlast c hc).1
        refine ⟨q1, q2, q3, q4, q5, q6, ?_, ?_⟩
        · rw [e3 c r1 r2, q7]; unfold y_Pf; rw [y_un_n r1, y_un_n r1, y_un_n r1]
        · rw [q8]; unfold y_Pf; rw [y_un_n r1, y_un_n r1, y_un_n r1])
      (fun b hb1 hb2 => by
        rw [y_un_n hPp] at hb2
        by_cases eb : b = p
        · rw [eb, e1]
        · by_cases et : b = t
          · rw [et, e2]
          · rw [e3 b eb (Or.inl et)]
            exact hoth b eb (Or.inl et) (fun e => hb1 (Option.some.inj e).symm) (fun P' hP' => by cases hP'; exact hb2))
    refine ⟨_, _, _, _, _, h3, fun a ha => ?_, fun a ha => ?_, y_un_s, y_un_s, ?_, y_un_s, y_un_s, hnew⟩
    · obtain ⟨q1, q2⟩ := hold a ha
      refine ⟨?_, hGo a ha, y_un_n q1, y_un_n q1, y_un_n q1, fun h7 => hoth a q1 q2 (fun e => h7 (by cases e; exact hP)) (fun P' hP' e => h7 (by cases hP'; exact (hlast a e).2))⟩
      by_cases ea : a = P
      · rw [ea, hfP']; exact nofun
      · by_cases ec : (C P).getLast? = some a
        · obtain ⟨_, _, _, _, _, _, _, q8⟩ := hfc a ec
          rw [q8]; exact nofun
        · rw [hoth a q1 q2 (fun e => ea (Option.some.inj e).symm) (fun P' hP' => by cases hP'; exact ec)]; exact ha
    · by_cases ea : a = P
      · subst ea
        rw [if_pos rfl, y_un_s, y_un_n hPp]
      · rw [if_neg (fun e => ea (Option.some.inj e).symm), y_un_n ea, y_un_n (hold a ha).1]
    · rw [y_un_n (fun e => hPp e.symm), y_un_s]
end YADD
