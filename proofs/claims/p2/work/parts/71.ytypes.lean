-- ===== 71.ytypes: what the cells of a program hold, by a typing of addresses: 7 PROCESS, 8 task, 9 GUARD, 10 code =====
def y_o (G : Nat → Nat) (k : Nat) (o : Option Nat) : Prop := ∀ a, o = some a → G a = k
/-- a field of an object -/
def y_sl (f : Nat → Option va_E) (a k : Nat) : Option Value := match f a with
  | some (.inr (_, fs)) => fs[k]?
  | _ => none
def y_Pf (z : Nat → Nat) (C Gs : Nat → List Nat) (p j : Nat) (par nx tk : Option Nat) (co : Nat) (ch va : Int32) : List Value := [.ref (z (3 + j)), va_rf par, va_rf (C p).head?, va_rf (C p).getLast?, va_rf nx, va_rf tk, va_rf (Gs p).head?, .ref co, .int ch, .int va]
def y_Tf (w : Nat) (m : Option Nat) (a : Nat) (b r v : Int32) (u : Int64) : List Value := [.ref w, va_rf m, .ref a, .int b, .int r, .int v, .long u]
def y_Gf (co : Nat) (ch va : Int32) (fo nx : Option Nat) (op : Int32) : List Value := [.ref co, .int ch, .int va, va_rf fo, va_rf nx, .int op]
def y_PK (G : Nat → Nat) (C : Nat → List Nat) (p j : Nat) (par nx tk : Option Nat) (co : Nat) (ch : Int32) : Prop :=
  j < 11 ∧ y_o G 7 par ∧ y_o G 7 nx ∧ (∃ t, tk = some t ∧ G t = 8) ∧ (j = 0 ∨ j = 1 ∨ j = 7 ∨ j = 8 ∨ j = 9 → G co = 10) ∧ (j = 1 ∨ j = 2 → ∃ c : Nat, c < 6 ∧ ch = Int32.ofNat c) ∧ (j = 7 ∨ j = 8 → 1 ≤ (C p).length) ∧ (j = 6 → (C p).length ≤ 4)
/-- what may stand in an expression's code -/
def y_op (e : Int32) : Prop := ¬ e < 0 ∨ e = -1 ∨ e = -60 ∨ e = -61 ∨ e = -43 ∨ e = -45 ∨ e = -42 ∨ e = -47 ∨ e = -37
def y_cok (n : Nat) (h : Nat → Int32) : Prop := ∀ i, i < n → y_op (h i)
def y_GK (G : Nat → Nat) (co : Nat) (ch : Int32) (fo : Option Nat) : Prop := G co = 10 ∧ (ch = -1 ∨ ∃ c : Nat, c < 6 ∧ ch = Int32.ofNat c) ∧ ∃ p, fo = some p ∧ G p = 7
def y_DY (z : Nat → Nat) (ar : Nat → ClassId) (G : Nat → Nat) (C Gs : Nat → List Nat) (f : Nat → Option va_E) : Prop :=
  (∀ p, G p = 7 → ∃ (j : Nat) (par nx tk : Option Nat) (co : Nat) (ch va : Int32), f p = some (.inr (7, y_Pf z C Gs p j par nx tk co ch va)) ∧ y_PK G C p j par nx tk co ch) ∧
  (∀ t, G t = 8 → ∃ (w : Nat) (m : Option Nat) (a : Nat) (b r v : Int32) (u : Int64), f t = some (.inr (8, y_Tf w m a b r v u)) ∧ G w = 7 ∧ y_o G 8 m ∧ G a = 7) ∧
  (∀ g, G g = 9 → ∃ (co : Nat) (ch va : Int32) (fo nx : Option Nat) (op : Int32), f g = some (.inr (9, y_Gf co ch va fo nx op)) ∧ y_GK G co ch fo) ∧
  (∀ a, G a = 10 → ∃ (n : Nat) (h : Nat → Int32), f a = some (.inl (ar 0, n, .inl h)) ∧ n ≤ 72 ∧ y_cok n h) ∧
  (∀ P i p, G P = 7 → (C P)[i]? = some p → G p = 7 ∧ y_sl f p 4 = some (va_rf (C P)[i + 1]?)) ∧
  (∀ P i g, G P = 7 → (Gs P)[i]? = some g → G g = 9 ∧ y_sl f g 4 = some (va_rf (Gs P)[i + 1]?))
theorem y_rf_inj {a b : Option Nat} (h : va_rf a = va_rf b) : a = b := by cases a <;> cases b <;> simp_all [va_rf]
section YD
variable {z : Nat → Nat} {ar : Nat → ClassId} {G : Nat → Nat} {C Gs : Nat → List Nat} {f f' : Nat → Option va_E}
theorem y_sl_Lu {a b k : Nat} {e : va_E} (h : b ≠ a) : y_sl (y_Lu f a e) b k = y_sl f b k := by unfold y_sl; rw [y_Lu_n h]
theorem y_sl_at {a k c : Nat} {fs : List Value} (h : f a = some (.inr (c, fs))) : y_sl f a k = fs[k]? := by unfold y_sl; rw [h]
/-- another cell at an address without a type -/
theorem y_DY.off (h : y_DY z ar G C Gs f) {a : Nat} {e : va_E} (ha : G a ≠ 7 ∧ G a ≠ 8 ∧ G a ≠ 9 ∧ G a ≠ 10) : y_DY z ar G C Gs (y_Lu f a e) := by
  obtain ⟨h1, h2, h3, h4, h5, h6⟩ := h
  have hn : ∀ b k, G b = k → (k = 7 ∨ k = 8 ∨ k = 9 ∨ k = 10) → b ≠ a := fun b k hb hk e9 => by
    subst e9
    rcases hk with rfl | rfl | rfl | rfl
    · exact ha.1 hb
    · exact ha.2.1 hb
    · exact ha.2.2.1 hb
    · exact ha.2.2.2 hb
  refine ⟨fun p hp => ?_, fun p hp => ?_, fun p hp => ?_, fun p hp => ?_, fun P i p hP hi => ?_, fun P i p hP hi => ?_⟩
  · rw [y_Lu_n (hn p 7 hp (by omega))]; exact h1 p hp
  · rw [y_Lu_n (hn p 8 hp (by omega))]; exact h2 p hp
  · rw [y_Lu_n (hn p 9 hp (by omega))]; exact h3 p hp
  · rw [y_Lu_n (hn p 10 hp (by omega))]; exact h4 p hp
  · obtain ⟨q1, q2⟩ := h5 P i p hP hi
    exact ⟨q1, by rw [y_sl_Lu (hn p 7 q1 (by omega))]; exact q2⟩
  · obtain ⟨q1, q2⟩ := h6 P i p hP hi
    exact ⟨q1, by rw [y_sl_Lu (hn p 9 q1 (by omega))]; exact q2⟩
theorem y_DY.ty (h : y_DY z ar G C Gs f) {a : Nat} (hf : (∀ c fs, f a = some (.inr (c, fs)) → c ≠ 7 ∧ c ≠ 8 ∧ c ≠ 9) ∧ ∀ c n g, f a ≠ some (.inl (c, n, .inl g))) : G a ≠ 7 ∧ G a ≠ 8 ∧ G a ≠ 9 ∧ G a ≠ 10 := by
  obtain ⟨h1, h2, h3, h4, -, -⟩ := h
  refine ⟨fun e => ?_, fun e => ?_, fun e => ?_, fun e => ?_⟩
  · obtain ⟨_, _, _, _, _, _, _, q, _⟩ := h1 a e
    exact (hf.1 _ _ q).1 rfl
  · obtain ⟨_, _, _, _, _, _, _, q, _⟩ := h2 a e
    exact (hf.1 _ _ q).2.1 rfl
  · obtain ⟨_, _, _, _, _, _, q, _⟩ := h3 a e
    exact (hf.1 _ _ q).2.2 rfl
  · obtain ⟨_, _, q, _⟩ := h4 a e
    exact hf.2 _ _ _ q
/-- a row of references -/
theorem y_DY.row (h : y_DY z ar G C Gs f) {a n : Nat} {c : ClassId} {x : (Nat → Int64) ⊕ ((Nat → UInt32) ⊕ ((Nat → UInt64) ⊕ (Nat → Option Nat)))} (hf : f a = some (.inl (c, n, .inr x))) {e : va_E} : y_DY z ar G C Gs (y_Lu f a e) := h.off (h.ty ⟨fun c fs q => (by rw [hf] at q; cases q), fun c n g q => (by rw [hf] at q; cases q)⟩)
theorem y_DY.new (h : y_DY z ar G C Gs f) {a : Nat} (hf : f a = none) {e : va_E} : y_DY z ar G C Gs (y_Lu f a e) := h.off (h.ty ⟨fun c fs q => (by rw [hf] at q; cases q), fun c n g q => (by rw [hf] at q; cases q)⟩)
theorem y_DY.task (h : y_DY z ar G C Gs f) {t w : Nat} {m : Option Nat} {a : Nat} {b r v : Int32} {u : Int64} (ht : G t = 8) (hw : G w = 7) (hm : y_o G 8 m) (ha : G a = 7) : y_DY z ar G C Gs (y_Lu f t (.inr (8, y_Tf w m a b r v u))) := by
  obtain ⟨h1, h2, h3, h4, h5, h6⟩ := h
  have hn : ∀ b k, G b = k → k ≠ 8 → b ≠ t := fun b k hb hk e9 => by subst e9; omega
  refine ⟨fun p hp => ?_, fun p hp => ?_, fun p hp => ?_, fun p hp => ?_, fun P i p hP hi => ?_, fun P i p hP hi => ?_⟩
  · rw [y_Lu_n (hn p 7 hp (by omega))]; exact h1 p hp
  · by_cases e : p = t
    · subst e; exact ⟨w, m, a, b, r, v, u, y_Lu_s, hw, hm, ha⟩
    · rw [y_Lu_n e]; exact h2 p hp
  · rw [y_Lu_n (hn p 9 hp (by omega))]; exact h3 p hp
  · rw [y_Lu_n (hn p 10 hp (by omega))]; exact h4 p hp
  · obtain ⟨q1, q2⟩ := h5 P i p hP hi
    exact ⟨q1, by rw [y_sl_Lu (hn p 7 q1 (by omega))]; exact q2⟩
  · obtain ⟨q1, q2⟩ := h6 P i p hP hi
    exact ⟨q1, by rw [y_sl_Lu (hn p 9 q1 (by omega))]; exact q2⟩
theorem y_DY.guard (h : y_DY z ar G C Gs f) {g co : Nat} {ch va op op' : Int32} {fo nx : Option Nat} (hg : G g = 9) (hf : f g = some (.inr (9, y_Gf co ch va fo nx op))) : y_DY z ar G C Gs (y_Lu f g (.inr (9, y_Gf co ch va fo nx op'))) := by
  obtain ⟨h1, h2, h3, h4, h5, h6⟩ := h
  have hn : ∀ b k, G b = k → k ≠ 9 → b ≠ g := fun b k hb hk e9 => by subst e9; omega
  refine ⟨fun p hp => ?_, fun p hp => ?_, fun p hp => ?_, fun p hp => ?_, fun P i p hP hi => ?_, fun P i p hP hi => ?_⟩
  · rw [y_Lu_n (hn p 7 hp (by omega))]; exact h1 p hp
  · rw [y_Lu_n (hn p 8 hp (by omega))]; exact h2 p hp
  · by_cases e : p = g
    · subst e
      obtain ⟨co', ch', va', fo', nx', o', q1, q2⟩ := h3 p hp
      rw [hf] at q1
      simp only [y_Gf, Option.some.injEq, Sum.inr.injEq, Prod.mk.injEq, List.cons.injEq, Value.ref.injEq, Value.int.injEq, true_and, and_true] at q1
      obtain ⟨e1, e2, e3, e4, e5, e6⟩ := q1
      have e7 := y_rf_inj e4
      subst e1 e2 e7
      exact ⟨co, ch, va, fo, nx, op', y_Lu_s, q2⟩
    · rw [y_Lu_n e]; exact h3 p hp
  · rw [y_Lu_n (hn p 10 hp (by omega))]; exact h4 p hp
  · obtain ⟨q1, q2⟩ := h5 P i p hP hi
    exact ⟨q1, by rw [y_sl_Lu (hn p 7 q1 (by omega))]; exact q2⟩
  · obtain ⟨q1, q2⟩ := h6 P i p hP hi
    refine ⟨q1, ?_⟩
    by_cases e : p = g
    · subst e
      rw [y_sl_at hf] at q2
      rw [y_sl_at y_Lu_s]
      exact q2
    · rw [y_sl_Lu e]; exact q2
end YD
/-- a list of tasks: n of them, in a row of cap places -/
def y_LS (z : Nat → Nat) (ar : Nat → ClassId) (G : Nat → Nat) (f : Nat → Option va_E) (o : Option Nat) (n cap : Nat) : Prop := (o = some (z 0) ∧ n = 0 ∧ cap = 0) ∨ ∃ (a : Nat) (g : Nat → Option Nat), o = some a ∧ f a = some (.inl (ar 5, cap, .inr (.inr (.inr (.inr g))))) ∧ n ≤ cap ∧ 10 ≤ cap ∧ a ≠ z 0 ∧ ∀ j, j < n → ∃ t, g j = some t ∧ G t = 8
def y_MI (z : Nat → Nat) (ar : Nat → ClassId) (G : Nat → Nat) (C Gs : Nat → List Nat) (I : Nat → Int32) (O : Nat → Option Nat) (f : Nat → Option va_E) (n : Nat × Nat × Nat × Nat) : Prop :=
  y_DY z ar G C Gs f ∧ (I 12 = Int32.ofNat n.1 ∧ y_LS z ar G f (O 1) n.1 n.2.2.1) ∧ (I 14 = Int32.ofNat n.2.1 ∧ y_LS z ar G f (O 2) n.2.1 n.2.2.2) ∧ (∀ a, O 1 = some a → O 2 = some a → a = z 0) ∧ (n.2.2.1 ≤ 100000000 ∧ n.2.2.2 ≤ 100000000) ∧
  (∀ c, c < 6 → y_o G 8 (O (3 + 3 * c)) ∧ y_o G 8 (O (4 + 3 * c)) ∧ (O (4 + 3 * c) ≠ none → y_o G 7 (O (5 + 3 * c)))) ∧ (∃ g : Nat, g ≤ 8 ∧ I 10 = Int32.ofNat g) ∧ ∃ b : Nat, b ≤ 8 ∧ I 11 = Int32.ofNat b
