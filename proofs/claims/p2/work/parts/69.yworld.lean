-- ===== 69.yworld: the class's world: twenty fixed cells as functions, and a list of the others =====
def y_ci (i : Nat) : Nat := [5, 3, 100, 100, 2, 100, 100, 4, 100, 4, 100, 0, 0, 100, 1, 1, 1, 1, 1, 1].getD i 100
/-- what the fields of a fixed object hold: (0, i) the fixed cell i, (1, j) the int j, (2, 0) the time, (3, j) a reference or null -/
def y_d (i : Nat) : List (Nat × Nat) := [[(0, 1), (0, 4), (1, 0)], [(0, 2), (0, 3), (1, 1), (1, 2), (1, 3), (1, 4), (1, 5), (1, 6), (3, 0)], [], [], [(0, 5), (0, 6), (0, 7), (0, 9), (0, 11), (0, 12), (0, 13), (1, 7), (1, 8), (1, 9), (2, 0)], [], [], [(0, 8), (1, 10)], [], [(0, 10), (1, 11)], [], [(3, 1), (1, 12), (1, 13)], [(3, 2), (1, 14), (1, 15)], [], [(3, 3), (3, 4), (1, 16), (3, 5)], [(3, 6), (3, 7), (1, 17), (3, 8)], [(3, 9), (3, 10), (1, 18), (3, 11)], [(3, 12), (3, 13), (1, 19), (3, 14)], [(3, 15), (3, 16), (1, 20), (3, 17)], [(3, 18), (3, 19), (1, 21), (3, 20)]].getD i []
def y_n (i : Nat) : Nat := [0, 0, 72, 72, 0, 6, 6, 0, 8, 0, 8, 0, 0, 72].getD i 0
def y_v (ad : Nat → Nat) (I : Nat → Int32) (T : Int64) (O : Nat → Option Nat) (d : Nat × Nat) : Value := if d.1 = 0 then .ref (ad d.2) else if d.1 = 1 then .int (I d.2) else if d.1 = 2 then .long T else va_rf (O d.2)
def y_ch (ad : Nat → Nat) : Nat → Option Nat := fun j => if j < 6 then some (ad (14 + j)) else none
def y_E (ad : Nat → Nat) (ar : Nat → ClassId) (I : Nat → Int32) (T : Int64) (A : Nat → Nat → Int32) (O : Nat → Option Nat) (i : Nat) : va_E := if y_ci i = 100 then (if i = 6 then .inl (ar 4, 6, .inr (.inr (.inr (.inr (y_ch ad))))) else .inl (ar (if i = 2 then 1 else 0), y_n i, .inl (A i))) else .inr (y_ci i, (y_d i).map (y_v ad I T O))
def y_W (ad : Nat → Nat) (ar : Nat → ClassId) (I : Nat → Int32) (T : Int64) (A : Nat → Nat → Int32) (O : Nat → Option Nat) (pl : va_W) : va_W := (List.range 20).map (fun i => (ad i, y_E ad ar I T A O i)) ++ pl
/-- another value at one place -/
def y_up (O : Nat → Option Nat) (k : Nat) (x : Option Nat) : Nat → Option Nat := fun j => if j = k then x else O j
theorem y_no0 : ((List.range 20).all fun i => (y_d i).all fun d => decide (d.1 ≤ 3) && (decide (d.1 = 2 → d.2 = 0)) && (List.range 20).all fun i' => i' == i || d.1 == 0 || !(y_d i').contains d) = true := by decide +kernel
theorem y_no1 {i : Nat} (hi : i < 20) {d : Nat × Nat} (hd : d ∈ y_d i) : (d.1 ≤ 3 ∧ (d.1 = 2 → d.2 = 0)) ∧ ∀ i', i' < 20 → i' ≠ i → d.1 ≠ 0 → d ∉ y_d i' := by
  have h1 := List.all_eq_true.mp (List.all_eq_true.mp y_no0 i (List.mem_range.mpr hi)) d hd
  simp only [Bool.and_eq_true, decide_eq_true_eq] at h1
  refine ⟨h1.1, fun i' hi' hne h0 hm => ?_⟩
  have h2 := List.all_eq_true.mp h1.2 i' (List.mem_range.mpr hi')
  simp [hne, h0] at h2
  exact h2 hm
theorem y_nd : ∀ i, i < 20 → (y_d i).Nodup := by decide +kernel
section YB
variable {ad : Nat → Nat} {ar : Nat → ClassId} {I I' : Nat → Int32} {T T' : Int64} {A A' : Nat → Nat → Int32} {O O' : Nat → Option Nat} {pl pl' : va_W} {i j k : Nat} {x : Int32}
theorem y_W_at (hi : i < 20) : (y_W ad ar I T A O pl)[i]? = some (ad i, y_E ad ar I T A O i) := by
  unfold y_W
  rw [List.getElem?_append_left (by simp; exact hi)]
  simp [hi]
theorem y_W_pl : (y_W ad ar I T A O pl)[20 + k]? = pl[k]? := by
  unfold y_W
  rw [List.getElem?_append_right (by simp)]
  simp
theorem y_W_set (hi : i < 20) {e : va_E} (he : y_E ad ar I' T' A' O' i = e) (hoth : ∀ j, j < 20 → j ≠ i → y_E ad ar I' T' A' O' j = y_E ad ar I T A O j) : (y_W ad ar I T A O pl).set i (ad i, e) = y_W ad ar I' T' A' O' pl := by
  unfold y_W
  rw [List.set_append_left _ _ (by simp; exact hi)]
  congr 1
  apply List.ext_getElem?
  intro q
  by_cases e1 : i = q
  · subst e1
    rw [List.getElem?_set_self (by simp; exact hi)]
    simp [hi, he]
  · rw [List.getElem?_set_ne e1]
    by_cases hq : q < 20
    · simp [hq, hoth q hq (fun h => e1 h.symm)]
    · simp [hq]
theorem y_W_setp {q : Nat × va_E} : (y_W ad ar I T A O pl).set (20 + k) q = y_W ad ar I T A O (pl.set k q) := by
  unfold y_W
  rw [List.set_append_right _ _ (by simp)]
  simp
theorem y_W_app {q : Nat × va_E} : y_W ad ar I T A O pl ++ [q] = y_W ad ar I T A O (pl ++ [q]) := by
  unfold y_W
  rw [List.append_assoc]
theorem y_map_eq {l : List (Nat × Nat)} {f g : Nat × Nat → Value} (h : ∀ d ∈ l, f d = g d) : l.map f = l.map g := List.map_congr_left h
theorem y_map_set {l : List (Nat × Nat)} (hn : l.Nodup) {f g : Nat × Nat → Value} {d : Nat × Nat} (hk : l[k]? = some d) (h : ∀ d' ∈ l, d' ≠ d → g d' = f d') : l.map g = (l.map f).set k (g d) := by
  apply List.ext_getElem?
  intro q
  have hl := (List.getElem?_eq_some_iff.mp hk).1
  by_cases e1 : k = q
  · subst e1
    rw [List.getElem?_set_self (by rw [List.length_map]; exact hl), List.getElem?_map, hk]
    rfl
  · rw [List.getElem?_set_ne e1, List.getElem?_map, List.getElem?_map]
    cases hq : l[q]? with
    | none => rfl
    | some d' =>
      have hne : d' ≠ d := fun h9 => by
        subst h9
        exact e1 ((List.getElem?_inj hl hn).mp (by rw [hk, hq]))
      show some (g d') = some (f d')
      rw [h d' (List.mem_of_getElem? hq) hne]
theorem y_ob {d : Nat × Nat} (hi : i < 20) (hk : (y_d i)[k]? = some d) : y_ci i ≠ 100 := by
  have h : ∀ i, i < 20 → y_ci i = 100 → y_d i = [] := by decide +kernel
  intro h9
  rw [h i hi h9] at hk
  exact nomatch hk
theorem y_W_put {d : Nat × Nat} (hi : i < 20) (hk : (y_d i)[k]? = some d) (h0 : d.1 ≠ 0) (hv : ∀ d' : Nat × Nat, (d'.1 ≤ 3 ∧ (d'.1 = 2 → d'.2 = 0)) → d' ≠ d → y_v ad I' T' O' d' = y_v ad I T O d') : (y_W ad ar I T A O pl).set i (ad i, .inr (y_ci i, ((y_d i).map (y_v ad I T O)).set k (y_v ad I' T' O' d))) = y_W ad ar I' T' A O' pl := by
  have hob := y_ob hi hk
  have hm := List.mem_of_getElem? hk
  refine y_W_set hi ?_ (fun q hq hne => ?_)
  · unfold y_E
    rw [if_neg hob, y_map_set (y_nd i hi) hk (fun d' hm' hd => hv d' (y_no1 hi hm').1 hd)]
  · unfold y_E
    by_cases e : y_ci q = 100
    · rw [if_pos e, if_pos e]
    · rw [if_neg e, if_neg e, y_map_eq (fun d' hd' => hv d' (y_no1 hq hd').1 (fun h9 => (y_no1 hi hm).2 q hq hne h0 (h9 ▸ hd')))]
theorem y_W_puti (hi : i < 20) (hk : (y_d i)[k]? = some (1, j)) : (y_W ad ar I T A O pl).set i (ad i, .inr (y_ci i, ((y_d i).map (y_v ad I T O)).set k (.int x))) = y_W ad ar (upd I j x) T A O pl := by
  have h := y_W_put (ad := ad) (ar := ar) (I := I) (I' := upd I j x) (T := T) (T' := T) (O := O) (O' := O) (A := A) (pl := pl) hi hk (by simp) (fun d' h3 hd => by
    unfold y_v
    by_cases e : d'.1 = 1
    · have : d'.2 ≠ j := fun h9 => hd (by cases d'; simp_all)
      simp [e, upd, this]
    · simp [e])
  rw [show y_v ad (upd I j x) T O (1, j) = .int x by simp [y_v, upd]] at h
  exact h
theorem y_W_putt {t : Int64} (hi : i < 20) (hk : (y_d i)[k]? = some (2, 0)) : (y_W ad ar I T A O pl).set i (ad i, .inr (y_ci i, ((y_d i).map (y_v ad I T O)).set k (.long t))) = y_W ad ar I t A O pl := by
  have h := y_W_put (ad := ad) (ar := ar) (I := I) (I' := I) (T := T) (T' := t) (O := O) (O' := O) (A := A) (pl := pl) hi hk (by simp) (fun d' h3 hd => by
    unfold y_v
    by_cases e : d'.1 = 2
    · exact absurd (by have := h3.2 e; cases d'; simp_all) hd
    · simp [e])
  rw [show y_v ad I t O (2, 0) = .long t by simp [y_v]] at h
  exact h
theorem y_W_puto {o : Option Nat} (hi : i < 20) (hk : (y_d i)[k]? = some (3, j)) : (y_W ad ar I T A O pl).set i (ad i, .inr (y_ci i, ((y_d i).map (y_v ad I T O)).set k (va_rf o))) = y_W ad ar I T A (y_up O j o) pl := by
  have h := y_W_put (ad := ad) (ar := ar) (I := I) (I' := I) (T := T) (T' := T) (O := O) (O' := y_up O j o) (A := A) (pl := pl) hi hk (by simp) (fun d' h3 hd => by
    unfold y_v
    by_cases e0 : d'.1 = 0
    · simp [e0]
    · by_cases e1 : d'.1 = 1
      · simp [e1]
      · by_cases e2 : d'.1 = 2
        · simp [e2]
        · have e3 : d'.1 = 3 := by omega
          have : d'.2 ≠ j := fun h9 => hd (by cases d'; simp_all)
          simp [e0, e1, e2, y_up, this])
  rw [show y_v ad I T (y_up O j o) (3, j) = va_rf o by simp [y_v, y_up]] at h
  exact h
end YB
