-- ===== 70.yrows: rows over the class's world, by program =====
/-- what lies at an address of the list -/
def y_L (pl : va_W) (a : Nat) : Option va_E := (pl.find? (fun q => q.1 == a)).map (·.2)
def y_Lu (f : Nat → Option va_E) (a : Nat) (e : va_E) : Nat → Option va_E := fun b => if b = a then some e else f b
theorem y_Lu_s {f : Nat → Option va_E} {a : Nat} {e : va_E} : y_Lu f a e a = some e := if_pos rfl
theorem y_Lu_n {f : Nat → Option va_E} {a b : Nat} {e : va_E} (h : b ≠ a) : y_Lu f a e b = f b := if_neg h
theorem y_L_at {pl : va_W} {a : Nat} {e : va_E} (h : y_L pl a = some e) : ∃ k : Nat, pl[k]? = some (a, e) := by
  unfold y_L at h
  cases hf : pl.find? (fun q => q.1 == a) with
  | none => rw [hf] at h; cases h
  | some q =>
    rw [hf] at h
    cases h
    have h1 := List.find?_some hf
    have h2 := List.mem_of_find?_eq_some hf
    obtain ⟨k, hk⟩ := List.mem_iff_getElem?.mp h2
    refine ⟨k, ?_⟩
    rw [hk]
    simp at h1
    cases q
    simp_all
def y_ap (pl : va_W) : Prop := ∀ (i j : Nat) (p q : Nat × va_E), pl[i]? = some p → pl[j]? = some q → p.1 = q.1 → i = j
theorem y_L_of {pl : va_W} (hD : y_ap pl) {k a : Nat} {e : va_E} (h : pl[k]? = some (a, e)) : y_L pl a = some e := by
  cases hf : y_L pl a with
  | none =>
    exfalso
    unfold y_L at hf
    simp at hf
    exact hf a e (List.mem_of_getElem? h) rfl
  | some e' =>
    obtain ⟨k', hk'⟩ := y_L_at hf
    have := hD k' k _ _ hk' h rfl
    subst this
    rw [h] at hk'
    cases hk'
    rfl
theorem y_L_none {pl : va_W} {a : Nat} (h : ∀ (k : Nat) (q : Nat × va_E), pl[k]? = some q → q.1 ≠ a) : y_L pl a = none := by
  cases hf : y_L pl a with
  | none => rfl
  | some e => obtain ⟨k, hk⟩ := y_L_at hf; exact absurd rfl (h k _ hk)
theorem y_ap_set {pl : va_W} (hD : y_ap pl) {k a : Nat} {e0 e : va_E} (h : pl[k]? = some (a, e0)) : y_ap (pl.set k (a, e)) := by
  have key : ∀ (i : Nat) (q : Nat × va_E), (pl.set k (a, e))[i]? = some q → ∃ q' : Nat × va_E, pl[i]? = some q' ∧ q'.1 = q.1 := fun i q hi => by
    by_cases e1 : k = i
    · subst e1
      rw [List.getElem?_set_self (List.getElem?_eq_some_iff.mp h).1] at hi
      cases hi
      exact ⟨_, h, rfl⟩
    · rw [List.getElem?_set_ne e1] at hi
      exact ⟨q, hi, rfl⟩
  intro i j p q hi hj hpq
  obtain ⟨p', h1, h2⟩ := key i p hi
  obtain ⟨q', h3, h4⟩ := key j q hj
  exact hD i j p' q' h1 h3 (by rw [h2, h4]; exact hpq)
theorem y_L_set {pl : va_W} (hD : y_ap pl) {k a : Nat} {e0 e : va_E} (h : pl[k]? = some (a, e0)) : y_L (pl.set k (a, e)) = y_Lu (y_L pl) a e := by
  funext b
  have hl := (List.getElem?_eq_some_iff.mp h).1
  by_cases hb : b = a
  · subst hb
    rw [y_Lu_s]
    exact y_L_of (y_ap_set hD h) (List.getElem?_set_self hl)
  · rw [y_Lu_n hb]
    cases hf : y_L pl b with
    | none =>
      refine y_L_none (fun i q hi hq => ?_)
      by_cases e1 : k = i
      · subst e1
        rw [List.getElem?_set_self hl] at hi
        cases hi
        exact hb hq.symm
      · rw [List.getElem?_set_ne e1] at hi
        have := y_L_of hD (k := i) (a := q.1) (e := q.2) hi
        rw [hq, hf] at this
        cases this
    | some e' =>
      obtain ⟨i, hi⟩ := y_L_at hf
      have hne : k ≠ i := fun h9 => by
        subst h9
        rw [h] at hi
        cases hi
        exact hb rfl
      exact y_L_of (y_ap_set hD h) (k := i) (by rw [List.getElem?_set_ne hne]; exact hi)
theorem y_L_app {pl : va_W} {a : Nat} {e : va_E} (hD : y_ap (pl ++ [(a, e)])) : y_L (pl ++ [(a, e)]) = y_Lu (y_L pl) a e := by
  have hlast : (pl ++ [(a, e)])[pl.length]? = some (a, e) := by simp
  funext b
  by_cases hb : b = a
  · subst hb
    rw [y_Lu_s]
    exact y_L_of hD hlast
  · rw [y_Lu_n hb]
    cases hf : y_L pl b with
    | none =>
      refine y_L_none (fun i q hi hq => ?_)
      rcases Nat.lt_or_ge i pl.length with h1 | h1
      · rw [List.getElem?_append_left h1] at hi
        have h2 : y_ap pl := fun i j p q h3 h4 h5 => hD i j p q (by rw [List.getElem?_append_left (List.getElem?_eq_some_iff.mp h3).1]; exact h3) (by rw [List.getElem?_append_left (List.getElem?_eq_some_iff.mp h4).1]; exact h4) h5
        have := y_L_of h2 (k := i) (a := q.1) (e := q.2) hi
        rw [hq, hf] at this
        cases this
      · have h2 : i = pl.length := by
          have := (List.getElem?_eq_some_iff.mp hi).1
          simp at this
          omega
        subst h2
        rw [hlast] at hi
        cases hi
        exact hb hq.symm
    | some e' =>
      obtain ⟨i, hi⟩ := y_L_at hf
      exact y_L_of hD (k := i) (by rw [List.getElem?_append_left (List.getElem?_eq_some_iff.mp hi).1]; exact hi)
section YC
variable {ad : Nat → Nat} {ar : Nat → ClassId} {I I' : Nat → Int32} {T T' : Int64} {A A' : Nat → Nat → Int32} {O O' : Nat → Option Nat} {pl pl' : va_W} {B : Nat → Prop} {H H0 : Heap} {locs : List Loc}
theorem y_D_ap (hD : va_D B (y_W ad ar I T A O pl)) : y_ap pl := fun i j p q hi hj e => by
  have := hD.1 (20 + i) (20 + j) p q (by rw [y_W_pl]; exact hi) (by rw [y_W_pl]; exact hj) e
  omega
theorem y_at_key {k : Nat} {q : Nat × va_E} (hk : (y_W ad ar I' T' A' O' pl)[k]? = some q) : ∃ q' : Nat × va_E, (y_W ad ar I T A O pl)[k]? = some q' ∧ q'.1 = q.1 := by
  rcases Nat.lt_or_ge k 20 with h | h
  · rw [y_W_at h] at hk
    cases hk
    exact ⟨_, y_W_at h, rfl⟩
  · rw [show k = 20 + (k - 20) by omega, y_W_pl] at hk
    exact ⟨q, by rw [show k = 20 + (k - 20) by omega, y_W_pl]; exact hk, rfl⟩
theorem y_D (hD : va_D B (y_W ad ar I T A O pl)) : va_D B (y_W ad ar I' T' A' O' pl) := by
  refine ⟨fun i j p q hi hj e => ?_, fun k q hk => ?_⟩
  · obtain ⟨p', h1, e1⟩ := y_at_key (I := I) (T := T) (A := A) (O := O) hi
    obtain ⟨q', h2, e2⟩ := y_at_key (I := I) (T := T) (A := A) (O := O) hj
    exact hD.1 i j p' q' h1 h2 (by rw [e1, e2]; exact e)
  · obtain ⟨q', h2, e2⟩ := y_at_key (I := I) (T := T) (A := A) (O := O) hk
    rw [← e2]; exact hD.2 k q' h2
theorem y_free (hD : va_D B (y_W ad ar I T A O pl)) (hS : va_S B H0 H locs) (hA : ∀ q, H0.size ≤ q → B q) : ∀ q, va_A (y_W ad ar I T A O pl) H.size q → B q := fun q h9 => by
  rcases h9 with ⟨k, e, hk⟩ | h9
  · exact hD.2 k _ hk
  · exact hA q (Nat.le_trans hS.1 h9)
theorem y_W_ob {i : Nat} (hi : i < 20) (hc : y_ci i ≠ 100) : (y_W ad ar I T A O pl)[i]? = some (ad i, .inr (y_ci i, (y_d i).map (y_v ad I T O))) := by
  rw [y_W_at hi]; unfold y_E; rw [if_neg hc]
theorem y_W_ar {i : Nat} (hi : i < 20) (hc : y_ci i = 100) (h6 : i ≠ 6) : (y_W ad ar I T A O pl)[i]? = some (ad i, .inl (ar (if i = 2 then 1 else 0), y_n i, .inl (A i))) := by
  rw [y_W_at hi]; unfold y_E; rw [if_pos hc, if_neg h6]
theorem y_W_ars {i : Nat} {f : Nat → Int32} (hi : i < 20) (hc : y_ci i = 100) (h6 : i ≠ 6) : (y_W ad ar I T A O pl).set i (ad i, .inl (ar (if i = 2 then 1 else 0), y_n i, .inl f)) = y_W ad ar I T (m_up A i f) O pl := by
  refine y_W_set hi ?_ (fun j hj hne => ?_)
  · unfold y_E; rw [if_pos hc, if_neg h6]; simp [m_up]
  · unfold y_E
    by_cases e : y_ci j = 100
    · rw [if_pos e, if_pos e]
      by_cases e6 : j = 6
      · rw [if_pos e6, if_pos e6]
      · rw [if_neg e6, if_neg e6]; simp [m_up, hne]
    · rw [if_neg e, if_neg e]
theorem y_map_at {i k : Nat} {d : Nat × Nat} {v : Value} (hk : (y_d i)[k]? = some d) (hv : y_v ad I T O d = v) : ((y_d i).map (y_v ad I T O))[k]? = some v := by
  rw [List.getElem?_map, hk, ← hv]; rfl
theorem y_map_len {i : Nat} : ((y_d i).map (y_v ad I T O)).length = (y_d i).length := List.length_map _
theorem y_lt {i k : Nat} {d : Nat × Nat} (hk : (y_d i)[k]? = some d) : k < ((y_d i).map (y_v ad I T O)).length := by rw [y_map_len]; exact (List.getElem?_eq_some_iff.mp hk).1
end YC
section YR
variable {p : Program} {l : Launch} {e : Env} {R : Room} {s : State} {m : MethodId} {args : Array Value} {below : List Frame} {meth : Method} {c : Code} {H H0 : Heap} {locs : List Loc} {cells slots : Nat} {Q : State → Prop}
variable {cc : ByteArray} {pc : Nat} {ls : Array Slot} {rest : List Value} {dC : Nat → ClassId} {dI : Nat → Nat → Nat} {B : Nat → Prop}
variable {ad : Nat → Nat} {ar : Nat → ClassId} {I : Nat → Int32} {T : Int64} {A : Nat → Nat → Int32} {O : Nat → Option Nat} {pl : va_W}
theorem k_g (hx : p.tables.exec = Jvm.exec) (hb : c.code = cc) (hts : ∀ w ∈ x_T, w.before args s = true) {own ref C : String} {F : u_T} {N index : Nat} (hin : ∀ w ∈ u_ws C F N, w ∈ x_T) (hown : s.vm.findClass own = some m.cls) (hK : va_K (dC, dI) y_cl (y_tys ar) s) (hP : va_P (dC, dI) y_cl (y_W ad ar I T A O pl) H) (i k : Nat) (hi : i < 20) (hc : y_ci i ≠ 100) (hcl : y_cl[y_ci i]? = some (C, F, N)) (hk : k < N) {d : Nat × Nat} (hd : (y_d i)[k]? = some d) (hlink : (Cond.fieldLink own index ref (F k).2.1 (F k).2.2.1).before args s = true) (hsame : ∀ x, s.fieldFound? (F k).1 (F k).2.1 (F k).2.2.1 = some x → s.fieldFound? ref (F k).2.1 (F k).2.2.1 = some x) {v : Value} (hv : y_v ad I T O d = v) (hdg : decode cc pc = .ok (.getfield index, 3))
    (kk : W p l e R s m args below meth c H locs cells slots Q (F0 m (pc + 3) ls (v :: rest))) : W p l e R s m args below meth c H locs cells slots Q (F0 m pc ls (.ref (ad i) :: rest)) :=
  va_get (D := (dC, dI)) hx hb hts hin hown hK hP i (y_W_ob hi hc) hcl k hk hlink hsame (y_map_at hd hv) hdg kk
theorem k_pi (hx : p.tables.exec = Jvm.exec) (hb : c.code = cc) (hts : ∀ w ∈ x_T, w.before args s = true) {own ref C : String} {F : u_T} {N index : Nat} (hin : ∀ w ∈ u_ws C F N, w ∈ x_T) (hown : s.vm.findClass own = some m.cls) (ty0 : Nat → FieldType) (hty : ∀ k, k < N → parseFieldDescriptor (F k).2.2.1 = some (ty0 k)) (hnm : ∀ a, a < N → ∀ b, b < N → a ≠ b → (F a).2.1 ≠ (F b).2.1) (hK : va_K (dC, dI) y_cl (y_tys ar) s) (hP : va_P (dC, dI) y_cl (y_W ad ar I T A O pl) H) (hD : va_D B (y_W ad ar I T A O pl)) (hS : va_S B H0 H locs) (i k : Nat) (hi : i < 20) (hc : y_ci i ≠ 100) (hcl : y_cl[y_ci i]? = some (C, F, N)) (hk : k < N) {j : Nat} {x : Int32} (hd : (y_d i)[k]? = some (1, j)) (hlink : (Cond.fieldLink own index ref (F k).2.1 (F k).2.2.1).before args s = true) (hsame : ∀ x, s.fieldFound? (F k).1 (F k).2.1 (F k).2.2.1 = some x → s.fieldFound? ref (F k).2.1 (F k).2.2.1 = some x) (hfin : (F k).2.2.2 = false) (hpd : parseFieldDescriptor (F k).2.2.1 = some .int) (hdg : decode cc pc = .ok (.putfield index, 3))
    (kk : ∀ (H1 : Heap) (locs1 : List Loc), va_P (dC, dI) y_cl (y_W ad ar (upd I j x) T A O pl) H1 → va_D B (y_W ad ar (upd I j x) T A O pl) → va_S B H0 H1 locs1 → W p l e R s m args below meth c H1 locs1 cells slots Q (F0 m (pc + 3) ls rest)) : W p l e R s m args below meth c H locs cells slots Q (F0 m pc ls (.int x :: .ref (ad i) :: rest)) :=
  va_put (D := (dC, dI)) (v := .int x) hx hb hts hin ty0 hty hnm hown hK hP hD hS i (y_W_ob hi hc) hcl k hk hlink hsame hfin hpd rfl rfl (y_lt hd) hdg (fun H1 locs1 hP1 _ hS1 => kk H1 locs1 (by rw [y_W_puti hi hd] at hP1; exact hP1) (y_D hD) hS1)
theorem k_pt (hx : p.tables.exec = Jvm.exec) (hb : c.code = cc) (hts : ∀ w ∈ x_T, w.before args s = true) {own ref C : String} {F : u_T} {N index : Nat} (hin : ∀ w ∈ u_ws C F N, w ∈ x_T) (hown : s.vm.findClass own = some m.cls) (ty0 : Nat → FieldType) (hty : ∀ k, k < N → parseFieldDescriptor (F k).2.2.1 = some (ty0 k)) (hnm : ∀ a, a < N → ∀ b, b < N → a ≠ b → (F a).2.1 ≠ (F b).2.1) (hK : va_K (dC, dI) y_cl (y_tys ar) s) (hP : va_P (dC, dI) y_cl (y_W ad ar I T A O pl) H) (hD : va_D B (y_W ad ar I T A O pl)) (hS : va_S B H0 H locs) (i k : Nat) (hi : i < 20) (hc : y_ci i ≠ 100) (hcl : y_cl[y_ci i]? = some (C, F, N)) (hk : k < N) {x : Int64} (hd : (y_d i)[k]? = some (2, 0)) (hlink : (Cond.fieldLink own index ref (F k).2.1 (F k).2.2.1).before args s = true) (hsame : ∀ x, s.fieldFound? (F k).1 (F k).2.1 (F k).2.2.1 = some x → s.fieldFound? ref (F k).2.1 (F k).2.2.1 = some x) (hfin : (F k).2.2.2 = false) (hpd : parseFieldDescriptor (F k).2.2.1 = some .long) (hdg : decode cc pc = .ok (.putfield index, 3))
    (kk : ∀ (H1 : Heap) (locs1 : List Loc), va_P (dC, dI) y_cl (y_W ad ar I x A O pl) H1 → va_D B (y_W ad ar I x A O pl) → va_S B H0 H1 locs1 → W p l e R s m args below meth c H1 locs1 cells slots Q (F0 m (pc + 3) ls rest)) : W p l e R s m args below meth c H locs cells slots Q (F0 m pc ls (.long x :: .ref (ad i) :: rest)) :=
  va_put (D := (dC, dI)) (v := .long x) hx hb hts hin ty0 hty hnm hown hK hP hD hS i (y_W_ob hi hc) hcl k hk hlink hsame hfin hpd rfl rfl (y_lt hd) hdg (fun H1 locs1 hP1 _ hS1 => kk H1 locs1 (by rw [y_W_putt hi hd] at hP1; exact hP1) (y_D hD) hS1)
theorem k_po (hx : p.tables.exec = Jvm.exec) (hb : c.code = cc) (hts : ∀ w ∈ x_T, w.before args s = true) {own ref C : String} {F : u_T} {N index : Nat} (hin : ∀ w ∈ u_ws C F N, w ∈ x_T) (hown : s.vm.findClass own = some m.cls) (ty0 : Nat → FieldType) (hty : ∀ k, k < N → parseFieldDescriptor (F k).2.2.1 = some (ty0 k)) (hnm : ∀ a, a < N → ∀ b, b < N → a ≠ b → (F a).2.1 ≠ (F b).2.1) (hK : va_K (dC, dI) y_cl (y_tys ar) s) (hP : va_P (dC, dI) y_cl (y_W ad ar I T A O pl) H) (hD : va_D B (y_W ad ar I T A O pl)) (hS : va_S B H0 H locs) (i k : Nat) (hi : i < 20) (hc : y_ci i ≠ 100) (hcl : y_cl[y_ci i]? = some (C, F, N)) (hk : k < N) {j : Nat} {x : Option Nat} {ty : FieldType} (hd : (y_d i)[k]? = some (3, j)) (hlink : (Cond.fieldLink own index ref (F k).2.1 (F k).2.2.1).before args s = true) (hsame : ∀ x, s.fieldFound? (F k).1 (F k).2.1 (F k).2.2.1 = some x → s.fieldFound? ref (F k).2.1 (F k).2.2.1 = some x) (hfin : (F k).2.2.2 = false) (hpd : parseFieldDescriptor (F k).2.2.1 = some ty) (hn : narrow ty (va_rf x) = va_rf x) (hfit : fits ty (va_rf x) = true) (hdg : decode cc pc = .ok (.putfield index, 3))
    (kk : ∀ (H1 : Heap) (locs1 : List Loc), va_P (dC, dI) y_cl (y_W ad ar I T A (y_up O j x) pl) H1 → va_D B (y_W ad ar I T A (y_up O j x) pl) → va_S B H0 H1 locs1 → W p l e R s m args below meth c H1 locs1 cells slots Q (F0 m (pc + 3) ls rest)) : W p l e R s m args below meth c H locs cells slots Q (F0 m pc ls (va_rf x :: .ref (ad i) :: rest)) :=
  va_put (D := (dC, dI)) (v := va_rf x) hx hb hts hin ty0 hty hnm hown hK hP hD hS i (y_W_ob hi hc) hcl k hk hlink hsame hfin hpd hn hfit (y_lt hd) hdg (fun H1 locs1 hP1 _ hS1 => kk H1 locs1 (by rw [y_W_puto hi hd] at hP1; exact hP1) (y_D hD) hS1)
theorem d_g (hx : p.tables.exec = Jvm.exec) (hb : c.code = cc) (hts : ∀ w ∈ x_T, w.before args s = true) {own ref C : String} {F : u_T} {N index : Nat} (hin : ∀ w ∈ u_ws C F N, w ∈ x_T) (hown : s.vm.findClass own = some m.cls) (hK : va_K (dC, dI) y_cl (y_tys ar) s) (hP : va_P (dC, dI) y_cl (y_W ad ar I T A O pl) H) {a ci : Nat} {fs : List Value} (hf : y_L pl a = some (.inr (ci, fs))) (k : Nat) (hcl : y_cl[ci]? = some (C, F, N)) (hk : k < N) (hlink : (Cond.fieldLink own index ref (F k).2.1 (F k).2.2.1).before args s = true) (hsame : ∀ x, s.fieldFound? (F k).1 (F k).2.1 (F k).2.2.1 = some x → s.fieldFound? ref (F k).2.1 (F k).2.2.1 = some x) {v : Value} (hv : fs[k]? = some v) (hdg : decode cc pc = .ok (.getfield index, 3))
    (kk : W p l e R s m args below meth c H locs cells slots Q (F0 m (pc + 3) ls (v :: rest))) : W p l e R s m args below meth c H locs cells slots Q (F0 m pc ls (.ref a :: rest)) := by
  obtain ⟨q, hq⟩ := y_L_at hf
  exact va_get (D := (dC, dI)) hx hb hts hin hown hK hP (20 + q) (by rw [y_W_pl]; exact hq) hcl k hk hlink hsame hv hdg kk
theorem d_p (hx : p.tables.exec = Jvm.exec) (hb : c.code = cc) (hts : ∀ w ∈ x_T, w.before args s = true) {own ref C : String} {F : u_T} {N index : Nat} (hin : ∀ w ∈ u_ws C F N, w ∈ x_T) (hown : s.vm.findClass own = some m.cls) (ty0 : Nat → FieldType) (hty : ∀ k, k < N → parseFieldDescriptor (F k).2.2.1 = some (ty0 k)) (hnm : ∀ a, a < N → ∀ b, b < N → a ≠ b → (F a).2.1 ≠ (F b).2.1) (hK : va_K (dC, dI) y_cl (y_tys ar) s) (hP : va_P (dC, dI) y_cl (y_W ad ar I T A O pl) H) (hD : va_D B (y_W ad ar I T A O pl)) (hS : va_S B H0 H locs) {a ci : Nat} {fs : List Value} (hf : y_L pl a = some (.inr (ci, fs))) (k : Nat) (hcl : y_cl[ci]? = some (C, F, N)) (hk : k < N) (hlink : (Cond.fieldLink own index ref (F k).2.1 (F k).2.2.1).before args s = true) (hsame : ∀ x, s.fieldFound? (F k).1 (F k).2.1 (F k).2.2.1 = some x → s.fieldFound? ref (F k).2.1 (F k).2.2.1 = some x) (hfin : (F k).2.2.2 = false) {ty : FieldType} {v : Value} (hpd : parseFieldDescriptor (F k).2.2.1 = some ty) (hn : narrow ty v = v) (hfit : fits ty v = true) (hl : k < fs.length) (hdg : decode cc pc = .ok (.putfield index, 3))
    (kk : ∀ (pl1 : va_W) (H1 : Heap) (locs1 : List Loc), y_L pl1 = y_Lu (y_L pl) a (.inr (ci, fs.set k v)) → va_P (dC, dI) y_cl (y_W ad ar I T A O pl1) H1 → va_D B (y_W ad ar I T A O pl1) → va_S B H0 H1 locs1 → W p l e R s m args below meth c H1 locs1 cells slots Q (F0 m (pc + 3) ls rest)) : W p l e R s m args below meth c H locs cells slots Q (F0 m pc ls (v :: .ref a :: rest)) := by
  obtain ⟨q, hq⟩ := y_L_at hf
  exact va_put (D := (dC, dI)) hx hb hts hin ty0 hty hnm hown hK hP hD hS (20 + q) (by rw [y_W_pl]; exact hq) hcl k hk hlink hsame hfin hpd hn hfit hl hdg (fun H1 locs1 hP1 hD1 hS1 => kk (pl.set q (a, .inr (ci, fs.set k v))) H1 locs1 (y_L_set (y_D_ap hD) hq) (by rw [y_W_setp] at hP1; exact hP1) (by rw [y_W_setp] at hD1; exact hD1) hS1)
theorem k_gN (hx : p.tables.exec = Jvm.exec) (hb : c.code = cc) (hts : ∀ w ∈ x_T, w.before args s = true) {own ref C : String} {F : u_T} {N index : Nat} (hin : ∀ w ∈ u_ws C F N, w ∈ x_T) (hown : s.vm.findClass own = some m.cls) (hK : va_K (dC, dI) y_cl (y_tys ar) s) (hP : va_P (dC, dI) y_cl (y_W ad ar I T A O pl) H) (i k : Nat) (hi : i < 20) (hc : y_ci i ≠ 100) (hcl : y_cl[y_ci i]? = some (C, F, N)) (hk : k < N) {d : Nat × Nat} (hd : (y_d i)[k]? = some d) {host : String} (hlink : (Cond.fieldLinkNest own index ref (F k).2.1 (F k).2.2.1 host).before args s = true) (hsame : ∀ x, s.fieldFound? (F k).1 (F k).2.1 (F k).2.2.1 = some x → s.fieldFound? ref (F k).2.1 (F k).2.2.1 = some x) {v : Value} (hv : y_v ad I T O d = v) (hdg : decode cc pc = .ok (.getfield index, 3))
    (kk : W p l e R s m args below meth c H locs cells slots Q (F0 m (pc + 3) ls (v :: rest))) : W p l e R s m args below meth c H locs cells slots Q (F0 m pc ls (.ref (ad i) :: rest)) :=
  va_getN (D := (dC, dI)) hx hb hts hin hown hK hP i (y_W_ob hi hc) hcl k hk hlink hsame (y_map_at hd hv) hdg kk
theorem k_piN (hx : p.tables.exec = Jvm.exec) (hb : c.code = cc) (hts : ∀ w ∈ x_T, w.before args s = true) {own ref C : String} {F : u_T} {N index : Nat} (hin : ∀ w ∈ u_ws C F N, w ∈ x_T) (hown : s.vm.findClass own = some m.cls) (ty0 : Nat → FieldType) (hty : ∀ k, k < N → parseFieldDescriptor (F k).2.2.1 = some (ty0 k)) (hnm : ∀ a, a < N → ∀ b, b < N → a ≠ b → (F a).2.1 ≠ (F b).2.1) (hK : va_K (dC, dI) y_cl (y_tys ar) s) (hP : va_P (dC, dI) y_cl (y_W ad ar I T A O pl) H) (hD : va_D B (y_W ad ar I T A O pl)) (hS : va_S B H0 H locs) (i k : Nat) (hi : i < 20) (hc : y_ci i ≠ 100) (hcl : y_cl[y_ci i]? = some (C, F, N)) (hk : k < N) {j : Nat} {x : Int32} (hd : (y_d i)[k]? = some (1, j)) {host : String} (hlink : (Cond.fieldLinkNest own index ref (F k).2.1 (F k).2.2.1 host).before args s = true) (hsame : ∀ x, s.fieldFound? (F k).1 (F k).2.1 (F k).2.2.1 = some x → s.fieldFound? ref (F k).2.1 (F k).2.2.1 = some x) (hfin : (F k).2.2.2 = false) (hpd : parseFieldDescriptor (F k).2.2.1 = some .int) (hdg : decode cc pc = .ok (.putfield index, 3))
    (kk : ∀ (H1 : Heap) (locs1 : List Loc), va_P (dC, dI) y_cl (y_W ad ar (upd I j x) T A O pl) H1 → va_D B (y_W ad ar (upd I j x) T A O pl) → va_S B H0 H1 locs1 → W p l e R s m args below meth c H1 locs1 cells slots Q (F0 m (pc + 3) ls rest)) : W p l e R s m args below meth c H locs cells slots Q (F0 m pc ls (.int x :: .ref (ad i) :: rest)) :=
  va_putN (D := (dC, dI)) (v := .int x) hx hb hts hin ty0 hty hnm hown hK hP hD hS i (y_W_ob hi hc) hcl k hk hlink hsame hfin hpd rfl rfl (y_lt hd) hdg (fun H1 locs1 hP1 _ hS1 => kk H1 locs1 (by rw [y_W_puti hi hd] at hP1; exact hP1) (y_D hD) hS1)
theorem k_ptN (hx : p.tables.exec = Jvm.exec) (hb : c.code = cc) (hts : ∀ w ∈ x_T, w.before args s = true) {own ref C : String} {F : u_T} {N index : Nat} (hin : ∀ w ∈ u_ws C F N, w ∈ x_T) (hown : s.vm.findClass own = some m.cls) (ty0 : Nat → FieldType) (hty : ∀ k, k < N → parseFieldDescriptor (F k).2.2.1 = some (ty0 k)) (hnm : ∀ a, a < N → ∀ b, b < N → a ≠ b → (F a).2.1 ≠ (F b).2.1) (hK : va_K (dC, dI) y_cl (y_tys ar) s) (hP : va_P (dC, dI) y_cl (y_W ad ar I T A O pl) H) (hD : va_D B (y_W ad ar I T A O pl)) (hS : va_S B H0 H locs) (i k : Nat) (hi : i < 20) (hc : y_ci i ≠ 100) (hcl : y_cl[y_ci i]? = some (C, F, N)) (hk : k < N) {x : Int64} (hd : (y_d i)[k]? = some (2, 0)) {host : String} (hlink : (Cond.fieldLinkNest own index ref (F k).2.1 (F k).2.2.1 host).before args s = true) (hsame : ∀ x, s.fieldFound? (F k).1 (F k).2.1 (F k).2.2.1 = some x → s.fieldFound? ref (F k).2.1 (F k).2.2.1 = some x) (hfin : (F k).2.2.2 = false) (hpd : parseFieldDescriptor (F k).2.2.1 = some .long) (hdg : decode cc pc = .ok (.putfield index, 3))
    (kk : ∀ (H1 : Heap) (locs1 : List Loc), va_P (dC, dI) y_cl (y_W ad ar I x A O pl) H1 → va_D B (y_W ad ar I x A O pl) → va_S B H0 H1 locs1 → W p l e R s m args below meth c H1 locs1 cells slots Q (F0 m (pc + 3) ls rest)) : W p l e R s m args below meth c H locs cells slots Q (F0 m pc ls (.long x :: .ref (ad i) :: rest)) :=
  va_putN (D := (dC, dI)) (v := .long x) hx hb hts hin ty0 hty hnm hown hK hP hD hS i (y_W_ob hi hc) hcl k hk hlink hsame hfin hpd rfl rfl (y_lt hd) hdg (fun H1 locs1 hP1 _ hS1 => kk H1 locs1 (by rw [y_W_putt hi hd] at hP1; exact hP1) (y_D hD) hS1)
theorem k_poN (hx : p.tables.exec = Jvm.exec) (hb : c.code = cc) (hts : ∀ w ∈ x_T, w.before args s = true) {own ref C : String} {F : u_T} {N index : Nat} (hin : ∀ w ∈ u_ws C F N, w ∈ x_T) (hown : s.vm.findClass own = some m.cls) (ty0 : Nat → FieldType) (hty : ∀ k, k < N → parseFieldDescriptor (F k).2.2.1 = some (ty0 k)) (hnm : ∀ a, a < N → ∀ b, b < N → a ≠ b → (F a).2.1 ≠ (F b).2.1) (hK : va_K (dC, dI) y_cl (y_tys ar) s) (hP : va_P (dC, dI) y_cl (y_W ad ar I T A O pl) H) (hD : va_D B (y_W ad ar I T A O pl)) (hS : va_S B H0 H locs) (i k : Nat) (hi : i < 20) (hc : y_ci i ≠ 100) (hcl : y_cl[y_ci i]? = some (C, F, N)) (hk : k < N) {j : Nat} {x : Option Nat} {ty : FieldType} (hd : (y_d i)[k]? = some (3, j)) {host : String} (hlink : (Cond.fieldLinkNest own index ref (F k).2.1 (F k).2.2.1 host).before args s = true) (hsame : ∀ x, s.fieldFound? (F k).1 (F k).2.1 (F k).2.2.1 = some x → s.fieldFound? ref (F k).2.1 (F k).2.2.1 = some x) (hfin : (F k).2.2.2 = false) (hpd : parseFieldDescriptor (F k).2.2.1 = some ty) (hn : narrow ty (va_rf x) = va_rf x) (hfit : fits ty (va_rf x) = true) (hdg : decode cc pc = .ok (.putfield index, 3))
    (kk : ∀ (H1 : Heap) (locs1 : List Loc), va_P (dC, dI) y_cl (y_W ad ar I T A (y_up O j x) pl) H1 → va_D B (y_W ad ar I T A (y_up O j x) pl) → va_S B H0 H1 locs1 → W p l e R s m args below meth c H1 locs1 cells slots Q (F0 m (pc + 3) ls rest)) : W p l e R s m args below meth c H locs cells slots Q (F0 m pc ls (va_rf x :: .ref (ad i) :: rest)) :=
  va_putN (D := (dC, dI)) (v := va_rf x) hx hb hts hin ty0 hty hnm hown hK hP hD hS i (y_W_ob hi hc) hcl k hk hlink hsame hfin hpd hn hfit (y_lt hd) hdg (fun H1 locs1 hP1 _ hS1 => kk H1 locs1 (by rw [y_W_puto hi hd] at hP1; exact hP1) (y_D hD) hS1)
theorem d_gN (hx : p.tables.exec = Jvm.exec) (hb : c.code = cc) (hts : ∀ w ∈ x_T, w.before args s = true) {own ref C : String} {F : u_T} {N index : Nat} (hin : ∀ w ∈ u_ws C F N, w ∈ x_T) (hown : s.vm.findClass own = some m.cls) (hK : va_K (dC, dI) y_cl (y_tys ar) s) (hP : va_P (dC, dI) y_cl (y_W ad ar I T A O pl) H) {a ci : Nat} {fs : List Value} (hf : y_L pl a = some (.inr (ci, fs))) (k : Nat) (hcl : y_cl[ci]? = some (C, F, N)) (hk : k < N) {host : String} (hlink : (Cond.fieldLinkNest own index ref (F k).2.1 (F k).2.2.1 host).before args s = true) (hsame : ∀ x, s.fieldFound? (F k).1 (F k).2.1 (F k).2.2.1 = some x → s.fieldFound? ref (F k).2.1 (F k).2.2.1 = some x) {v : Value} (hv : fs[k]? = some v) (hdg : decode cc pc = .ok (.getfield index, 3))
    (kk : W p l e R s m args below meth c H locs cells slots Q (F0 m (pc + 3) ls (v :: rest))) : W p l e R s m args below meth c H locs cells slots Q (F0 m pc ls (.ref a :: rest)) := by
  obtain ⟨q, hq⟩ := y_L_at hf
  exact va_getN (D := (dC, dI)) hx hb hts hin hown hK hP (20 + q) (by rw [y_W_pl]; exact hq) hcl k hk hlink hsame hv hdg kk
theorem d_pN (hx : p.tables.exec = Jvm.exec) (hb : c.code = cc) (hts : ∀ w ∈ x_T, w.before args s = true) {own ref C : String} {F : u_T} {N index : Nat} (hin : ∀ w ∈ u_ws C F N, w ∈ x_T) (hown : s.vm.findClass own = some m.cls) (ty0 : Nat → FieldType) (hty : ∀ k, k < N → parseFieldDescriptor (F k).2.2.1 = some (ty0 k)) (hnm : ∀ a, a < N → ∀ b, b < N → a ≠ b → (F a).2.1 ≠ (F b).2.1) (hK : va_K (dC, dI) y_cl (y_tys ar) s) (hP : va_P (dC, dI) y_cl (y_W ad ar I T A O pl) H) (hD : va_D B (y_W ad ar I T A O pl)) (hS : va_S B H0 H locs) {a ci : Nat} {fs : List Value} (hf : y_L pl a = some (.inr (ci, fs))) (k : Nat) (hcl : y_cl[ci]? = some (C, F, N)) (hk : k < N) {host : String} (hlink : (Cond.fieldLinkNest own index ref (F k).2.1 (F k).2.2.1 host).before args s = true) (hsame : ∀ x, s.fieldFound? (F k).1 (F k).2.1 (F k).2.2.1 = some x → s.fieldFound? ref (F k).2.1 (F k).2.2.1 = some x) (hfin : (F k).2.2.2 = false) {ty : FieldType} {v : Value} (hpd : parseFieldDescriptor (F k).2.2.1 = some ty) (hn : narrow ty v = v) (hfit : fits ty v = true) (hl : k < fs.length) (hdg : decode cc pc = .ok (.putfield index, 3))
    (kk : ∀ (pl1 : va_W) (H1 : Heap) (locs1 : List Loc), y_L pl1 = y_Lu (y_L pl) a (.inr (ci, fs.set k v)) → va_P (dC, dI) y_cl (y_W ad ar I T A O pl1) H1 → va_D B (y_W ad ar I T A O pl1) → va_S B H0 H1 locs1 → W p l e R s m args below meth c H1 locs1 cells slots Q (F0 m (pc + 3) ls rest)) : W p l e R s m args below meth c H locs cells slots Q (F0 m pc ls (v :: .ref a :: rest)) := by
  obtain ⟨q, hq⟩ := y_L_at hf
  exact va_putN (D := (dC, dI)) hx hb hts hin ty0 hty hnm hown hK hP hD hS (20 + q) (by rw [y_W_pl]; exact hq) hcl k hk hlink hsame hfin hpd hn hfit hl hdg (fun H1 locs1 hP1 hD1 hS1 => kk (pl.set q (a, .inr (ci, fs.set k v))) H1 locs1 (y_L_set (y_D_ap hD) hq) (by rw [y_W_setp] at hP1; exact hP1) (by rw [y_W_setp] at hD1; exact hD1) hS1)
theorem k_ld (hx : p.tables.exec = Jvm.exec) (hb : c.code = cc) (hK : va_K (dC, dI) y_cl (y_tys ar) s) (hP : va_P (dC, dI) y_cl (y_W ad ar I T A O pl) H) (i : Nat) (hi : i < 20) (hc : y_ci i = 100) (h6 : i ≠ 6) (h2 : i ≠ 2) {j : Int32} (hin : vp_in j (y_n i)) (hdg : decode cc pc = .ok (.iaload, 1))
    (kk : W p l e R s m args below meth c H locs cells slots Q (F0 m (pc + 1) ls (.int (A i j.toNatClampNeg) :: rest))) : W p l e R s m args below meth c H locs cells slots Q (F0 m pc ls (.int j :: .ref (ad i) :: rest)) :=
  va_iald hx hb hK hP i 0 (cA := ar 0) (by rw [y_W_ar hi hc h6, if_neg h2]) rfl hin hdg kk
theorem k_cld (hx : p.tables.exec = Jvm.exec) (hb : c.code = cc) (hK : va_K (dC, dI) y_cl (y_tys ar) s) (hP : va_P (dC, dI) y_cl (y_W ad ar I T A O pl) H) {j : Int32} (hin : vp_in j 72) (hdg : decode cc pc = .ok (.caload, 1))
    (kk : W p l e R s m args below meth c H locs cells slots Q (F0 m (pc + 1) ls (.int (A 2 j.toNatClampNeg) :: rest))) : W p l e R s m args below meth c H locs cells slots Q (F0 m pc ls (.int j :: .ref (ad 2) :: rest)) :=
  va_cald hx hb hK hP 2 1 (cA := ar 1) (y_W_ar (i := 2) (by decide) (by decide) (by decide)) rfl hin hdg kk
theorem k_st (hx : p.tables.exec = Jvm.exec) (hb : c.code = cc) (hK : va_K (dC, dI) y_cl (y_tys ar) s) (hP : va_P (dC, dI) y_cl (y_W ad ar I T A O pl) H) (hD : va_D B (y_W ad ar I T A O pl)) (hS : va_S B H0 H locs) (i : Nat) (hi : i < 20) (hc : y_ci i = 100) (h6 : i ≠ 6) (h2 : i ≠ 2) {j x : Int32} (hin : vp_in j (y_n i)) (hdg : decode cc pc = .ok (.iastore, 1))
    (kk : ∀ (H1 : Heap) (locs1 : List Loc), va_P (dC, dI) y_cl (y_W ad ar I T (m_up A i (upd (A i) j.toNatClampNeg x)) O pl) H1 → va_D B (y_W ad ar I T (m_up A i (upd (A i) j.toNatClampNeg x)) O pl) → va_S B H0 H1 locs1 → W p l e R s m args below meth c H1 locs1 cells slots Q (F0 m (pc + 1) ls rest)) : W p l e R s m args below meth c H locs cells slots Q (F0 m pc ls (.int x :: .int j :: .ref (ad i) :: rest)) :=
  va_iast hx hb hK hP hD hS i 0 (cA := ar 0) (f := A i) (by rw [y_W_ar hi hc h6, if_neg h2]) rfl hin hdg (fun H1 locs1 hP1 _ hS1 => kk H1 locs1 (by have h9 := y_W_ars (ad := ad) (ar := ar) (I := I) (T := T) (A := A) (O := O) (pl := pl) (f := upd (A i) j.toNatClampNeg x) hi hc h6; rw [if_neg h2] at h9; rw [h9] at hP1; exact hP1) (y_D hD) hS1)
theorem k_cst (hx : p.tables.exec = Jvm.exec) (hb : c.code = cc) (hK : va_K (dC, dI) y_cl (y_tys ar) s) (hP : va_P (dC, dI) y_cl (y_W ad ar I T A O pl) H) (hD : va_D B (y_W ad ar I T A O pl)) (hS : va_S B H0 H locs) {j x : Int32} (hin : vp_in j 72) (hdg : decode cc pc = .ok (.castore, 1))
    (kk : ∀ (H1 : Heap) (locs1 : List Loc), va_P (dC, dI) y_cl (y_W ad ar I T (m_up A 2 (upd (A 2) j.toNatClampNeg (vp_nar .char x))) O pl) H1 → va_D B (y_W ad ar I T (m_up A 2 (upd (A 2) j.toNatClampNeg (vp_nar .char x))) O pl) → va_S B H0 H1 locs1 → W p l e R s m args below meth c H1 locs1 cells slots Q (F0 m (pc + 1) ls rest)) : W p l e R s m args below meth c H locs cells slots Q (F0 m pc ls (.int x :: .int j :: .ref (ad 2) :: rest)) :=
  va_cast hx hb hK hP hD hS 2 1 (cA := ar 1) (f := A 2) (y_W_ar (i := 2) (by decide) (by decide) (by decide)) rfl hin hdg (fun H1 locs1 hP1 _ hS1 => kk H1 locs1 (by have h9 := y_W_ars (ad := ad) (ar := ar) (I := I) (T := T) (A := A) (O := O) (pl := pl) (i := 2) (f := upd (A 2) j.toNatClampNeg (vp_nar .char x)) (by decide) (by decide) (by decide); exact h9 ▸ hP1) (y_D hD) hS1)
theorem k_chl (hx : p.tables.exec = Jvm.exec) (hb : c.code = cc) (hK : va_K (dC, dI) y_cl (y_tys ar) s) (hP : va_P (dC, dI) y_cl (y_W ad ar I T A O pl) H) {n : Nat} (hn : n < 6) (hdg : decode cc pc = .ok (.aaload, 1))
    (kk : W p l e R s m args below meth c H locs cells slots Q (F0 m (pc + 1) ls (.ref (ad (14 + n)) :: rest))) : W p l e R s m args below meth c H locs cells slots Q (F0 m pc ls (.int (Int32.ofNat n) :: .ref (ad 6) :: rest)) := by
  refine va_aldq hx hb hK hP 6 4 (cA := ar 4) (C := "ChannelMachine$Channel") (n := 6) (f := y_ch ad) (y_W_at (by decide)) rfl (i := Int32.ofNat n) (x_inN (by omega) (by decide)) hdg ?_
  rw [x_nat (a := n) (by omega), show y_ch ad n = some (ad (14 + n)) from if_pos hn]
  exact kk
end YR
