-- ===== 59.on: the reference's world with one array more; a writer's task goes on =====
section ON
variable {h : Nat} {ad : Nat → Nat} {ar : Nat → ClassId} {I I' : Nat → Int32} {T T' : Int64} {A A' : Nat → Nat → Int32} {U U' : Nat → Int64} {dC : Nat → ClassId} {dI : Nat → Nat → Nat} {H H1 : Heap} {B : Nat → Prop} {qo : Nat} {f : Nat → Int32}
def m_O (h : Nat) (ad : Nat → Nat) (ar : Nat → ClassId) (I : Nat → Int32) (T : Int64) (A : Nat → Nat → Int32) (U : Nat → Int64) (qo : Nat) (f : Nat → Int32) : va_W := m_W h ad ar I T A U ++ [(qo, .inl (ar 0, 4, .inl f))]
theorem m_W_len : (m_W h ad ar I T A U).length = 29 := by simp [m_W, m_arr]
theorem m_O_w {k : Nat} {q : Nat × va_E} (hk : (m_W h ad ar I T A U)[k]? = some q) : (m_O h ad ar I T A U qo f)[k]? = some q := by
  have hl := (List.getElem?_eq_some_iff.mp hk).1
  unfold m_O
  rw [List.getElem?_append_left hl]; exact hk
theorem m_O_o : (m_O h ad ar I T A U qo f)[29]? = some (qo, .inl (ar 0, 4, .inl f)) := by
  unfold m_O
  rw [List.getElem?_append_right (by rw [m_W_len]; exact Nat.le_refl _), m_W_len]; rfl
theorem m_O_case {k : Nat} {q : Nat × va_E} (hk : (m_O h ad ar I T A U qo f)[k]? = some q) : (m_W h ad ar I T A U)[k]? = some q ∨ (k = 29 ∧ q = (qo, .inl (ar 0, 4, .inl f))) := by
  unfold m_O at hk
  rcases Nat.lt_or_ge k 29 with h1 | h1
  · rw [List.getElem?_append_left (by rw [m_W_len]; exact h1)] at hk; exact Or.inl hk
  · rw [List.getElem?_append_right (by rw [m_W_len]; exact h1), m_W_len] at hk
    refine Or.inr ?_
    by_cases e : k = 29
    · subst e; exact ⟨rfl, (Option.some.inj hk).symm⟩
    · have : k - 29 = (k - 30) + 1 := by omega
      rw [this] at hk; exact nomatch hk
theorem m_O_P (hP : va_P (dC, dI) x_cl (m_O h ad ar I T A U qo f) H) : va_P (dC, dI) x_cl (m_W h ad ar I T A U) H := fun k q hk => hP k q (m_O_w hk)
theorem m_O_D (hD : va_D B (m_O h ad ar I T A U qo f)) : va_D B (m_W h ad ar I T A U) := ⟨fun i j p q hi hj e => hD.1 i j p q (m_O_w hi) (m_O_w hj) e, fun k q hk => hD.2 k q (m_O_w hk)⟩
theorem m_O_D2 (hD : va_D B (m_O h ad ar I T A U qo f)) {g : Nat → Int32} : va_D B (m_O h ad ar I' T' A' U' qo g) := by
  have key : ∀ {k : Nat} {q : Nat × va_E}, (m_O h ad ar I' T' A' U' qo g)[k]? = some q → ∃ q', (m_O h ad ar I T A U qo f)[k]? = some q' ∧ q'.1 = q.1 := fun {k q} hk => by
    rcases m_O_case hk with h1 | ⟨h1, h2⟩
    · obtain ⟨p', h3, h4⟩ := m_at (I := I) (T := T) (A := A) (U := U) h1
      exact ⟨p', m_O_w h3, h4⟩
    · subst h1; subst h2; exact ⟨_, m_O_o, rfl⟩
  refine ⟨fun i j p q hi hj e => ?_, fun k q hk => ?_⟩
  · obtain ⟨p', h1, e1⟩ := key hi
    obtain ⟨q', h2, e2⟩ := key hj
    exact hD.1 i j p' q' h1 h2 (by rw [e1, e2]; exact e)
  · obtain ⟨q', h2, e2⟩ := key hk
    rw [← e2]; exact hD.2 k q' h2
/-- the array is kept by a call that has the rest -/
theorem m_O_keep (hP : va_P (dC, dI) x_cl (m_O h ad ar I T A U qo f) H) (hD : va_D B (m_O h ad ar I T A U qo f)) (hk : ∀ q : Nat, q < H.size → ¬ va_A (m_W h ad ar I T A U) H.size q → H1[q]? = H[q]?) (hP1 : va_P (dC, dI) x_cl (m_W h ad ar I' T' A' U') H1) : va_P (dC, dI) x_cl (m_O h ad ar I' T' A' U' qo f) H1 ∧ va_D B (m_O h ad ar I' T' A' U' qo f) := by
  refine ⟨fun k q hq => ?_, m_O_D2 hD⟩
  rcases m_O_case hq with h1 | ⟨h1, h2⟩
  · exact hP1 k q h1
  · subst h2
    have h3 := hP 29 _ m_O_o
    have hlt := h3.lt
    refine h3.kept (hk qo hlt (fun h9 => ?_))
    rcases h9 with ⟨j, e, hj⟩ | h9
    · have := hD.1 j 29 _ _ (m_O_w hj) m_O_o rfl
      have hl := (List.getElem?_eq_some_iff.mp hj).1
      rw [m_W_len] at hl; omega
    · exact absurd hlt (Nat.not_lt.mpr h9)
theorem m_O_set {g : Nat → Int32} : (m_O h ad ar I T A U qo f).set 29 (qo, .inl (ar 0, 4, .inl g)) = m_O h ad ar I T A U qo g := by
  unfold m_O
  rw [List.set_append_right _ _ (by rw [m_W_len]; exact Nat.le_refl _), m_W_len]; rfl
end ON
section OR
variable {p : Program} {l : Launch} {e : Env} {R : Room} {s : State} {m : MethodId} {args : Array Value} {below : List Frame} {meth : Method} {c : Code} {H H0 : Heap} {locs : List Loc} {cells slots : Nat} {Q : State → Prop}
variable {cc : ByteArray} {pc : Nat} {ls : Array Slot} {rest : List Value} {dC : Nat → ClassId} {dI : Nat → Nat → Nat} {B : Nat → Prop} {h : Nat} {ad : Nat → Nat} {ar : Nat → ClassId} {I : Nat → Int32} {T : Int64} {A : Nat → Nat → Int32} {U : Nat → Int64} {qo : Nat} {f : Nat → Int32}
theorem m_old (hx : p.tables.exec = Jvm.exec) (hb : c.code = cc) (hK : va_K (dC, dI) x_cl (x_tys ar) s) (hP : va_P (dC, dI) x_cl (m_O h ad ar I T A U qo f) H) {j : Int32} (hin : vp_in j 4) (hdg : decode cc pc = .ok (.iaload, 1))
    (kk : W p l e R s m args below meth c H locs cells slots Q (F0 m (pc + 1) ls (.int (f j.toNatClampNeg) :: rest))) : W p l e R s m args below meth c H locs cells slots Q (F0 m pc ls (.int j :: .ref qo :: rest)) :=
  va_iald hx hb hK hP 29 0 m_O_o rfl hin hdg kk
theorem m_ost (hx : p.tables.exec = Jvm.exec) (hb : c.code = cc) (hK : va_K (dC, dI) x_cl (x_tys ar) s) (hP : va_P (dC, dI) x_cl (m_O h ad ar I T A U qo f) H) (hD : va_D B (m_O h ad ar I T A U qo f)) (hS : va_S B H0 H locs) {j x : Int32} (hin : vp_in j 4) (hdg : decode cc pc = .ok (.iastore, 1))
    (kk : ∀ (H1 : Heap) (locs1 : List Loc), va_P (dC, dI) x_cl (m_O h ad ar I T A U qo (upd f j.toNatClampNeg x)) H1 → va_D B (m_O h ad ar I T A U qo (upd f j.toNatClampNeg x)) → va_S B H0 H1 locs1 → W p l e R s m args below meth c H1 locs1 cells slots Q (F0 m (pc + 1) ls rest)) : W p l e R s m args below meth c H locs cells slots Q (F0 m pc ls (.int x :: .int j :: .ref qo :: rest)) :=
  va_iast hx hb hK hP hD hS 29 0 m_O_o rfl hin hdg (fun H1 locs1 hP1 hD1 hS1 => kk H1 locs1 (by rw [m_O_set] at hP1; exact hP1) (by rw [m_O_set] at hD1; exact hD1) hS1)
end OR
section RM
variable {A A' : Nat → Nat → Int32} {q : Nat} {V : Nat → Prop} {own pown : Nat → Nat} {bl : List Nat} {role : Nat → Nat} {n : Nat} {pn br st : Nat → Nat}
/-- a writer's task goes on -/
theorem m_RI.took {c w : Nat} (h : m_RI A q V own pown bl role n pn br st) (hc : c < 6) (hw : w < 90) (e : A 38 c = Int32.ofNat w)
    (e1 : A' 1 = A 1) (e20 : A' 20 = A 20) (e21 : A' 21 = A 21) (e22 : A' 22 = A 22) (e24 : A' 24 = upd (A 24) q (Int32.ofNat w)) (e27 : A' 27 = A 27) (e28 : A' 28 = A 28) (e35 : A' 35 = A 35) (e36 : A' 36 = A 36) (e37 : A' 37 = A 37) (e38 : A' 38 = upd (A 38) c (-1)) :
    st w = 5 ∧ m_RI A' (q + 1) V own pown bl role n pn br (fun x => if x = w then 1 else (if x = w then 0 else st x)) := by
  rcases h.2.2.2.2.2.1 c hc with e9 | ⟨t, ht, e8, hal, hst⟩
  · rw [e] at e9; exact absurd e9 (x_n1 (by omega))
  · have et := x_inj (by omega) (by omega) (e.symm.trans e8)
    subst et
    have hk := h.kc0 ht hal (by omega)
    have h1 := h.unwrite (A' := m_up A 38 (upd (A 38) c (-1))) hc hw e hst rfl rfl rfl rfl rfl rfl rfl rfl rfl rfl rfl
    have h2 := (h1.put hw hal (if_pos rfl) hk).2
    exact ⟨hst, h2.eq e1 e20 e21 e22 (by rw [e24]; rfl) e27 e28 e35 e36 e37 (by rw [e38]; rfl)⟩
end RM
