-- ===== 30.model: the reference's whole world, as functions; by program =====
/-- the arrays: slot of the field, kind of array, length -/
def m_arr : List (Nat × Nat × Nat) := [(0, 0, 72), (1, 0, 1200), (2, 0, 1200), (3, 0, 6), (11, 0, 80), (12, 0, 80), (13, 0, 80), (14, 0, 320), (15, 0, 40), (16, 0, 40), (17, 0, 8), (19, 3, 8), (20, 0, 90), (21, 0, 90), (22, 0, 90), (23, 0, 90), (24, 0, 90), (25, 0, 80), (26, 2, 90), (27, 3, 90), (28, 3, 90), (35, 0, 6), (36, 0, 6), (37, 0, 6), (38, 0, 6), (39, 0, 6), (40, 0, 8), (41, 0, 8)]
def m_ref (k : Nat) : Bool := decide (k ∈ [0, 1, 2, 3, 11, 12, 13, 14, 15, 16, 17, 19, 20, 21, 22, 23, 24, 25, 26, 27, 28, 35, 36, 37, 38, 39, 40, 41])
def m_f (ad : Nat → Nat) (I : Nat → Int32) (T : Int64) (k : Nat) : Value := if m_ref k = true then .ref (ad k) else if k = 34 then .long T else .int (I k)
def m_F (ad : Nat → Nat) (I : Nat → Int32) (T : Int64) : List Value := (List.range 45).map (m_f ad I T)
def m_up (A : Nat → Nat → Int32) (k : Nat) (f : Nat → Int32) : Nat → Nat → Int32 := fun j => if j = k then f else A j
def m_c (ar : Nat → ClassId) (A : Nat → Nat → Int32) (U : Nat → Int64) (q : Nat × Nat × Nat) : va_E := .inl (ar q.2.1, q.2.2, if q.1 = 26 then .inr (.inl U) else .inl (A q.1))
def m_W (h : Nat) (ad : Nat → Nat) (ar : Nat → ClassId) (I : Nat → Int32) (T : Int64) (A : Nat → Nat → Int32) (U : Nat → Int64) : va_W := (h, .inr (6, m_F ad I T)) :: m_arr.map (fun q => (ad q.1, m_c ar A U q))
section MB
variable {h : Nat} {ad : Nat → Nat} {ar : Nat → ClassId} {I I' : Nat → Int32} {T T' : Int64} {A A' : Nat → Nat → Int32} {U U' : Nat → Int64}
theorem m_F_len : (m_F ad I T).length = 45 := by simp [m_F]
theorem m_F_get {k : Nat} (hk : k < 45) : (m_F ad I T)[k]? = some (m_f ad I T k) := by simp [m_F, hk]
theorem m_F_seti {k : Nat} {x : Int32} (hr : m_ref k = false) (ht : k ≠ 34) : (m_F ad I T).set k (.int x) = m_F ad (upd I k x) T := by
  apply List.ext_getElem?
  intro j
  by_cases hj : j < 45
  · by_cases e : k = j
    · subst e
      rw [List.getElem?_set_self (by rw [m_F_len]; exact hj), m_F_get hj]
      simp [m_f, hr, ht, upd]
    · rw [List.getElem?_set_ne e, m_F_get hj, m_F_get hj]
      have e2 : j ≠ k := fun h => e h.symm
      simp [m_f, upd, e2]
  · rw [List.getElem?_eq_none (by rw [List.length_set, m_F_len]; omega), List.getElem?_eq_none (by rw [m_F_len]; omega)]
theorem m_F_sett {t : Int64} : (m_F ad I T).set 34 (.long t) = m_F ad I t := by
  apply List.ext_getElem?
  intro j
  by_cases hj : j < 45
  · by_cases e : 34 = j
    · subst e
      rw [List.getElem?_set_self (by rw [m_F_len]; exact hj), m_F_get hj]
      rfl
    · rw [List.getElem?_set_ne e, m_F_get hj, m_F_get hj]
      have e2 : j ≠ 34 := fun h => e h.symm
      simp [m_f, e2]
  · rw [List.getElem?_eq_none (by rw [List.length_set, m_F_len]; omega), List.getElem?_eq_none (by rw [m_F_len]; omega)]
theorem m_nd : (m_arr.map (fun q => q.1)).Nodup := by decide
theorem m_one {i j : Nat} {q q' : Nat × Nat × Nat} (hi : m_arr[i]? = some q) (hj : m_arr[j]? = some q') (e : q.1 = q'.1) : i = j := by
  have h1 : (m_arr.map (fun q => q.1))[i]? = some q.1 := by rw [List.getElem?_map, hi]; rfl
  have h2 : (m_arr.map (fun q => q.1))[j]? = some q'.1 := by rw [List.getElem?_map, hj]; rfl
  have hl : i < (m_arr.map (fun q => q.1)).length := (List.getElem?_eq_some_iff.mp h1).1
  exact (List.getElem?_inj hl m_nd).mp (by rw [h1, h2, e])
theorem m_W_0 : (m_W h ad ar I T A U)[0]? = some (h, .inr (6, m_F ad I T)) := rfl
theorem m_W_a {i : Nat} {q : Nat × Nat × Nat} (hi : m_arr[i]? = some q) : (m_W h ad ar I T A U)[i + 1]? = some (ad q.1, m_c ar A U q) := by
  show (m_arr.map (fun q => (ad q.1, m_c ar A U q)))[i]? = _
  rw [List.getElem?_map, hi]
  rfl
theorem m_set_a {i k t n : Nat} {f : Nat → Int32} (hi : m_arr[i]? = some (k, t, n)) (hk : k ≠ 26) : (m_W h ad ar I T A U).set (i + 1) (ad k, .inl (ar t, n, .inl f)) = m_W h ad ar I T (m_up A k f) U := by
  show (h, _) :: (m_arr.map (fun q => (ad q.1, m_c ar A U q))).set i _ = (h, _) :: m_arr.map (fun q => (ad q.1, m_c ar (m_up A k f) U q))
  congr 1
  apply List.ext_getElem?
  intro j
  by_cases e : i = j
  · subst e
    rw [List.getElem?_set_self (by rw [List.length_map]; exact (List.getElem?_eq_some_iff.mp hi).1), List.getElem?_map, hi]
    simp [m_c, m_up, hk]
  · rw [List.getElem?_set_ne e, List.getElem?_map, List.getElem?_map]
    cases hj : m_arr[j]? with
    | none => rfl
    | some q =>
      have e2 : q.1 ≠ k := fun h9 => e (m_one hi hj h9.symm)
      simp [m_c, m_up, e2]
theorem m_set_u {i t n : Nat} {f : Nat → Int64} (hi : m_arr[i]? = some (26, t, n)) : (m_W h ad ar I T A U).set (i + 1) (ad 26, .inl (ar t, n, .inr (.inl f))) = m_W h ad ar I T A f := by
  show (h, _) :: (m_arr.map (fun q => (ad q.1, m_c ar A U q))).set i _ = (h, _) :: m_arr.map (fun q => (ad q.1, m_c ar A f q))
  congr 1
  apply List.ext_getElem?
  intro j
  by_cases e : i = j
  · subst e
    rw [List.getElem?_set_self (by rw [List.length_map]; exact (List.getElem?_eq_some_iff.mp hi).1), List.getElem?_map, hi]
    simp [m_c]
  · rw [List.getElem?_set_ne e, List.getElem?_map, List.getElem?_map]
    cases hj : m_arr[j]? with
    | none => rfl
    | some q =>
      have e2 : q.1 ≠ 26 := fun h9 => e (m_one hi hj h9.symm)
      simp [m_c, e2]
theorem m_at {k : Nat} {p : Nat × va_E} (hk : (m_W h ad ar I' T' A' U')[k]? = some p) : ∃ p', (m_W h ad ar I T A U)[k]? = some p' ∧ p'.1 = p.1 := by
  cases k with
  | zero => cases hk; exact ⟨_, rfl, rfl⟩
  | succ i =>
    have h1 : (m_arr.map (fun q => (ad q.1, m_c ar A' U' q)))[i]? = some p := hk
    rw [List.getElem?_map] at h1
    cases hq : m_arr[i]? with
    | none => rw [hq] at h1; cases h1
    | some q => rw [hq] at h1; cases h1; exact ⟨_, m_W_a hq, rfl⟩
theorem m_D {B : Nat → Prop} (hD : va_D B (m_W h ad ar I T A U)) : va_D B (m_W h ad ar I' T' A' U') := by
  refine ⟨fun i j p q hi hj e => ?_, fun k q hk => ?_⟩
  · obtain ⟨p', h1, e1⟩ := m_at (I := I) (T := T) (A := A) (U := U) hi
    obtain ⟨q', h2, e2⟩ := m_at (I := I) (T := T) (A := A) (U := U) hj
    exact hD.1 i j p' q' h1 h2 (by rw [e1, e2]; exact e)
  · obtain ⟨q', h2, e2⟩ := m_at (I := I) (T := T) (A := A) (U := U) hk
    rw [← e2]; exact hD.2 k q' h2
theorem m_free {B : Nat → Prop} {H0 H : Heap} {locs : List Loc} (hD : va_D B (m_W h ad ar I T A U)) (hS : va_S B H0 H locs) (hA : ∀ q, H0.size ≤ q → B q) : ∀ q, va_A (m_W h ad ar I T A U) H.size q → B q := fun q h9 => by
  rcases h9 with ⟨k, e, hk⟩ | h9
  · exact hD.2 k _ hk
  · exact hA q (Nat.le_trans hS.1 h9)
end MB
section MR
variable {p : Program} {l : Launch} {e : Env} {R : Room} {s : State} {m : MethodId} {args : Array Value} {below : List Frame} {meth : Method} {c : Code} {H H0 : Heap} {locs : List Loc} {cells slots : Nat} {Q : State → Prop}
variable {cc : ByteArray} {pc : Nat} {ls : Array Slot} {rest : List Value} {dC : Nat → ClassId} {dI : Nat → Nat → Nat} {B : Nat → Prop}
variable {h : Nat} {ad : Nat → Nat} {ar : Nat → ClassId} {I : Nat → Int32} {T : Int64} {A : Nat → Nat → Int32} {U : Nat → Int64}
theorem m_g (hx : p.tables.exec = Jvm.exec) (hb : c.code = cc) (hts : ∀ w ∈ x_T, w.before args s = true) (hown : s.vm.findClass "ChannelMachineModel" = some m.cls) (hK : va_K (dC, dI) x_cl (x_tys ar) s) (hP : va_P (dC, dI) x_cl (m_W h ad ar I T A U) H) (k : Nat) (hk : k < 45) (ho : (F_Mo k).1 = "ChannelMachineModel") {index : Nat} (hlink : (Cond.fieldLink "ChannelMachineModel" index "ChannelMachineModel" (F_Mo k).2.1 (F_Mo k).2.2.1).before args s = true) {v : Value} (hv : m_f ad I T k = v) (hdg : decode cc pc = .ok (.getfield index, 3))
    (kk : W p l e R s m args below meth c H locs cells slots Q (F0 m (pc + 3) ls (v :: rest))) : W p l e R s m args below meth c H locs cells slots Q (F0 m pc ls (.ref h :: rest)) :=
  va_get (D := (dC, dI)) (ci := 6) (C := "ChannelMachineModel") (T := F_Mo) (N := 45) hx hb hts i_Mo hown hK hP 0 rfl rfl k hk hlink (fun x h9 => by rw [ho] at h9; exact h9) (by rw [m_F_get hk, hv]) hdg kk
theorem m_p (hx : p.tables.exec = Jvm.exec) (hb : c.code = cc) (hts : ∀ w ∈ x_T, w.before args s = true) (hown : s.vm.findClass "ChannelMachineModel" = some m.cls) (hK : va_K (dC, dI) x_cl (x_tys ar) s) (hP : va_P (dC, dI) x_cl (m_W h ad ar I T A U) H) (hD : va_D B (m_W h ad ar I T A U)) (hS : va_S B H0 H locs) (k : Nat) (hk : k < 45) (ho : (F_Mo k).1 = "ChannelMachineModel") {index : Nat} (hlink : (Cond.fieldLink "ChannelMachineModel" index "ChannelMachineModel" (F_Mo k).2.1 (F_Mo k).2.2.1).before args s = true) (hfin : (F_Mo k).2.2.2 = false) (hd : parseFieldDescriptor (F_Mo k).2.2.1 = some .int) (hr : m_ref k = false) (ht : k ≠ 34) {x : Int32} (hdg : decode cc pc = .ok (.putfield index, 3))
    (kk : ∀ (H1 : Heap) (locs1 : List Loc), va_P (dC, dI) x_cl (m_W h ad ar (upd I k x) T A U) H1 → va_D B (m_W h ad ar (upd I k x) T A U) → va_S B H0 H1 locs1 → W p l e R s m args below meth c H1 locs1 cells slots Q (F0 m (pc + 3) ls rest)) : W p l e R s m args below meth c H locs cells slots Q (F0 m pc ls (.int x :: .ref h :: rest)) :=
  va_put (D := (dC, dI)) (ci := 6) (C := "ChannelMachineModel") (T := F_Mo) (N := 45) hx hb hts i_Mo t_Mo t_Mo_ok n_Mo hown hK hP hD hS 0 rfl rfl k hk hlink (fun x h9 => by rw [ho] at h9; exact h9) hfin hd rfl rfl (by rw [m_F_len]; exact hk) hdg (fun H1 locs1 hP1 _ hS1 => kk H1 locs1 (by rw [m_F_seti hr ht] at hP1; exact hP1) (m_D hD) hS1)
theorem m_pt (hx : p.tables.exec = Jvm.exec) (hb : c.code = cc) (hts : ∀ w ∈ x_T, w.before args s = true) (hown : s.vm.findClass "ChannelMachineModel" = some m.cls) (hK : va_K (dC, dI) x_cl (x_tys ar) s) (hP : va_P (dC, dI) x_cl (m_W h ad ar I T A U) H) (hD : va_D B (m_W h ad ar I T A U)) (hS : va_S B H0 H locs) {index : Nat} (hlink : (Cond.fieldLink "ChannelMachineModel" index "ChannelMachineModel" "time" "J").before args s = true) {x : Int64} (hdg : decode cc pc = .ok (.putfield index, 3))
    (kk : ∀ (H1 : Heap) (locs1 : List Loc), va_P (dC, dI) x_cl (m_W h ad ar I x A U) H1 → va_D B (m_W h ad ar I x A U) → va_S B H0 H1 locs1 → W p l e R s m args below meth c H1 locs1 cells slots Q (F0 m (pc + 3) ls rest)) : W p l e R s m args below meth c H locs cells slots Q (F0 m pc ls (.long x :: .ref h :: rest)) :=
  va_put (D := (dC, dI)) (ci := 6) (C := "ChannelMachineModel") (T := F_Mo) (N := 45) (ty := .long) hx hb hts i_Mo t_Mo t_Mo_ok n_Mo hown hK hP hD hS 0 rfl rfl 34 (by decide) hlink (fun x h9 => h9) rfl (by decide +kernel) rfl rfl (by rw [m_F_len]; decide) hdg (fun H1 locs1 hP1 _ hS1 => kk H1 locs1 (by rw [m_F_sett] at hP1; exact hP1) (m_D hD) hS1)
theorem m_ld (hx : p.tables.exec = Jvm.exec) (hb : c.code = cc) (hK : va_K (dC, dI) x_cl (x_tys ar) s) (hP : va_P (dC, dI) x_cl (m_W h ad ar I T A U) H) (i : Nat) {k n : Nat} (hi : m_arr[i]? = some (k, 0, n)) (hk : k ≠ 26) {j : Int32} (hin : vp_in j n) (hdg : decode cc pc = .ok (.iaload, 1))
    (kk : W p l e R s m args below meth c H locs cells slots Q (F0 m (pc + 1) ls (.int (A k j.toNatClampNeg) :: rest))) : W p l e R s m args below meth c H locs cells slots Q (F0 m pc ls (.int j :: .ref (ad k) :: rest)) :=
  va_iald hx hb hK hP (i + 1) 0 (cA := ar 0) (by rw [m_W_a hi]; simp only [m_c, if_neg hk]) rfl hin hdg kk
theorem m_zld (hx : p.tables.exec = Jvm.exec) (hb : c.code = cc) (hK : va_K (dC, dI) x_cl (x_tys ar) s) (hP : va_P (dC, dI) x_cl (m_W h ad ar I T A U) H) (i : Nat) {k n : Nat} (hi : m_arr[i]? = some (k, 3, n)) (hk : k ≠ 26) {j : Int32} (hin : vp_in j n) (hdg : decode cc pc = .ok (.baload, 1))
    (kk : W p l e R s m args below meth c H locs cells slots Q (F0 m (pc + 1) ls (.int (A k j.toNatClampNeg) :: rest))) : W p l e R s m args below meth c H locs cells slots Q (F0 m pc ls (.int j :: .ref (ad k) :: rest)) :=
  va_zald hx hb hK hP (i + 1) 3 (cA := ar 3) (by rw [m_W_a hi]; simp only [m_c, if_neg hk]) rfl hin hdg kk
theorem m_st (hx : p.tables.exec = Jvm.exec) (hb : c.code = cc) (hK : va_K (dC, dI) x_cl (x_tys ar) s) (hP : va_P (dC, dI) x_cl (m_W h ad ar I T A U) H) (hD : va_D B (m_W h ad ar I T A U)) (hS : va_S B H0 H locs) (i : Nat) {k n : Nat} (hi : m_arr[i]? = some (k, 0, n)) (hk : k ≠ 26) {j x : Int32} (hin : vp_in j n) (hdg : decode cc pc = .ok (.iastore, 1))
    (kk : ∀ (H1 : Heap) (locs1 : List Loc), va_P (dC, dI) x_cl (m_W h ad ar I T (m_up A k (upd (A k) j.toNatClampNeg x)) U) H1 → va_D B (m_W h ad ar I T (m_up A k (upd (A k) j.toNatClampNeg x)) U) → va_S B H0 H1 locs1 → W p l e R s m args below meth c H1 locs1 cells slots Q (F0 m (pc + 1) ls rest)) : W p l e R s m args below meth c H locs cells slots Q (F0 m pc ls (.int x :: .int j :: .ref (ad k) :: rest)) :=
  va_iast hx hb hK hP hD hS (i + 1) 0 (cA := ar 0) (f := A k) (by rw [m_W_a hi]; simp only [m_c, if_neg hk]) rfl hin hdg (fun H1 locs1 hP1 _ hS1 => kk H1 locs1 (by rw [m_set_a hi hk] at hP1; exact hP1) (m_D hD) hS1)
theorem m_zst (hx : p.tables.exec = Jvm.exec) (hb : c.code = cc) (hK : va_K (dC, dI) x_cl (x_tys ar) s) (hP : va_P (dC, dI) x_cl (m_W h ad ar I T A U) H) (hD : va_D B (m_W h ad ar I T A U)) (hS : va_S B H0 H locs) (i : Nat) {k n : Nat} (hi : m_arr[i]? = some (k, 3, n)) (hk : k ≠ 26) {j x : Int32} (hin : vp_in j n) (hdg : decode cc pc = .ok (.bastore, 1))
    (kk : ∀ (H1 : Heap) (locs1 : List Loc), va_P (dC, dI) x_cl (m_W h ad ar I T (m_up A k (upd (A k) j.toNatClampNeg (vp_nar .boolean x))) U) H1 → va_D B (m_W h ad ar I T (m_up A k (upd (A k) j.toNatClampNeg (vp_nar .boolean x))) U) → va_S B H0 H1 locs1 → W p l e R s m args below meth c H1 locs1 cells slots Q (F0 m (pc + 1) ls rest)) : W p l e R s m args below meth c H locs cells slots Q (F0 m pc ls (.int x :: .int j :: .ref (ad k) :: rest)) :=
  va_zast hx hb hK hP hD hS (i + 1) 3 (cA := ar 3) (f := A k) (by rw [m_W_a hi]; simp only [m_c, if_neg hk]) rfl hin hdg (fun H1 locs1 hP1 _ hS1 => kk H1 locs1 (by rw [m_set_a hi hk] at hP1; exact hP1) (m_D hD) hS1)
theorem m_lld (hx : p.tables.exec = Jvm.exec) (hb : c.code = cc) (hK : va_K (dC, dI) x_cl (x_tys ar) s) (hP : va_P (dC, dI) x_cl (m_W h ad ar I T A U) H) (i : Nat) {n : Nat} (hi : m_arr[i]? = some (26, 2, n)) {j : Int32} (hin : vp_in j n) (hdg : decode cc pc = .ok (.laload, 1))
    (kk : W p l e R s m args below meth c H locs cells slots Q (F0 m (pc + 1) ls (.long (U j.toNatClampNeg) :: rest))) : W p l e R s m args below meth c H locs cells slots Q (F0 m pc ls (.int j :: .ref (ad 26) :: rest)) :=
  va_lald hx hb hK hP (i + 1) 2 (cA := ar 2) (by rw [m_W_a hi]; simp only [m_c, if_pos]) rfl hin hdg kk
theorem m_lst (hx : p.tables.exec = Jvm.exec) (hb : c.code = cc) (hK : va_K (dC, dI) x_cl (x_tys ar) s) (hP : va_P (dC, dI) x_cl (m_W h ad ar I T A U) H) (hD : va_D B (m_W h ad ar I T A U)) (hS : va_S B H0 H locs) (i : Nat) {n : Nat} (hi : m_arr[i]? = some (26, 2, n)) {j : Int32} {x : Int64} (hin : vp_in j n) (hdg : decode cc pc = .ok (.lastore, 1))
    (kk : ∀ (H1 : Heap) (locs1 : List Loc), va_P (dC, dI) x_cl (m_W h ad ar I T A (vp_updL U j.toNatClampNeg x)) H1 → va_D B (m_W h ad ar I T A (vp_updL U j.toNatClampNeg x)) → va_S B H0 H1 locs1 → W p l e R s m args below meth c H1 locs1 cells slots Q (F0 m (pc + 1) ls rest)) : W p l e R s m args below meth c H locs cells slots Q (F0 m pc ls (.long x :: .int j :: .ref (ad 26) :: rest)) :=
  va_last hx hb hK hP hD hS (i + 1) 2 (cA := ar 2) (f := U) (by rw [m_W_a hi]; simp only [m_c, if_pos]) rfl hin hdg (fun H1 locs1 hP1 _ hS1 => kk H1 locs1 (by rw [m_set_u hi] at hP1; exact hP1) (m_D hD) hS1)
end MR
