-- ===== 65.bytes: the eight bytes of a number, as type of the class and of the reference read them; a loop of n turns =====
def x_b (e : Int64) (k : Int32) : Int32 := (Int64.toUInt64 e >>> (Int64.toUInt64 (Int32.toInt64 k) &&& Int64.toUInt64 63)).toInt64.toInt32 &&& 255
/-- byte k of e, the first the highest -/
def x_y (e : Int64) (k : Nat) : Int32 := x_b e (8 * (7 - Int32.ofNat k))
/-- the first k bytes are characters of a text or 0 -/
def x_okk (e : Int64) (k : Nat) : Prop := ∀ j, j < k → x_y e j = 0 ∨ (¬ x_y e j < 33 ∧ ¬ 126 < x_y e j)
/-- how many of the first k bytes aren't 0 -/
def x_cN (e : Int64) : Nat → Nat
  | 0 => 0
  | k + 1 => x_cN e k + (if x_y e k = 0 then 0 else 1)
def x_cn (e : Int64) (k : Nat) : Int32 := Int32.ofNat (x_cN e k)
/-- the shift of byte k -/
def x_sh (k : Nat) : Int32 := 56 - 8 * Int32.ofNat k
theorem x_8 {k : Nat} (h : k < 8) : k = 0 ∨ k = 1 ∨ k = 2 ∨ k = 3 ∨ k = 4 ∨ k = 5 ∨ k = 6 ∨ k = 7 := by omega
theorem x_ysh {e : Int64} {k : Nat} (h : k < 8) : x_y e k = x_b e (x_sh k) := by
  have h1 : (8 * (7 - Int32.ofNat k) : Int32) = x_sh k := by rcases x_8 h with rfl | rfl | rfl | rfl | rfl | rfl | rfl | rfl <;> decide
  unfold x_y
  rw [h1]
theorem x_shs {k : Nat} (h : k < 8) : x_sh k + Int32.ofInt (-8) = x_sh (k + 1) := by rcases x_8 h with rfl | rfl | rfl | rfl | rfl | rfl | rfl | rfl <;> decide
theorem x_shp {k : Nat} (h : k < 8) : ¬ x_sh k < 0 := by rcases x_8 h with rfl | rfl | rfl | rfl | rfl | rfl | rfl | rfl <;> decide
theorem x_k8 {k : Nat} (h : k < 8) : ¬ (8 : Int32) ≤ Int32.ofNat k := by rcases x_8 h with rfl | rfl | rfl | rfl | rfl | rfl | rfl | rfl <;> decide
theorem x_inc (k : Nat) : Int32.ofNat k + Int32.ofInt 1 = Int32.ofNat (k + 1) := (Int32.ofNat_add k 1).symm
theorem x_cN_le (e : Int64) (k : Nat) : x_cN e k ≤ k := by
  induction k with
  | zero => exact Nat.le_refl _
  | succ k ih =>
    show x_cN e k + (if x_y e k = 0 then 0 else 1) ≤ k + 1
    split <;> omega
theorem x_cnI {e : Int64} {k : Nat} (h : k ≤ 8) : (x_cn e k).toInt = (x_cN e k : Int) := Int32.toInt_ofNat_of_lt (by have := x_cN_le e k; omega)
theorem x_cn_z {e : Int64} {k : Nat} {r : Int32} (h : r = x_y e k) (h0 : r = 0) : x_cn e (k + 1) = x_cn e k := by
  show Int32.ofNat (x_cN e k + (if x_y e k = 0 then 0 else 1)) = Int32.ofNat (x_cN e k)
  rw [if_pos (h.symm.trans h0)]
  rfl
theorem x_cn_z0 {e : Int64} {k : Nat} {r : Int32} (h : r = x_y e k) (h0 : r = 0) : x_cn e (k + 1) = x_cn e k + 0 := by
  rw [x_cn_z h h0, Int32.add_zero]
theorem x_cn_s {e : Int64} {k : Nat} {r : Int32} (h : r = x_y e k) (h0 : ¬ r = 0) : x_cn e (k + 1) = x_cn e k + 1 := by
  show Int32.ofNat (x_cN e k + (if x_y e k = 0 then 0 else 1)) = Int32.ofNat (x_cN e k) + 1
  rw [if_neg (fun h9 => h0 (h.trans h9))]
  exact Int32.ofNat_add _ 1
theorem x_cn_i {e : Int64} {k : Nat} {r : Int32} (h : r = x_y e k) (h0 : ¬ r = 0) : x_cn e k + Int32.ofInt 1 = x_cn e (k + 1) := by
  rw [x_cn_s h h0]
  rfl
theorem x_cin {e : Int64} {k : Nat} (h : k ≤ 8) : vp_in (x_cn e k) 72 := by
  rw [vp_in_iff, x_cnI h]
  have := x_cN_le e k
  omega
theorem x_c71 {e : Int64} {k : Nat} (h : k ≤ 8) : ¬ (72 : Int32) ≤ x_cn e k := by
  rw [x_le, x_cnI h]
  have := x_cN_le e k
  have h1 : (72 : Int32).toInt = 72 := by decide
  omega
theorem x_c72 (e : Int64) : 0 + x_cn e 8 ≤ 72 := by
  rw [Int32.zero_add, x_le, x_cnI (Nat.le_refl 8)]
  have := x_cN_le e 8
  have h1 : (72 : Int32).toInt = 72 := by decide
  omega
theorem x_126 {r : Int32} : r ≤ 126 ↔ ¬ 126 < r := by rw [x_le, x_lt]; omega
theorem x_ok0 {e : Int64} : x_okk e 0 := fun j h => absurd h (Nat.not_lt_zero j)
theorem x_ok_s {e : Int64} {k : Nat} {r : Int32} (h : r = x_y e k) (hok : x_okk e k) (hg : r = 0 ∨ (¬ r < 33 ∧ ¬ 126 < r)) : x_okk e (k + 1) := fun j hj => by
  rcases Nat.lt_succ_iff_lt_or_eq.mp hj with h1 | h1
  · exact hok j h1
  · subst h1; rw [← h]; exact hg
theorem x_ok_p {e : Int64} {k : Nat} (hok : x_okk e (k + 1)) : x_okk e k := fun j hj => hok j (Nat.lt_succ_of_lt hj)
theorem x_bad {e : Int64} {k : Nat} {r : Int32} (hk : k < 8) (h : r = x_y e k) (h1 : ¬ r = 0) (h2 : r < 33 ∨ ¬ r ≤ 126) : ¬ x_okk e 8 := fun h9 => by
  rcases h9 k hk with h3 | ⟨h3, h4⟩
  · exact h1 (h.trans h3)
  · rw [← h] at h3 h4
    exact h2.elim h3 (fun h5 => h5 (x_126.mpr h4))
/-- what the reference's 'fine' is behind k bytes -/
def x_fine (e : Int64) (k : Nat) (fi : Int32) : Prop := (x_okk e k ∧ fi = 1) ∨ (¬ x_okk e k ∧ fi = 0)
theorem x_fi {e : Int64} {k : Nat} {r fi : Int32} (h : r = x_y e k) (hg : r = 0 ∨ (¬ r < 33 ∧ ¬ 126 < r)) (hf : x_fine e k fi) : x_fine e (k + 1) fi := by
  rcases hf with ⟨h1, h2⟩ | ⟨h1, h2⟩
  · exact Or.inl ⟨x_ok_s h h1 hg, h2⟩
  · exact Or.inr ⟨fun h9 => h1 (x_ok_p h9), h2⟩
theorem x_fb {e : Int64} {k : Nat} {r : Int32} (h : r = x_y e k) (h1 : ¬ r = 0) (h2 : r < 33 ∨ 126 < r) : x_fine e (k + 1) 0 := by
  refine Or.inr ⟨fun h9 => ?_, rfl⟩
  rcases h9 k (Nat.lt_succ_self k) with h3 | ⟨h3, h4⟩
  · exact h1 (h.trans h3)
  · rw [← h] at h3 h4
    exact h2.elim h3 h4
section XD
variable {p : Program} {l : Launch} {e : Env} {R : Room} {s : State} {m : MethodId} {args : Array Value} {below : List Frame} {meth : Method} {c : Code} {cells slots : Nat} {Q : State → Prop} {pc : Nat} {rest : List Value}
/-- a loop of n turns: its end, and a turn that may use the goal behind it -/
theorem x_down (Inv : Nat → Heap → List Loc → Array Slot → Prop) (n : Nat)
    (last : ∀ H locs ls, Inv n H locs ls → W p l e R s m args below meth c H locs cells slots Q (F0 m pc ls rest))
    (step : ∀ k, k < n → (∀ H locs ls, Inv (k + 1) H locs ls → W p l e R s m args below meth c H locs cells slots Q (F0 m pc ls rest)) → ∀ H locs ls, Inv k H locs ls → W p l e R s m args below meth c H locs cells slots Q (F0 m pc ls rest))
    {H : Heap} {locs : List Loc} {ls : Array Slot} (h0 : Inv 0 H locs ls) : W p l e R s m args below meth c H locs cells slots Q (F0 m pc ls rest) := by
  have h : ∀ j k, k + j = n → ∀ H locs ls, Inv k H locs ls → W p l e R s m args below meth c H locs cells slots Q (F0 m pc ls rest) := by
    intro j
    induction j with
    | zero => intro k hk; rw [Nat.add_zero] at hk; subst hk; exact last
    | succ j ih => intro k hk; exact step k (by omega) (ih (k + 1) (by omega))
  exact h n 0 (Nat.zero_add n) H locs ls h0
end XD
theorem x_cN_mono (e : Int64) (k : Nat) : ∀ j, x_cN e k ≤ x_cN e (k + j) := by
  intro j
  induction j with
  | zero => exact Nat.le_refl _
  | succ j ih =>
    show x_cN e k ≤ x_cN e (k + j) + (if x_y e (k + j) = 0 then 0 else 1)
    omega
theorem x_cN_lt {e : Int64} {k : Nat} {r : Int32} (hk : k < 8) (h : r = x_y e k) (h0 : ¬ r = 0) : x_cN e k < x_cN e 8 := by
  have h1 : x_cN e (k + 1) = x_cN e k + 1 := by
    show x_cN e k + (if x_y e k = 0 then 0 else 1) = _
    rw [if_neg (fun h9 => h0 (h.trans h9))]
  have h2 := x_cN_mono e (k + 1) (8 - (k + 1))
  rw [show k + 1 + (8 - (k + 1)) = 8 by omega] at h2
  omega
theorem x_cN_s {e : Int64} {k : Nat} {r : Int32} (h : r = x_y e k) (h0 : ¬ r = 0) : x_cN e (k + 1) = x_cN e k + 1 := by
  show x_cN e k + (if x_y e k = 0 then 0 else 1) = _
  rw [if_neg (fun h9 => h0 (h.trans h9))]
theorem x_cN_z {e : Int64} {k : Nat} {r : Int32} (h : r = x_y e k) (h0 : r = 0) : x_cN e (k + 1) = x_cN e k := by
  show x_cN e k + (if x_y e k = 0 then 0 else 1) = _
  rw [if_pos (h.symm.trans h0)]; rfl
