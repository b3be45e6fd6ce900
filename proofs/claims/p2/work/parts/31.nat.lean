-- ===== 31.nat: ints that stand for natural numbers; loops =====
theorem x_nI {a : Nat} (h : a < 2147483648) : (Int32.ofNat a).toInt = (a : Int) := Int32.toInt_ofNat_of_lt h
theorem x_nat {a : Nat} (h : a < 2147483648) : Int32.toNatClampNeg (Int32.ofNat a) = a := by
  have h1 := x_nI h
  show (Int32.ofNat a).toInt.toNat = a
  rw [h1]; exact Int.toNat_natCast a
theorem x_inN {a n : Nat} (h : a < n) (hn : n < 2147483648) : vp_in (Int32.ofNat a) n := by
  rw [vp_in_iff, x_nI (by omega)]; omega
theorem x_ltN {a b : Nat} (ha : a < 2147483648) (hb : b < 2147483648) : Int32.ofNat a < Int32.ofNat b ↔ a < b := by rw [x_lt, x_nI ha, x_nI hb]; omega
theorem x_leN {a b : Nat} (ha : a < 2147483648) (hb : b < 2147483648) : Int32.ofNat a ≤ Int32.ofNat b ↔ a ≤ b := by rw [x_le, x_nI ha, x_nI hb]; omega
theorem x_eqN {a b : Nat} (ha : a < 2147483648) (hb : b < 2147483648) : Int32.ofNat a = Int32.ofNat b ↔ a = b := by rw [← Int32.toInt_inj, x_nI ha, x_nI hb]; omega
theorem x_addN {a b : Nat} : Int32.ofNat a + Int32.ofNat b = Int32.ofNat (a + b) := (Int32.ofNat_add a b).symm
theorem x_subN {a b : Nat} (h : b ≤ a) : Int32.ofNat a - Int32.ofNat b = Int32.ofNat (a - b) := by
  have h1 : Int32.ofNat (a - b) + Int32.ofNat b = Int32.ofNat a := by rw [x_addN]; congr 1; omega
  rw [← h1, Int32.add_sub_cancel]
section XW
variable {p : Program} {l : Launch} {e : Env} {R : Room} {s : State} {m : MethodId} {args : Array Value} {below : List Frame} {meth : Method} {c : Code} {cells slots : Nat} {Q : State → Prop} {pc : Nat} {rest : List Value}
/-- a loop with a measure -/
theorem x_while (Inv : Nat → Heap → List Loc → Array Slot → Prop)
    (step : ∀ n, (∀ n', n' < n → ∀ H locs ls, Inv n' H locs ls → W p l e R s m args below meth c H locs cells slots Q (F0 m pc ls rest)) → ∀ H locs ls, Inv n H locs ls → W p l e R s m args below meth c H locs cells slots Q (F0 m pc ls rest))
    {n : Nat} {H : Heap} {locs : List Loc} {ls : Array Slot} (h0 : Inv n H locs ls) : W p l e R s m args below meth c H locs cells slots Q (F0 m pc ls rest) := by
  have h : ∀ n, ∀ H locs ls, Inv n H locs ls → W p l e R s m args below meth c H locs cells slots Q (F0 m pc ls rest) := by
    intro n
    induction n using Nat.strongRecOn with
    | ind n ih => exact step n ih
  exact h n H locs ls h0
end XW
