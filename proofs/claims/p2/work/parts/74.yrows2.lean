-- ===== 74.yrows2: rows over the other cells of the class's world, by program =====
theorem y_L_fresh {pl : va_W} {a : Nat} {e : va_E} (hD : y_ap (pl ++ [(a, e)])) : y_L pl a = none := y_L_none (fun k q hk hq => by
  have hl := (List.getElem?_eq_some_iff.mp hk).1
  have := hD k pl.length q (a, e) (by rw [List.getElem?_append_left hl]; exact hk) (by simp) hq
  omega)
theorem x_nneg {k : Nat} (hk : k < 2147483648) : ¬ Int32.ofNat k < 0 := by
  have h0 : (0 : Int32).toInt = 0 := by decide
  rw [x_lt, x_nI hk, h0]
  omega
section YQ
variable {p : Program} {l : Launch} {e : Env} {R : Room} {s : State} {m : MethodId} {args : Array Value} {below : List Frame} {meth : Method} {c : Code} {H H0 : Heap} {locs : List Loc} {cells slots : Nat} {Q : State → Prop}
variable {cc : ByteArray} {pc : Nat} {ls : Array Slot} {rest : List Value} {dC : Nat → ClassId} {dI : Nat → Nat → Nat} {B : Nat → Prop}
variable {ad : Nat → Nat} {ar : Nat → ClassId} {I : Nat → Int32} {T : Int64} {A : Nat → Nat → Int32} {O : Nat → Option Nat} {pl : va_W}
theorem d_aald (hx : p.tables.exec = Jvm.exec) (hb : c.code = cc) (hK : va_K (dC, dI) y_cl (y_tys ar) s) (hP : va_P (dC, dI) y_cl (y_W ad ar I T A O pl) H) {a cap : Nat} {g : Nat → Option Nat} (hf : y_L pl a = some (.inl (ar 5, cap, .inr (.inr (.inr (.inr g)))))) {j : Int32} (hin : vp_in j cap) (hdg : decode cc pc = .ok (.aaload, 1))
    (kk : W p l e R s m args below meth c H locs cells slots Q (F0 m (pc + 1) ls (va_rf (g j.toNatClampNeg) :: rest))) : W p l e R s m args below meth c H locs cells slots Q (F0 m pc ls (.int j :: .ref a :: rest)) := by
  obtain ⟨q, hq⟩ := y_L_at hf
  exact va_aldq hx hb hK hP (20 + q) 5 (cA := ar 5) (C := "java/lang/Object") (by rw [y_W_pl]; exact hq) rfl hin hdg kk
theorem d_iald (hx : p.tables.exec = Jvm.exec) (hb : c.code = cc) (hK : va_K (dC, dI) y_cl (y_tys ar) s) (hP : va_P (dC, dI) y_cl (y_W ad ar I T A O pl) H) {a n : Nat} {h : Nat → Int32} (hf : y_L pl a = some (.inl (ar 0, n, .inl h))) {j : Int32} (hin : vp_in j n) (hdg : decode cc pc = .ok (.iaload, 1))
    (kk : W p l e R s m args below meth c H locs cells slots Q (F0 m (pc + 1) ls (.int (h j.toNatClampNeg) :: rest))) : W p l e R s m args below meth c H locs cells slots Q (F0 m pc ls (.int j :: .ref a :: rest)) := by
  obtain ⟨q, hq⟩ := y_L_at hf
  exact va_iald hx hb hK hP (20 + q) 0 (cA := ar 0) (by rw [y_W_pl]; exact hq) rfl hin hdg kk
theorem d_alen (hx : p.tables.exec = Jvm.exec) (hb : c.code = cc) (hK : va_K (dC, dI) y_cl (y_tys ar) s) (hP : va_P (dC, dI) y_cl (y_W ad ar I T A O pl) H) {a n : Nat} {g : Nat → Option Nat} (hf : y_L pl a = some (.inl (ar 5, n, .inr (.inr (.inr (.inr g)))))) (hdg : decode cc pc = .ok (.arraylength, 1))
    (kk : W p l e R s m args below meth c H locs cells slots Q (F0 m (pc + 1) ls (.int (Int32.ofNat n) :: rest))) : W p l e R s m args below meth c H locs cells slots Q (F0 m pc ls (.ref a :: rest)) := by
  obtain ⟨q, hq⟩ := y_L_at hf
  exact va_alen hx hb hK hP (20 + q) 5 (by rw [y_W_pl]; exact hq) rfl rfl hdg kk
theorem d_ilen (hx : p.tables.exec = Jvm.exec) (hb : c.code = cc) (hK : va_K (dC, dI) y_cl (y_tys ar) s) (hP : va_P (dC, dI) y_cl (y_W ad ar I T A O pl) H) {a n : Nat} {g : Nat → Int32} (hf : y_L pl a = some (.inl (ar 0, n, .inl g))) (hdg : decode cc pc = .ok (.arraylength, 1))
    (kk : W p l e R s m args below meth c H locs cells slots Q (F0 m (pc + 1) ls (.int (Int32.ofNat n) :: rest))) : W p l e R s m args below meth c H locs cells slots Q (F0 m pc ls (.ref a :: rest)) := by
  obtain ⟨q, hq⟩ := y_L_at hf
  exact va_alen hx hb hK hP (20 + q) 0 (by rw [y_W_pl]; exact hq) rfl rfl hdg kk
theorem d_aast (hx : p.tables.exec = Jvm.exec) (hb : c.code = cc) (hK : va_K (dC, dI) y_cl (y_tys ar) s) (hP : va_P (dC, dI) y_cl (y_W ad ar I T A O pl) H) (hD : va_D B (y_W ad ar I T A O pl)) (hS : va_S B H0 H locs) (hca : va_Nw (.castable "ChannelMachine$Task" "java/lang/Object") s) {a cap t9 : Nat} {g : Nat → Option Nat} {fs : List Value} (hf : y_L pl a = some (.inl (ar 5, cap, .inr (.inr (.inr (.inr g)))))) (hft : y_L pl t9 = some (.inr (8, fs))) {j : Int32} (hin : vp_in j cap) (hdg : decode cc pc = .ok (.aastore, 1))
    (kk : ∀ (pl1 : va_W) (H1 : Heap) (locs1 : List Loc), y_L pl1 = y_Lu (y_L pl) a (.inl (ar 5, cap, .inr (.inr (.inr (.inr (va_up g j.toNatClampNeg (some t9))))))) → va_P (dC, dI) y_cl (y_W ad ar I T A O pl1) H1 → va_D B (y_W ad ar I T A O pl1) → va_S B H0 H1 locs1 → W p l e R s m args below meth c H1 locs1 cells slots Q (F0 m (pc + 1) ls rest)) : W p l e R s m args below meth c H locs cells slots Q (F0 m pc ls (.ref t9 :: .int j :: .ref a :: rest)) := by
  obtain ⟨q, hq⟩ := y_L_at hf
  obtain ⟨q2, hq2⟩ := y_L_at hft
  exact va_astqO hx hb hK hP hD hS (20 + q) 5 (20 + q2) 8 (cA := ar 5) (E := "java/lang/Object") (r := ("ChannelMachine$Task", F_Task, 7)) (by rw [y_W_pl]; exact hq) rfl hca (by rw [y_W_pl]; exact hq2) rfl hin hdg (fun H1 locs1 hP1 hD1 hS1 => kk _ H1 locs1 (y_L_set (y_D_ap hD) hq) (by rw [y_W_setp] at hP1; exact hP1) (by rw [y_W_setp] at hD1; exact hD1) hS1)
theorem d_aastN (hx : p.tables.exec = Jvm.exec) (hb : c.code = cc) (hK : va_K (dC, dI) y_cl (y_tys ar) s) (hP : va_P (dC, dI) y_cl (y_W ad ar I T A O pl) H) (hD : va_D B (y_W ad ar I T A O pl)) (hS : va_S B H0 H locs) {a cap : Nat} {g : Nat → Option Nat} (hf : y_L pl a = some (.inl (ar 5, cap, .inr (.inr (.inr (.inr g)))))) {j : Int32} (hin : vp_in j cap) (hdg : decode cc pc = .ok (.aastore, 1))
    (kk : ∀ (pl1 : va_W) (H1 : Heap) (locs1 : List Loc), y_L pl1 = y_Lu (y_L pl) a (.inl (ar 5, cap, .inr (.inr (.inr (.inr (va_up g j.toNatClampNeg none)))))) → va_P (dC, dI) y_cl (y_W ad ar I T A O pl1) H1 → va_D B (y_W ad ar I T A O pl1) → va_S B H0 H1 locs1 → W p l e R s m args below meth c H1 locs1 cells slots Q (F0 m (pc + 1) ls rest)) : W p l e R s m args below meth c H locs cells slots Q (F0 m pc ls (.null :: .int j :: .ref a :: rest)) := by
  obtain ⟨q, hq⟩ := y_L_at hf
  exact va_astqN hx hb hK hP hD hS (20 + q) 5 (cA := ar 5) (C := "java/lang/Object") (by rw [y_W_pl]; exact hq) rfl hin hdg (fun H1 locs1 hP1 hD1 hS1 => kk _ H1 locs1 (y_L_set (y_D_ap hD) hq) (by rw [y_W_setp] at hP1; exact hP1) (by rw [y_W_setp] at hD1; exact hD1) hS1)
theorem d_newq (hx : p.tables.exec = Jvm.exec) (hb : c.code = cc) (hK : va_K (dC, dI) y_cl (y_tys ar) s) (hP : va_P (dC, dI) y_cl (y_W ad ar I T A O pl) H) (hD : va_D B (y_W ad ar I T A O pl)) (hS : va_S B H0 H locs) (hA : ∀ q, H0.size ≤ q → B q) {own : String} {index : Nat} (hown : s.vm.findClass own = some m.cls) (hclink : (Cond.classLink own index "java/lang/Object").before args s = true) (hover : va_AO "java/lang/Object" s) {N' : Nat} (hN : N' < 100000000) (hcells : cells + 1 ≤ R.cells) (hslots : slots + N' ≤ R.slots) (hdg : decode cc pc = .ok (.anewarray index, 3))
    (kk : ∀ (a : Nat) (pl1 : va_W) (H1 : Heap), y_L pl a = none → y_L pl1 = y_Lu (y_L pl) a (.inl (ar 5, N', .inr (.inr (.inr (.inr (fun _ => none)))))) → va_P (dC, dI) y_cl (y_W ad ar I T A O pl1) H1 → va_D B (y_W ad ar I T A O pl1) → va_S B H0 H1 locs → W p l e R s m args below meth c H1 locs (cells + 1) (slots + N') Q (F0 m (pc + 3) ls (.ref a :: rest))) : W p l e R s m args below meth c H locs cells slots Q (F0 m pc ls (.int (Int32.ofNat N') :: rest)) := by
  refine va_newq hx hb hown hclink hover hK hP hD hS hA (n := Int32.ofNat N') (N' := N') (x_nneg (by omega)) (x_nat (by omega)) (by omega) hcells hslots hdg (fun q cA H1 hK1 hP1 hD1 hS1 => ?_)
  obtain ⟨_, _, _, _, _, h1⟩ := (hK1.2 (y_tys ar).length (cA, .object "java/lang/Object") (by simp)).2
  obtain ⟨_, _, _, _, _, h2⟩ := (hK.2 5 _ rfl).2
  have e1 : cA = ar 5 := Option.some.inj (h1.symm.trans h2)
  subst e1
  rw [y_W_app] at hP1 hD1
  exact kk q _ H1 (y_L_fresh (y_D_ap hD1)) (y_L_app (y_D_ap hD1)) hP1 hD1 hS1
theorem d_copyq (hx : p.tables.exec = Jvm.exec) (hb : c.code = cc) (hml : c.maxLocals = ls.size) (hK : va_K (dC, dI) y_cl (y_tys ar) s) (hP : va_P (dC, dI) y_cl (y_W ad ar I T A O pl) H) (hD : va_D B (y_W ad ar I T A O pl)) (hS : va_S B H0 H locs) {own : String} {index : Nat} (hown : s.vm.findClass own = some m.cls) (hlink : (Cond.methodLink own index arraycopyName).before args s = true) (hnat : (Cond.native arraycopyName).before args s = true) (hstat : (Cond.static arraycopyName).before args s = true) (hini : (Cond.initialized "java/lang/System").before args s = true)
    (hca : va_Nw (.castable "ChannelMachine$Task" "java/lang/Object") s) {a0 a n0 n1 sp dp n : Nat} {f g : Nat → Option Nat} (hf0 : y_L pl a0 = some (.inl (ar 5, n0, .inr (.inr (.inr (.inr f)))))) (hf1 : y_L pl a = some (.inl (ar 5, n1, .inr (.inr (.inr (.inr g)))))) (hsm : n0 < 2147483648 ∧ n1 < 2147483648) (h4 : sp + n ≤ n0) (h5 : dp + n ≤ n1) (hel : ∀ i, i < n → ∀ y, f (sp + i) = some y → ∃ fs, y_L pl y = some (.inr (8, fs)))
    (hframes : 1 ≤ R.frames) (hlocals : (rest.map fun v => v.category).sum + (nativeFrameWords "java/lang/System" "arraycopy" 5 + 11) ≤ R.locals) (hdg : decode cc pc = .ok (.invokestatic index, 3))
    (kk : ∀ (pl1 : va_W) (H1 : Heap) (locs1 : List Loc), y_L pl1 = y_Lu (y_L pl) a (.inl (ar 5, n1, .inr (.inr (.inr (.inr (va_cpy f g sp dp n)))))) → va_P (dC, dI) y_cl (y_W ad ar I T A O pl1) H1 → va_D B (y_W ad ar I T A O pl1) → va_S B H0 H1 locs1 → W p l e R s m args below meth c H1 locs1 cells slots Q (F0 m (pc + 3) ls rest)) : W p l e R s m args below meth c H locs cells slots Q (F0 m pc ls (.int (Int32.ofNat n) :: .int (Int32.ofNat dp) :: .ref a :: .int (Int32.ofNat sp) :: .ref a0 :: rest)) := by
  obtain ⟨q, hq⟩ := y_L_at hf0
  obtain ⟨q2, hq2⟩ := y_L_at hf1
  have e1 : (Int32.ofNat sp).toNatClampNeg = sp := x_nat (by omega)
  have e2 : (Int32.ofNat dp).toNatClampNeg = dp := x_nat (by omega)
  have e3 : (Int32.ofNat n).toNatClampNeg = n := x_nat (by omega)
  refine va_copyq hx hb hml hown hlink hnat hstat hini hK hP hD hS (20 + q) (20 + q2) 5 5 (c0 := ar 5) (c1 := ar 5) (E0 := "java/lang/Object") (E1 := "java/lang/Object") (C := "ChannelMachine$Task") (by rw [y_W_pl]; exact hq) (by rw [y_W_pl]; exact hq2) rfl rfl (x_nneg (by omega)) (x_nneg (by omega)) (x_nneg (by omega)) (by rw [e1, e3]; exact h4) (by rw [e2, e3]; exact h5) (fun i hi y hy => ?_) (vb_asgC hca) hframes hlocals hdg (fun H1 locs1 hP1 hD1 hS1 => ?_)
  · rw [e3] at hi
    rw [e1] at hy
    obtain ⟨fs, hfs⟩ := hel i hi y hy
    obtain ⟨q3, hq3⟩ := y_L_at hfs
    exact va_recv hK hP (ci := 8) (q0 := 20 + q3) (q := ("ChannelMachine$Task", F_Task, 7)) rfl (by rw [y_W_pl]; exact hq3)
  · rw [e1, e2, e3] at hP1 hD1
    exact kk _ H1 locs1 (y_L_set (y_D_ap hD) hq2) (by rw [y_W_setp] at hP1; exact hP1) (by rw [y_W_setp] at hD1; exact hD1) hS1
end YQ
