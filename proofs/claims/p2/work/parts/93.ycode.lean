-- ===== 93.ycode: the code that was read, by program =====
theorem k_530 : (Jvm.Cond.methodLink "ChannelMachine$Reader" (218 : Nat) ({ cls := "java/util/Arrays", name := "copyOf", desc := "([II)[I" } : Jvm.MethodName)) ∈ x_T := x_at 530 (by decide +kernel) (by decide +kernel)
theorem k_531 : (Jvm.Cond.static ({ cls := "java/util/Arrays", name := "copyOf", desc := "([II)[I" } : Jvm.MethodName)) ∈ x_T := x_at 531 (by decide +kernel) (by decide +kernel)
theorem k_532 : (Jvm.Cond.code ({ cls := "java/util/Arrays", name := "copyOf", desc := "([II)[I" } : Jvm.MethodName) prog_29_method_123_code (3 : Nat) (Option.some (Jvm.ClassFile.FieldType.array Jvm.ClassFile.FieldType.int))) ∈ x_T := x_at 532 (by decide +kernel) (by decide +kernel)
theorem k_533 : (Jvm.Cond.methodLink "java/util/Arrays" (316 : Nat) ({ cls := "[I", name := "clone", desc := "()Ljava/lang/Object;" } : Jvm.MethodName)) ∈ x_T := x_at 533 (by decide +kernel) (by decide +kernel)
theorem k_534 : (Jvm.Cond.sameMethod "[I" "java/lang/Object" "clone" "()Ljava/lang/Object;") ∈ x_T := x_at 534 (by decide +kernel) (by decide +kernel)
theorem k_535 : (Jvm.Cond.native ({ cls := "java/lang/Object", name := "clone", desc := "()Ljava/lang/Object;" } : Jvm.MethodName)) ∈ x_T := x_at 535 (by decide +kernel) (by decide +kernel)
theorem k_536 : (Jvm.Cond.instanceMethod ({ cls := "java/lang/Object", name := "clone", desc := "()Ljava/lang/Object;" } : Jvm.MethodName)) ∈ x_T := x_at 536 (by decide +kernel) (by decide +kernel)
theorem k_537 : (Jvm.Cond.selects "[I" ({ cls := "[I", name := "clone", desc := "()Ljava/lang/Object;" } : Jvm.MethodName) ({ cls := "java/lang/Object", name := "clone", desc := "()Ljava/lang/Object;" } : Jvm.MethodName)) ∈ x_T := x_at 537 (by decide +kernel) (by decide +kernel)
theorem k_539 : (Jvm.Cond.classLink "java/util/Arrays" (317 : Nat) "[I") ∈ x_T := x_at 539 (by decide +kernel) (by decide +kernel)
theorem kn_538 : (Jvm.Cond.castable "[I" "java/lang/Cloneable") ∈ x_nest := x_nest_at 538 (by decide +kernel) (by decide +kernel)
theorem d_Arrays_copyOfI_0 : decode prog_29_method_123_code 0 = .ok (.iload_n 1, 1) := by decide +kernel
theorem d_Arrays_copyOfI_1 : decode prog_29_method_123_code 1 = .ok (.aload_n 0, 1) := by decide +kernel
theorem d_Arrays_copyOfI_2 : decode prog_29_method_123_code 2 = .ok (.arraylength, 1) := by decide +kernel
theorem d_Arrays_copyOfI_3 : decode prog_29_method_123_code 3 = .ok (.if_icmp .ne 11, 3) := by decide +kernel
theorem d_Arrays_copyOfI_6 : decode prog_29_method_123_code 6 = .ok (.aload_n 0, 1) := by decide +kernel
theorem d_Arrays_copyOfI_7 : decode prog_29_method_123_code 7 = .ok (.invokevirtual 316, 3) := by decide +kernel
theorem d_Arrays_copyOfI_10 : decode prog_29_method_123_code 10 = .ok (.checkcast 317, 3) := by decide +kernel
theorem d_Arrays_copyOfI_13 : decode prog_29_method_123_code 13 = .ok (.areturn, 1) := by decide +kernel
theorem d_Arrays_copyOfI_14 : decode prog_29_method_123_code 14 = .ok (.iload_n 1, 1) := by decide +kernel
theorem d_Arrays_copyOfI_15 : decode prog_29_method_123_code 15 = .ok (.newarray .int, 2) := by decide +kernel
theorem d_Arrays_copyOfI_17 : decode prog_29_method_123_code 17 = .ok (.astore_n 2, 1) := by decide +kernel
theorem d_Arrays_copyOfI_18 : decode prog_29_method_123_code 18 = .ok (.aload_n 0, 1) := by decide +kernel
theorem d_Arrays_copyOfI_19 : decode prog_29_method_123_code 19 = .ok (.iconst 0, 1) := by decide +kernel
theorem d_Arrays_copyOfI_20 : decode prog_29_method_123_code 20 = .ok (.aload_n 2, 1) := by decide +kernel
theorem d_Arrays_copyOfI_21 : decode prog_29_method_123_code 21 = .ok (.iconst 0, 1) := by decide +kernel
theorem d_Arrays_copyOfI_22 : decode prog_29_method_123_code 22 = .ok (.aload_n 0, 1) := by decide +kernel
theorem d_Arrays_copyOfI_23 : decode prog_29_method_123_code 23 = .ok (.arraylength, 1) := by decide +kernel
theorem d_Arrays_copyOfI_24 : decode prog_29_method_123_code 24 = .ok (.iload_n 1, 1) := by decide +kernel
theorem d_Arrays_copyOfI_25 : decode prog_29_method_123_code 25 = .ok (.invokestatic 304, 3) := by decide +kernel
theorem d_Arrays_copyOfI_28 : decode prog_29_method_123_code 28 = .ok (.invokestatic 150, 3) := by decide +kernel
theorem d_Arrays_copyOfI_31 : decode prog_29_method_123_code 31 = .ok (.aload_n 2, 1) := by decide +kernel
theorem d_Arrays_copyOfI_32 : decode prog_29_method_123_code 32 = .ok (.areturn, 1) := by decide +kernel
theorem d_Reader_codeRead_0 : decode prog_8_method_25_code 0 = .ok (.aload_n 0, 1) := by decide +kernel
theorem d_Reader_codeRead_1 : decode prog_8_method_25_code 1 = .ok (.getfield 15, 3) := by decide +kernel
theorem d_Reader_codeRead_4 : decode prog_8_method_25_code 4 = .ok (.aload_n 0, 1) := by decide +kernel
theorem d_Reader_codeRead_5 : decode prog_8_method_25_code 5 = .ok (.getfield 23, 3) := by decide +kernel
theorem d_Reader_codeRead_8 : decode prog_8_method_25_code 8 = .ok (.invokestatic 218, 3) := by decide +kernel
theorem d_Reader_codeRead_11 : decode prog_8_method_25_code 11 = .ok (.areturn, 1) := by decide +kernel
theorem d_Reader_isAtEnd_0 : decode prog_8_method_4_code 0 = .ok (.aload_n 0, 1) := by decide +kernel
theorem d_Reader_isAtEnd_1 : decode prog_8_method_4_code 1 = .ok (.getfield 29, 3) := by decide +kernel
theorem d_Reader_isAtEnd_4 : decode prog_8_method_4_code 4 = .ok (.aload_n 0, 1) := by decide +kernel
theorem d_Reader_isAtEnd_5 : decode prog_8_method_4_code 5 = .ok (.getfield 19, 3) := by decide +kernel
theorem d_Reader_isAtEnd_8 : decode prog_8_method_4_code 8 = .ok (.if_icmp .eq 10, 3) := by decide +kernel
theorem d_Reader_isAtEnd_11 : decode prog_8_method_4_code 11 = .ok (.aload_n 0, 1) := by decide +kernel
theorem d_Reader_isAtEnd_12 : decode prog_8_method_4_code 12 = .ok (.invokevirtual 42, 3) := by decide +kernel
theorem d_Reader_isAtEnd_15 : decode prog_8_method_4_code 15 = .ok (.ifCond .eq 7, 3) := by decide +kernel
theorem d_Reader_isAtEnd_18 : decode prog_8_method_4_code 18 = .ok (.iconst 1, 1) := by decide +kernel
theorem d_Reader_isAtEnd_19 : decode prog_8_method_4_code 19 = .ok (.goto 4, 3) := by decide +kernel
theorem d_Reader_isAtEnd_22 : decode prog_8_method_4_code 22 = .ok (.iconst 0, 1) := by decide +kernel
theorem d_Reader_isAtEnd_23 : decode prog_8_method_4_code 23 = .ok (.ireturn, 1) := by decide +kernel
theorem d_Reader_isClosing_0 : decode prog_8_method_17_code 0 = .ok (.iload_n 0, 1) := by decide +kernel
theorem d_Reader_isClosing_1 : decode prog_8_method_17_code 1 = .ok (.bipush 41, 2) := by decide +kernel
theorem d_Reader_isClosing_3 : decode prog_8_method_17_code 3 = .ok (.if_icmp .eq 15, 3) := by decide +kernel
theorem d_Reader_isClosing_6 : decode prog_8_method_17_code 6 = .ok (.iload_n 0, 1) := by decide +kernel
theorem d_Reader_isClosing_7 : decode prog_8_method_17_code 7 = .ok (.bipush 125, 2) := by decide +kernel
theorem d_Reader_isClosing_9 : decode prog_8_method_17_code 9 = .ok (.if_icmp .eq 9, 3) := by decide +kernel
theorem d_Reader_isClosing_12 : decode prog_8_method_17_code 12 = .ok (.iload_n 0, 1) := by decide +kernel
theorem d_Reader_isClosing_13 : decode prog_8_method_17_code 13 = .ok (.bipush 93, 2) := by decide +kernel
theorem d_Reader_isClosing_15 : decode prog_8_method_17_code 15 = .ok (.if_icmp .ne 7, 3) := by decide +kernel
theorem d_Reader_isClosing_18 : decode prog_8_method_17_code 18 = .ok (.iconst 1, 1) := by decide +kernel
theorem d_Reader_isClosing_19 : decode prog_8_method_17_code 19 = .ok (.goto 4, 3) := by decide +kernel
theorem d_Reader_isClosing_22 : decode prog_8_method_17_code 22 = .ok (.iconst 0, 1) := by decide +kernel
theorem d_Reader_isClosing_23 : decode prog_8_method_17_code 23 = .ok (.ireturn, 1) := by decide +kernel
section YNW
variable {p : Program} {l : Launch} {e : Env} {R : Room} {s : State} {m : MethodId} {args : Array Value} {below : List Frame} {meth : Method} {c : Code} {H H0 : Heap} {locs : List Loc} {cells slots : Nat} {Q : State → Prop}
variable {cc : ByteArray} {pc : Nat} {ls : Array Slot} {rest : List Value} {dC : Nat → ClassId} {dI : Nat → Nat → Nat} {B : Nat → Prop}
variable {ad : Nat → Nat} {ar : Nat → ClassId} {I : Nat → Int32} {T : Int64} {A : Nat → Nat → Int32} {O : Nat → Option Nat} {pl : va_W}
theorem y_W3 {ad : Nat → Nat} {ar : Nat → ClassId} {I : Nat → Int32} {T : Int64} {A : Nat → Nat → Int32} {O : Nat → Option Nat} {pl : va_W} : (y_W ad ar I T A O pl)[3]? = some (ad 3, .inl (ar 0, 72, .inl (A 3))) := by
  rw [y_W_ar (by decide) (by decide) (by decide), if_neg (by decide)]
  try rfl
theorem d_newi (hx : p.tables.exec = Jvm.exec) (hb : c.code = cc) (hK : va_K (dC, dI) y_cl (y_tys ar) s) (hP : va_P (dC, dI) y_cl (y_W ad ar I T A O pl) H) (hD : va_D B (y_W ad ar I T A O pl)) (hS : va_S B H0 H locs) (hA : ∀ q, H0.size ≤ q → B q) (harr : (Cond.arrayClass .int).before args s = true) {N' : Nat} (hN : N' < 100000) (hcells : cells + 1 ≤ R.cells) (hslots : slots + N' ≤ R.slots) (hdg : decode cc pc = .ok (.newarray .int, 2))
    (kk : ∀ (a : Nat) (pl1 : va_W) (H1 : Heap), y_L pl a = none → y_L pl1 = y_Lu (y_L pl) a (.inl (ar 0, N', .inl (fun _ => 0))) → va_P (dC, dI) y_cl (y_W ad ar I T A O pl1) H1 → va_D B (y_W ad ar I T A O pl1) → va_S B H0 H1 locs → W p l e R s m args below meth c H1 locs (cells + 1) (slots + N') Q (F0 m (pc + 2) ls (.ref a :: rest))) : W p l e R s m args below meth c H locs cells slots Q (F0 m pc ls (.int (Int32.ofNat N') :: rest)) := by
  refine va_newa (atype := .int) hx hb harr (ty := .int) rfl hK hP hD hS hA (n := Int32.ofNat N') (N' := N') (a0 := (N', .inl (fun _ => 0))) (fun _ => rfl) (x_nneg (by omega)) (x_nat (by omega)) (Nat.le_trans (Nat.mul_le_mul_left _ (show componentBytes .int ≤ 8 by decide)) (by omega)) hcells hslots hdg (fun q cA H1 hK1 hP1 hD1 hS1 => ?_)
  obtain ⟨_, h1⟩ := hK1.2 (y_tys ar).length (cA, .int) (by simp)
  obtain ⟨_, h2⟩ := hK.2 0 _ rfl
  have e1 : cA = ar 0 := Option.some.inj (h1.symm.trans h2)
  subst e1
  rw [y_W_app] at hP1 hD1
  exact kk q _ H1 (y_L_fresh (y_D_ap hD1)) (y_L_app (y_D_ap hD1)) hP1 hD1 hS1
theorem d_clone (hx : p.tables.exec = Jvm.exec) (hb : c.code = cc) (hml : c.maxLocals = ls.size) (hK : va_K (dC, dI) y_cl (y_tys ar) s) (hP : va_P (dC, dI) y_cl (y_W ad ar I T A O pl) H) (hD : va_D B (y_W ad ar I T A O pl)) (hS : va_S B H0 H locs) (hA : ∀ q, H0.size ≤ q → B q) {own : String} {index : Nat} (hown : s.vm.findClass own = some m.cls)
    (hlink : (Cond.methodLink own index ⟨"[I", "clone", "()Ljava/lang/Object;"⟩).before args s = true) (hsame : (Cond.sameMethod "[I" "java/lang/Object" "clone" "()Ljava/lang/Object;").before args s = true)
    (hnat : (Cond.native ⟨"java/lang/Object", "clone", "()Ljava/lang/Object;"⟩).before args s = true) (hinst : (Cond.instanceMethod ⟨"java/lang/Object", "clone", "()Ljava/lang/Object;"⟩).before args s = true) (hsel : (Cond.selects "[I" ⟨"[I", "clone", "()Ljava/lang/Object;"⟩ ⟨"java/lang/Object", "clone", "()Ljava/lang/Object;"⟩).before args s = true) (hcl : va_Nw (.castable "[I" "java/lang/Cloneable") s)
    (hframes : 1 ≤ R.frames) (hlocals : (rest.map fun v => v.category).sum + 14 ≤ R.locals) (hcells : cells + 1 ≤ R.cells) (hslots : slots + 72 ≤ R.slots) (hdg : decode cc pc = .ok (.invokevirtual index, 3))
    (kk : ∀ (a : Nat) (pl1 : va_W) (H1 : Heap), y_L pl a = none → y_L pl1 = y_Lu (y_L pl) a (.inl (ar 0, 72, .inl (A 3))) → va_P (dC, dI) y_cl (y_W ad ar I T A O pl1) H1 → va_D B (y_W ad ar I T A O pl1) → va_S B H0 H1 locs → W p l e R s m args below meth c H1 locs (cells + 1) (slots + 72) Q (F0 m (pc + 3) ls (.ref a :: rest))) : W p l e R s m args below meth c H locs cells slots Q (F0 m pc ls (.ref (ad 3) :: rest)) := by
  obtain ⟨_, h2⟩ := hK.2 0 _ rfl
  refine va_clone hx hb hml hown hlink hsame hnat hinst hsel hcl hK hP hD hS hA 3 0 (ty := .int) y_W3 rfl (va_nm_int h2) (fun i v hv => ?_) hframes hlocals hcells hslots hdg (fun q H1 hK1 hP1 hD1 hS1 => ?_)
  · exact va_fit (cA := ar 0) (n := 72) (F := fun j => .int (A 3 j)) (ty := .int) (fun _ _ => rfl) i v hv
  · rw [y_W_app] at hP1 hD1
    exact kk q _ H1 (y_L_fresh (y_D_ap hD1)) (y_L_app (y_D_ap hD1)) hP1 hD1 hS1
theorem d_casta (hx : p.tables.exec = Jvm.exec) (hb : c.code = cc) (hK : va_K (dC, dI) y_cl (y_tys ar) s) (hP : va_P (dC, dI) y_cl (y_W ad ar I T A O pl) H) {own : String} {index : Nat} (hown : s.vm.findClass own = some m.cls) (hlink : (Cond.classLink own index "[I").before args s = true) {a n : Nat} {h : Nat → Int32} (hf : y_L pl a = some (.inl (ar 0, n, .inl h))) (hdg : decode cc pc = .ok (.checkcast index, 3))
    (kk : W p l e R s m args below meth c H locs cells slots Q (F0 m (pc + 3) ls (.ref a :: rest))) : W p l e R s m args below meth c H locs cells slots Q (F0 m pc ls (.ref a :: rest)) := by
  obtain ⟨q, hq⟩ := y_L_at hf
  obtain ⟨_, h2⟩ := hK.2 0 _ rfl
  exact va_castA hx hb hown hlink hP (20 + q) (by rw [y_W_pl]; exact hq) (va_nm_int h2) hdg kk
theorem d_cpy3 (hx : p.tables.exec = Jvm.exec) (hb : c.code = cc) (hml : c.maxLocals = ls.size) (hK : va_K (dC, dI) y_cl (y_tys ar) s) (hP : va_P (dC, dI) y_cl (y_W ad ar I T A O pl) H) (hD : va_D B (y_W ad ar I T A O pl)) (hS : va_S B H0 H locs) {own : String} {index : Nat} (hown : s.vm.findClass own = some m.cls) (hlink : (Cond.methodLink own index arraycopyName).before args s = true) (hnat : (Cond.native arraycopyName).before args s = true) (hstat : (Cond.static arraycopyName).before args s = true) (hini : (Cond.initialized "java/lang/System").before args s = true)
    {a n1 n : Nat} {g : Nat → Int32} (hf : y_L pl a = some (.inl (ar 0, n1, .inl g))) (hn : n ≤ 72) (hn1 : n ≤ n1) (hframes : 1 ≤ R.frames) (hlocals : (rest.map fun v => v.category).sum + (nativeFrameWords "java/lang/System" "arraycopy" 5 + 11) ≤ R.locals) (hdg : decode cc pc = .ok (.invokestatic index, 3))
    (kk : ∀ (pl1 : va_W) (H1 : Heap) (locs1 : List Loc), y_L pl1 = y_Lu (y_L pl) a (.inl (ar 0, n1, .inl (va_cpy (A 3) g 0 0 n))) → va_P (dC, dI) y_cl (y_W ad ar I T A O pl1) H1 → va_D B (y_W ad ar I T A O pl1) → va_S B H0 H1 locs1 → W p l e R s m args below meth c H1 locs1 cells slots Q (F0 m (pc + 3) ls rest)) : W p l e R s m args below meth c H locs cells slots Q (F0 m pc ls (.int (Int32.ofNat n) :: .int (Int32.ofNat 0) :: .ref a :: .int (Int32.ofNat 0) :: .ref (ad 3) :: rest)) := by
  obtain ⟨q, hq⟩ := y_L_at hf
  have e1 : (Int32.ofNat 0).toNatClampNeg = 0 := x_nat (by omega)
  have e3 : (Int32.ofNat n).toNatClampNeg = n := x_nat (by omega)
  refine va_copyi hx hb hml hown hlink hnat hstat hini hK hP hD hS 3 (20 + q) 0 0 (c0 := ar 0) (c1 := ar 0) (ty := .int) y_W3 (by rw [y_W_pl]; exact hq) rfl rfl rfl (x_nneg (by omega)) (x_nneg (by omega)) (x_nneg (by omega)) (by rw [e1, e3]; omega) (by rw [e1, e3]; omega) (fun _ _ => rfl) hframes hlocals hdg (fun H1 locs1 hP1 hD1 hS1 => ?_)
  rw [e1, e3] at hP1 hD1
  exact kk _ H1 locs1 (y_L_set (y_D_ap hD) hq) (by rw [y_W_setp] at hP1; exact hP1) (by rw [y_W_setp] at hD1; exact hD1) hS1
end YNW
theorem y_min2 {a b : Nat} (h : b ≤ a) (hb : a < 2147483648) : (if Int32.ofNat b < Int32.ofNat a then Int32.ofNat b else Int32.ofNat a) = Int32.ofNat b := by
  by_cases e : b = a
  · subst e; rw [if_neg (fun h9 => absurd ((x_ltN (by omega) (by omega)).mp h9) (by omega))]
  · rw [if_pos ((x_ltN (by omega) (by omega)).mpr (by omega))]
theorem y_cpyi {g h : Nat → Int32} {n j : Nat} (hj : j < n) : va_cpy g h 0 0 n j = g j := by unfold va_cpy; rw [if_pos ⟨by omega, by omega⟩]; congr 1; omega
set_option maxHeartbeats 4000000 in
set_option maxRecDepth 100000 in
theorem c_cpI (l : Launch) (dC : Nat → ClassId) (dI : Nat → Nat → Nat) (ar : Nat → ClassId) (N0 : Nat) (z : Nat → Nat) (ad : Nat → Nat) (I : Nat → Int32) (T : Int64) (A : Nat → Nat → Int32) (O : Nat → Option Nat) (pl : va_W) (cl : Nat) (sz w0 : Nat) (hcl : cl ≤ 72) : Met l ({ cls := "java/util/Arrays", name := "copyOf", desc := "([II)[I" } : Jvm.MethodName) ((Jvm.Cond.code ({ cls := "java/util/Arrays", name := "copyOf", desc := "([II)[I" } : Jvm.MethodName) prog_29_method_123_code (3 : Nat) (Option.some (Jvm.ClassFile.FieldType.array Jvm.ClassFile.FieldType.int))) :: x_T) ({ frames := 1, cells := 1, slots := cl, locals := 60 }) (y_Pc (dC, dI) ar N0 z (y_W ad ar I T A O pl) sz w0 [.ref (ad 3), .int (Int32.ofNat cl)]) (va_Qq (fun (r : Option Nat) (u : (Nat → Int32) × Int64 × (Nat → Nat → Int32) × (Nat → Option Nat) × va_W × (Nat × Nat × Nat × Nat)) => (∃ (q1 : Nat) (h1 : Nat → Int32), r = some q1 ∧ y_L pl q1 = none ∧ u.1 = I ∧ u.2.1 = T ∧ u.2.2.1 = A ∧ u.2.2.2.1 = O ∧ y_L u.2.2.2.2.1 = y_Lu (y_L pl) q1 (.inl (ar 0, cl, .inl h1)) ∧ ∀ i, i < cl → h1 i = A 3 i)) (fun u t => va_P (dC, dI) y_cl (y_W ad ar u.1 u.2.1 u.2.2.1 u.2.2.2.1 u.2.2.2.2.1) t.heap ∧ va_D (va_A (y_W ad ar I T A O pl) sz) (y_W ad ar u.1 u.2.1 u.2.2.1 u.2.2.2.1 u.2.2.2.2.1) ∧ t.heap.size ≤ sz + 1 ∧ y_hs t.heap ≤ w0 + cl) (va_A (y_W ad ar I T A O pl) sz)) (1) (cl) (va_A (y_W ad ar I T A O pl) sz) := by
  refine Met.ofW (cc := prog_29_method_123_code) (maxL := 3) (ret := (some (.array .int))) (by decide) rfl ?_
  intro p e s m args below meth c s₁ B hml hv
  obtain ⟨rfl, hsz, hN0, hP, hU, hZ, hD0, hw0⟩ := hv
  have hK := hU.2.1
  have hx := B.exec
  have hb := B.bytes
  have hr := B.returns
  have hts : ∀ w ∈ x_T, w.before ([.ref (ad 3), .int (Int32.ofNat cl)] : List Value).toArray s = true := fun w h => atoms_spec (ws := (Jvm.Cond.code ({ cls := "java/util/Arrays", name := "copyOf", desc := "([II)[I" } : Jvm.MethodName) prog_29_method_123_code (3 : Nat) (Option.some (Jvm.ClassFile.FieldType.array Jvm.ClassFile.FieldType.int))) :: x_T) B.pre w (List.mem_cons_of_mem _ h)
  have hown : s.vm.findClass "java/util/Arrays" = some m.cls := findClass_of_methodNamed B.named
  have hlocks := B.notSynchronized
  subst hsz
  subst hw0
  have hD := hD0.self (sz := s.heap.size)
  have hAN := x_AN hD0 hN0
  generalize hAe : va_A (y_W ad ar I T A O pl) s.heap.size = Bq at hD hAN ⊢
  have hA : ∀ q : Nat, s.heap.size ≤ q → Bq q := fun q h => by rw [← hAe]; exact Or.inr h
  have hS : va_S Bq s.heap s.heap [] := va_S.rf
  have hl := lv_entry ([.ref (ad 3), .int (Int32.ofNat cl)]) (n := 3) (Nat.le_of_ble_eq_true rfl)
  rw [lg_entry_eq]
  generalize (lg_sl ([.ref (ad 3), .int (Int32.ofNat cl)]) ++ List.replicate (3 - (lg_sl ([.ref (ad 3), .int (Int32.ofNat cl)])).length) Slot.unset).toArray = ls at hl ⊢
  have hl : lv_has ls 3 [(0, .ref (ad 3)), (1, .int (Int32.ofNat cl))] := hl
  refine lv_iload_n hx hb d_Arrays_copyOfI_0 rfl (lv_at hl 1 rfl) ?_
  refine lv_aload_n hx hb d_Arrays_copyOfI_1 rfl (lv_at hl 0 rfl) ?_
  refine va_alen hx hb hK hP 3 0 y_W3 rfl rfl d_Arrays_copyOfI_2 ?_
  refine lv_icmp_ne (tgt := 14) hx hb d_Arrays_copyOfI_3 (by decide) (fun c_1 => ?_) (fun c_1 => ?_)
  · have c_1 : ¬ cl = 72 := fun h9 => c_1 ((x_eqN (a := cl) (b := 72) (by omega) (by omega)).mpr h9)
    refine lv_iload_n hx hb d_Arrays_copyOfI_14 rfl (lv_at hl 1 rfl) ?_
    refine d_newi hx hb hK hP hD hS hA (hts _ k_76) (N' := cl) (by omega) (by show 0 + 1 ≤ 1; omega) (by show 0 + cl ≤ cl; omega) d_Arrays_copyOfI_15 (fun q1 pl1 H hno hL1 hP hD hS => ?_)
    refine W.widen (k := 1) (n := cl) (by omega) (by omega) ?_
    have hf1 : y_L pl1 q1 = some (.inl (ar 0, cl, .inl (fun _ => 0))) := by rw [hL1]; exact y_Lu_s
    refine lv_astore_n (lv' := [(2, .ref q1), (0, .ref (ad 3)), (1, .int (Int32.ofNat cl))]) hx hb d_Arrays_copyOfI_17 rfl hl (by decide) rfl (fun ls hl => ?_)
    refine lv_aload_n hx hb d_Arrays_copyOfI_18 rfl (lv_at hl 1 rfl) ?_
    refine lv_iconst (v := 0) hx hb d_Arrays_copyOfI_19 (by decide) ?_
    refine W.eq (g2 := F0 m 20 ls [.int (Int32.ofNat 0), .ref (ad 3)]) rfl ?_
    refine lv_aload_n hx hb d_Arrays_copyOfI_20 rfl (lv_at hl 0 rfl) ?_
    refine lv_iconst (v := 0) hx hb d_Arrays_copyOfI_21 (by decide) ?_
    refine W.eq (g2 := F0 m 22 ls [.int (Int32.ofNat 0), .ref q1, .int (Int32.ofNat 0), .ref (ad 3)]) rfl ?_
    refine lv_aload_n hx hb d_Arrays_copyOfI_22 rfl (lv_at hl 1 rfl) ?_
    refine va_alen hx hb hK hP 3 0 y_W3 rfl rfl d_Arrays_copyOfI_23 ?_
    refine lv_iload_n hx hb d_Arrays_copyOfI_24 rfl (lv_at hl 2 rfl) ?_
    refine va_mmin hx hb (by rw [hml]; exact hl.1.symm) hown (hts _ k_540) (hts _ k_541) (hts _ k_19) (hts _ k_542) (Nat.le_of_ble_eq_true rfl) (Nat.le_of_ble_eq_true rfl) (by show 1 ≤ 1; omega) (by show cl ≤ cl; omega) d_Arrays_copyOfI_25 ?_
    refine W.eq (g2 := F0 m 28 ls [.int (Int32.ofNat cl), .int (Int32.ofNat 0), .ref q1, .int (Int32.ofNat 0), .ref (ad 3)]) (by rw [y_min2 (by omega) (by omega)]) ?_
    refine d_cpy3 hx hb (by rw [hml]; exact hl.1.symm) hK hP hD hS hown (hts _ k_543) (hts _ k_545) (hts _ k_544) (hts _ k_22) (n := cl) hf1 (by omega) (Nat.le_refl _) (Nat.le_of_ble_eq_true rfl) (Nat.le_of_ble_eq_true rfl) d_Arrays_copyOfI_28 (fun pl2 H locs hL2 hP hD hS => ?_)
    have hL : y_L pl2 = y_Lu (y_L pl) q1 (.inl (ar 0, cl, .inl (va_cpy (A 3) (fun _ => 0) 0 0 cl))) := by rw [hL2, hL1, y_Lu_uu]
    refine lv_aload_n hx hb d_Arrays_copyOfI_31 rfl (lv_at hl 0 rfl) ?_
    refine y_know (fun hy91 hy92 hy93 hy94 => ?_)
    have hac9 : H.size ≤ s.heap.size + 1 ∧ y_hs H ≤ y_hs s.heap + cl := ⟨by omega, by omega⟩
    refine W.widen (k := 1) (n := cl) (by omega) (by omega) ?_
    exact W.aret (v := .ref q1) hx hb hr (Or.inr ⟨_, rfl⟩) (Or.inr ⟨_, rfl⟩) (fun t ht hW => ⟨⟨(some q1), (I, T, A, O, pl2, (0, 0, 0, 0)), rfl, ⟨q1, va_cpy (A 3) (fun _ => 0) 0 0 cl, rfl, hno, rfl, rfl, rfl, rfl, hL, fun i hi => y_cpyi hi⟩, (by dsimp only; rw [ht]; exact ⟨hP, hD, hac9⟩)⟩, hS.F ht⟩) hS.2.2 d_Arrays_copyOfI_32
  · have c_1 : cl = 72 := (x_eqN (a := cl) (b := 72) (by omega) (by omega)).mp c_1
    refine lv_aload_n hx hb d_Arrays_copyOfI_6 rfl (lv_at hl 0 rfl) ?_
    have hc72 : cl = 72 := by omega
    refine d_clone hx hb (by rw [hml]; exact hl.1.symm) hK hP hD hS hA hown (hts _ k_533) (hts _ k_534) (hts _ k_535) (hts _ k_536) (hts _ k_537) (va_Nw.use rfl (hU.1.2.1 _ kn_538)) (Nat.le_of_ble_eq_true rfl) (Nat.le_of_ble_eq_true rfl) (by show 0 + 1 ≤ 1; omega) (by show 0 + 72 ≤ cl; omega) d_Arrays_copyOfI_7 (fun q1 pl1 H hno hL hP hD hS => ?_)
    refine W.widen (k := 1) (n := 72) (by omega) (by omega) ?_
    have hf1 : y_L pl1 q1 = some (.inl (ar 0, 72, .inl (A 3))) := by rw [hL]; exact y_Lu_s
    refine d_casta hx hb hK hP hown (hts _ k_539) hf1 d_Arrays_copyOfI_10 ?_
    refine y_know (fun hy91 hy92 hy93 hy94 => ?_)
    have hac9 : H.size ≤ s.heap.size + 1 ∧ y_hs H ≤ y_hs s.heap + cl := ⟨by omega, by omega⟩
    refine W.widen (k := 1) (n := cl) (by omega) (by omega) ?_
    exact W.aret (v := .ref q1) hx hb hr (Or.inr ⟨_, rfl⟩) (Or.inr ⟨_, rfl⟩) (fun t ht hW => ⟨⟨(some q1), (I, T, A, O, pl1, (0, 0, 0, 0)), rfl, ⟨q1, A 3, rfl, hno, rfl, rfl, rfl, rfl, (by rw [hc72]; exact hL), fun _ _ => rfl⟩, (by dsimp only; rw [ht]; exact ⟨hP, hD, hac9⟩)⟩, hS.F ht⟩) hS.2.2 d_Arrays_copyOfI_13
set_option maxHeartbeats 4000000 in
set_option maxRecDepth 100000 in
theorem c_Rd_codeRead (l : Launch) (dC : Nat → ClassId) (dI : Nat → Nat → Nat) (ar : Nat → ClassId) (N0 : Nat) (z : Nat → Nat) (ad : Nat → Nat) (I : Nat → Int32) (T : Int64) (A : Nat → Nat → Int32) (O : Nat → Option Nat) (pl : va_W) (ln cl lm aa : Nat) (sz w0 : Nat) (hmi : y_RD I A (ln, cl, lm, aa)) (hcl : cl ≤ 72) : Met l ({ cls := "ChannelMachine$Reader", name := "codeRead", desc := "()[I" } : Jvm.MethodName) ((Jvm.Cond.code ({ cls := "ChannelMachine$Reader", name := "codeRead", desc := "()[I" } : Jvm.MethodName) prog_8_method_25_code (1 : Nat) (Option.some (Jvm.ClassFile.FieldType.array Jvm.ClassFile.FieldType.int))) :: x_T) ({ frames := 2, cells := 1, slots := cl, locals := 82 }) (y_Pc (dC, dI) ar N0 z (y_W ad ar I T A O pl) sz w0 [.ref (ad 1)]) (va_Qq (fun (r : Option Nat) (u : (Nat → Int32) × Int64 × (Nat → Nat → Int32) × (Nat → Option Nat) × va_W × (Nat × Nat × Nat × Nat)) => (∃ (q1 : Nat) (h1 : Nat → Int32), r = some q1 ∧ y_L pl q1 = none ∧ u.1 = I ∧ u.2.1 = T ∧ u.2.2.1 = A ∧ u.2.2.2.1 = O ∧ y_L u.2.2.2.2.1 = y_Lu (y_L pl) q1 (.inl (ar 0, cl, .inl h1)) ∧ ∀ i, i < cl → h1 i = A 3 i)) (fun u t => va_P (dC, dI) y_cl (y_W ad ar u.1 u.2.1 u.2.2.1 u.2.2.2.1 u.2.2.2.2.1) t.heap ∧ va_D (va_A (y_W ad ar I T A O pl) sz) (y_W ad ar u.1 u.2.1 u.2.2.1 u.2.2.2.1 u.2.2.2.2.1) ∧ t.heap.size ≤ sz + 1 ∧ y_hs t.heap ≤ w0 + cl) (va_A (y_W ad ar I T A O pl) sz)) (1) (cl) (va_A (y_W ad ar I T A O pl) sz) := by
  refine Met.ofW (cc := prog_8_method_25_code) (maxL := 1) (ret := (some (.array .int))) (by decide) rfl ?_
  intro p e s m args below meth c s₁ B hml hv
  obtain ⟨rfl, hsz, hN0, hP, hU, hZ, hD0, hw0⟩ := hv
  have hK := hU.2.1
  have hx := B.exec
  have hb := B.bytes
  have hr := B.returns
  have hts : ∀ w ∈ x_T, w.before ([.ref (ad 1)] : List Value).toArray s = true := fun w h => atoms_spec (ws := (Jvm.Cond.code ({ cls := "ChannelMachine$Reader", name := "codeRead", desc := "()[I" } : Jvm.MethodName) prog_8_method_25_code (1 : Nat) (Option.some (Jvm.ClassFile.FieldType.array Jvm.ClassFile.FieldType.int))) :: x_T) B.pre w (List.mem_cons_of_mem _ h)
  have hown : s.vm.findClass "ChannelMachine$Reader" = some m.cls := findClass_of_methodNamed B.named
  have hlocks := B.notSynchronized
  subst hsz
  subst hw0
  have hD := hD0.self (sz := s.heap.size)
  have hAN := x_AN hD0 hN0
  generalize hAe : va_A (y_W ad ar I T A O pl) s.heap.size = Bq at hD hAN ⊢
  have hA : ∀ q : Nat, s.heap.size ≤ q → Bq q := fun q h => by rw [← hAe]; exact Or.inr h
  have hS : va_S Bq s.heap s.heap [] := va_S.rf
  have hl := lv_entry ([.ref (ad 1)]) (n := 1) (Nat.le_of_ble_eq_true rfl)
  rw [lg_entry_eq]
  generalize (lg_sl ([.ref (ad 1)]) ++ List.replicate (1 - (lg_sl ([.ref (ad 1)])).length) Slot.unset).toArray = ls at hl ⊢
  have hl : lv_has ls 1 [(0, .ref (ad 1))] := hl
  have hbn := hmi.2.1
  dsimp only at hbn
  refine lv_aload_n hx hb d_Reader_codeRead_0 rfl (lv_at hl 0 rfl) ?_
  refine k_g (C := "ChannelMachine$Reader") (F := F_Reader) (N := 9) hx hb hts i_Reader hown hK hP 1 1 (by decide) (by decide) rfl (by decide) (d := (0, 3)) rfl (hts _ k_44) (fun _ h9 => h9) (v := .ref (ad 3)) rfl d_Reader_codeRead_1 ?_
  refine lv_aload_n hx hb d_Reader_codeRead_4 rfl (lv_at hl 0 rfl) ?_
  refine k_g (C := "ChannelMachine$Reader") (F := F_Reader) (N := 9) hx hb hts i_Reader hown hK hP 1 3 (by decide) (by decide) rfl (by decide) (d := (1, 2)) rfl (hts _ k_47) (fun _ h9 => h9) (v := .int (Int32.ofNat cl)) (congrArg Value.int (y_RD.c2 hmi (by omega))) d_Reader_codeRead_5 ?_
  refine y_know (fun hya1 hya2 hya3 hya4 => ?_)
  have hFc := y_free hD hS hA
  refine va_callq (va_runS (As := [.ref (ad 3), .int (Int32.ofNat cl)]) (rest := []) ⟨hx, hb, hml, hown, hts⟩ (c_cpI l dC dI ar N0 z ad I T A O pl cl s.heap.size (y_hs s.heap) (by omega)) (va_cwS 2 hts (x_goodSW k_530 k_531 k_21 k_532) rfl rfl rfl (by decide +kernel) ⟨Nat.le_of_ble_eq_true rfl, Nat.le_of_ble_eq_true rfl⟩) ⟨y_blind, fun U9 hU9 hW9 => y_pre hU9 hW9 hP hD hU hZ hS hAN hN0⟩ rfl rfl hl.1 rfl (lv_room (Nat.le_of_ble_eq_true rfl)) d_Reader_codeRead_8 ⟨(by show 0 + (1) ≤ 1; omega), (by show 0 + (cl) ≤ cl; omega)⟩) hS (fun q _ h => hFc q h) hFc (fun r_1 u t H1 locs ht hvm hw hB hz1 hk1 hS => ?_)
  obtain ⟨I2, T2, A2, O2, pl2, q2, s2, cq2, cs2⟩ := u
  dsimp only at hw hB
  rw [ht] at hB
  obtain ⟨hP, hD1, hac2⟩ := hB
  have hD : va_D Bq (y_W ad ar I2 T2 A2 O2 pl2) := hD1.weaken (fun _ q _ h => hFc q.1 h)
  generalize H1 = H at hP hS hac2 ⊢
  have hae2 := hac2
  try unfold y_ac at hae2
  try dsimp only at hae2
  obtain ⟨q2, h12, rfl, hno2, e1, e2, e3, e4, hL2, hcp2⟩ := hw
  rw [e1, e2, e3, e4] at hP hD
  refine W.eq (g2 := F0 m 11 ls [.ref q2]) rfl ?_
  have hP : va_P (dC, dI) y_cl (y_W ad ar I T A O pl2) H := hP
  have hD : va_D Bq (y_W ad ar I T A O pl2) := hD
  refine y_know (fun hy91 hy92 hy93 hy94 => ?_)
  have hac9 : H.size ≤ s.heap.size + 1 ∧ y_hs H ≤ y_hs s.heap + cl := ⟨by omega, by omega⟩
  refine W.widen (k := 1) (n := cl) (by omega) (by omega) ?_
  exact W.aret (v := .ref q2) hx hb hr (Or.inr ⟨_, rfl⟩) (Or.inr ⟨_, rfl⟩) (fun t ht hW => ⟨⟨(some q2), (I, T, A, O, pl2, (0, 0, 0, 0)), rfl, ⟨q2, h12, rfl, hno2, rfl, rfl, rfl, rfl, hL2, hcp2⟩, (by dsimp only; rw [ht]; exact ⟨hP, hD, hac9⟩)⟩, hS.F ht⟩) hS.2.2 d_Reader_codeRead_11
set_option maxHeartbeats 4000000 in
set_option maxRecDepth 100000 in
theorem c_Rd_isAtEnd (l : Launch) (dC : Nat → ClassId) (dI : Nat → Nat → Nat) (ar : Nat → ClassId) (N0 : Nat) (z : Nat → Nat) (ad : Nat → Nat) (I : Nat → Int32) (T : Int64) (A : Nat → Nat → Int32) (O : Nat → Option Nat) (pl : va_W) (ln cl lm aa : Nat) (sz w0 : Nat) (hmi : y_RD I A (ln, cl, lm, aa))  : Met l ({ cls := "ChannelMachine$Reader", name := "isAtEnd", desc := "()Z" } : Jvm.MethodName) ((Jvm.Cond.code ({ cls := "ChannelMachine$Reader", name := "isAtEnd", desc := "()Z" } : Jvm.MethodName) prog_8_method_4_code (1 : Nat) (Option.some Jvm.ClassFile.FieldType.boolean)) :: x_T) ({ frames := 2, cells := 0, slots := 0, locals := 35 }) (y_Pc (dC, dI) ar N0 z (y_W ad ar I T A O pl) sz w0 [.ref (ad 1)]) (va_Qi (fun (r : Int32) (u : (Nat → Int32) × Int64 × (Nat → Nat → Int32) × (Nat → Option Nat) × va_W × (Nat × Nat × Nat × Nat)) => y_RD u.1 u.2.2.1 u.2.2.2.2.2 ∧ u.2.1 = T ∧ u.2.2.2.1 = O ∧ u.2.2.2.2.1 = pl ∧ m_fr [5] I u.1 ∧ u.2.2.2.2.2.1 = ln ∧ u.2.2.2.2.2.2.2.1 = lm ∧ aa ≤ u.2.2.2.2.2.2.2.2 ∧ (u.2.2.2.2.2.2.1 ≤ 72 ∨ 72 < cl) ∧ (r = 0 ∨ r = 1)) (fun u t => va_P (dC, dI) y_cl (y_W ad ar u.1 u.2.1 u.2.2.1 u.2.2.2.1 u.2.2.2.2.1) t.heap ∧ va_D (va_A (y_W ad ar I T A O pl) sz) (y_W ad ar u.1 u.2.1 u.2.2.1 u.2.2.2.1 u.2.2.2.2.1) ∧ True) (va_A (y_W ad ar I T A O pl) sz)) (0) (0) (va_A (y_W ad ar I T A O pl) sz) := by
  refine Met.ofW (cc := prog_8_method_4_code) (maxL := 1) (ret := (some .boolean)) (by decide) rfl ?_
  intro p e s m args below meth c s₁ B hml hv
  obtain ⟨rfl, hsz, hN0, hP, hU, hZ, hD0, hw0⟩ := hv
  have hK := hU.2.1
  have hx := B.exec
  have hb := B.bytes
  have hr := B.returns
  have hts : ∀ w ∈ x_T, w.before ([.ref (ad 1)] : List Value).toArray s = true := fun w h => atoms_spec (ws := (Jvm.Cond.code ({ cls := "ChannelMachine$Reader", name := "isAtEnd", desc := "()Z" } : Jvm.MethodName) prog_8_method_4_code (1 : Nat) (Option.some Jvm.ClassFile.FieldType.boolean)) :: x_T) B.pre w (List.mem_cons_of_mem _ h)
  have hown : s.vm.findClass "ChannelMachine$Reader" = some m.cls := findClass_of_methodNamed B.named
  have hlocks := B.notSynchronized
  subst hsz
  subst hw0
  have hD := hD0.self (sz := s.heap.size)
  have hAN := x_AN hD0 hN0
  generalize hAe : va_A (y_W ad ar I T A O pl) s.heap.size = Bq at hD hAN ⊢
  have hA : ∀ q : Nat, s.heap.size ≤ q → Bq q := fun q h => by rw [← hAe]; exact Or.inr h
  have hS : va_S Bq s.heap s.heap [] := va_S.rf
  have hl := lv_entry ([.ref (ad 1)]) (n := 1) (Nat.le_of_ble_eq_true rfl)
  rw [lg_entry_eq]
  generalize (lg_sl ([.ref (ad 1)]) ++ List.replicate (1 - (lg_sl ([.ref (ad 1)])).length) Slot.unset).toArray = ls at hl ⊢
  have hl : lv_has ls 1 [(0, .ref (ad 1))] := hl
  have hbn := hmi.2.1
  dsimp only at hbn
  refine lv_aload_n hx hb d_Reader_isAtEnd_0 rfl (lv_at hl 0 rfl) ?_
  refine k_g (C := "ChannelMachine$Reader") (F := F_Reader) (N := 9) hx hb hts i_Reader hown hK hP 1 5 (by decide) (by decide) rfl (by decide) (d := (1, 4)) rfl (hts _ k_49) (fun _ h9 => h9) (v := .int (Int32.ofNat aa)) (congrArg Value.int hmi.1.2.2.2) d_Reader_isAtEnd_1 ?_
  refine lv_aload_n hx hb d_Reader_isAtEnd_4 rfl (lv_at hl 0 rfl) ?_
  refine k_g (C := "ChannelMachine$Reader") (F := F_Reader) (N := 9) hx hb hts i_Reader hown hK hP 1 2 (by decide) (by decide) rfl (by decide) (d := (1, 1)) rfl (hts _ k_45) (fun _ h9 => h9) (v := .int (Int32.ofNat ln)) (congrArg Value.int hmi.1.1) d_Reader_isAtEnd_5 ?_
  refine lv_icmp_eq (tgt := 18) hx hb d_Reader_isAtEnd_8 (by decide) (fun c_1 => ?_) (fun c_1 => ?_)
  · have c_1 : aa = ln := (x_eqN (a := aa) (b := ln) (by omega) (by omega)).mp c_1
    refine lv_iconst (v := 1) hx hb d_Reader_isAtEnd_18 (by decide) ?_
    refine lv_goto (tgt := 23) hx hb d_Reader_isAtEnd_19 (by decide) ?_
    refine y_know (fun hy91 hy92 hy93 hy94 => ?_)
    have hac9 : True := trivial
    refine W.widen (k := 0) (n := 0) (by omega) (by omega) ?_
    exact W.zret (v := 1) hx hb hr (rfl) (fun t ht hW => ⟨⟨1, (I, T, A, O, pl, (ln, cl, lm, aa)), rfl, ⟨hmi, rfl, rfl, rfl, m_fr.rf, rfl, rfl, by dsimp only; omega, by dsimp only; omega, Or.inr rfl⟩, (by dsimp only; rw [ht]; exact ⟨hP, hD, hac9⟩)⟩, hS.F ht⟩) hS.2.2 d_Reader_isAtEnd_23
  · have c_1 : ¬ aa = ln := fun h9 => c_1 ((x_eqN (a := aa) (b := ln) (by omega) (by omega)).mpr h9)
    refine lv_aload_n hx hb d_Reader_isAtEnd_11 rfl (lv_at hl 0 rfl) ?_
    have hFc := y_free hD hS hA
    refine va_calli (va_runV (As := []) (rest := []) ⟨hx, hb, hml, hown, hts⟩ (c_Rd_refuse l dC dI ar N0 z ad I T A O pl ln cl lm aa s.heap.size (y_hs s.heap) hmi) (cwV 0 hts (x_goodV k_477 k_479 kp_6 k_2 k_480) rfl rfl rfl (by decide +kernel) ⟨Nat.le_of_ble_eq_true rfl, Nat.le_of_ble_eq_true rfl⟩) ⟨y_blind, va_recv hK hP (ci := 3) (q0 := 1) rfl (y_W_ob (by decide) (by decide)), fun U9 hU9 hW9 => y_pre hU9 hW9 hP hD hU hZ hS hAN hN0⟩ rfl rfl hl.1 rfl (lv_room (Nat.le_of_ble_eq_true rfl)) d_Reader_isAtEnd_12 ⟨(by show 0 + (0) ≤ 0; omega), (by show 0 + (0) ≤ 0; omega)⟩) hS (fun q _ h => hFc q h) hFc (fun r_2 u t H1 locs ht hvm hw hB hz1 hk1 hS => ?_)
    obtain ⟨I3, T3, A3, O3, pl3, q3, s3, cq3, cs3⟩ := u
    dsimp only at hw hB
    rw [ht] at hB
    obtain ⟨hP, hD1, hac3⟩ := hB
    have hD : va_D Bq (y_W ad ar I3 T3 A3 O3 pl3) := hD1.weaken (fun _ q _ h => hFc q.1 h)
    generalize H1 = H at hP hS hac3 ⊢
    have hae3 := hac3
    try unfold y_ac at hae3
    try dsimp only at hae3
    refine W.widen (k := 0) (n := 0) (by omega) (by omega) ?_
    obtain ⟨hmi, e2, e4, e5, fr3, e6, e7, hge3, hcc3, hr9⟩ := hw
    rw [e2, e4, e5] at hP hD
    rw [e6, e7] at hmi
    have hP : va_P (dC, dI) y_cl (y_W ad ar I3 T A3 O pl) H := hP
    have hD : va_D Bq (y_W ad ar I3 T A3 O pl) := hD
    have hbn := hmi.2.1
    dsimp only at hbn
    obtain rfl := hr9
    refine lv_if_eq (tgt := 22) hx hb d_Reader_isAtEnd_15 (by decide) (fun _ => ?_) (fun c4 => absurd (by decide) c4)
    refine lv_iconst (v := 0) hx hb d_Reader_isAtEnd_22 (by decide) ?_
    refine y_know (fun hy91 hy92 hy93 hy94 => ?_)
    have hac9 : True := trivial
    refine W.widen (k := 0) (n := 0) (by omega) (by omega) ?_
    exact W.zret (v := 0) hx hb hr (rfl) (fun t ht hW => ⟨⟨0, (I3, T, A3, O, pl, (ln, s3, lm, cs3)), rfl, ⟨hmi, rfl, rfl, rfl, (m_fr.rf.tr fr3 (by decide)), rfl, rfl, by dsimp only; omega, by dsimp only; omega, Or.inl rfl⟩, (by dsimp only; rw [ht]; exact ⟨hP, hD, hac9⟩)⟩, hS.F ht⟩) hS.2.2 d_Reader_isAtEnd_23
set_option maxHeartbeats 4000000 in
set_option maxRecDepth 100000 in
theorem c_Rd_isClosing (l : Launch) (dC : Nat → ClassId) (dI : Nat → Nat → Nat) (ar : Nat → ClassId) (N0 : Nat) (z : Nat → Nat) (ad : Nat → Nat) (I : Nat → Int32) (T : Int64) (A : Nat → Nat → Int32) (O : Nat → Option Nat) (pl : va_W) (cv : Int32) (sz w0 : Nat) : Met l ({ cls := "ChannelMachine$Reader", name := "isClosing", desc := "(C)Z" } : Jvm.MethodName) ((Jvm.Cond.code ({ cls := "ChannelMachine$Reader", name := "isClosing", desc := "(C)Z" } : Jvm.MethodName) prog_8_method_17_code (1 : Nat) (Option.some Jvm.ClassFile.FieldType.boolean)) :: x_T) ({ frames := 0, cells := 0, slots := 0, locals := 0 }) (y_Pc (dC, dI) ar N0 z (y_W ad ar I T A O pl) sz w0 [.int cv]) (va_Qi (fun (r : Int32) (u : (Nat → Int32) × Int64 × (Nat → Nat → Int32) × (Nat → Option Nat) × va_W × (Nat × Nat × Nat × Nat)) => u = (I, T, A, O, pl, 0, 0, 0, 0) ∧ (r = 0 ∨ r = 1)) (fun u t => va_P (dC, dI) y_cl (y_W ad ar u.1 u.2.1 u.2.2.1 u.2.2.2.1 u.2.2.2.2.1) t.heap ∧ va_D (va_A (y_W ad ar I T A O pl) sz) (y_W ad ar u.1 u.2.1 u.2.2.1 u.2.2.2.1 u.2.2.2.2.1) ∧ True) (va_A (y_W ad ar I T A O pl) sz)) (0) (0) (va_A (y_W ad ar I T A O pl) sz) := by
  refine Met.ofW (cc := prog_8_method_17_code) (maxL := 1) (ret := (some .boolean)) (by decide) rfl ?_
  intro p e s m args below meth c s₁ B hml hv
  obtain ⟨rfl, hsz, hN0, hP, hU, hZ, hD0, hw0⟩ := hv
  have hK := hU.2.1
  have hx := B.exec
  have hb := B.bytes
  have hr := B.returns
  have hts : ∀ w ∈ x_T, w.before ([.int cv] : List Value).toArray s = true := fun w h => atoms_spec (ws := (Jvm.Cond.code ({ cls := "ChannelMachine$Reader", name := "isClosing", desc := "(C)Z" } : Jvm.MethodName) prog_8_method_17_code (1 : Nat) (Option.some Jvm.ClassFile.FieldType.boolean)) :: x_T) B.pre w (List.mem_cons_of_mem _ h)
  have hown : s.vm.findClass "ChannelMachine$Reader" = some m.cls := findClass_of_methodNamed B.named
  have hlocks := B.notSynchronized
  subst hsz
  subst hw0
  have hD := hD0.self (sz := s.heap.size)
  have hAN := x_AN hD0 hN0
  generalize hAe : va_A (y_W ad ar I T A O pl) s.heap.size = Bq at hD hAN ⊢
  have hA : ∀ q : Nat, s.heap.size ≤ q → Bq q := fun q h => by rw [← hAe]; exact Or.inr h
  have hS : va_S Bq s.heap s.heap [] := va_S.rf
  have hl := lv_entry ([.int cv]) (n := 1) (Nat.le_of_ble_eq_true rfl)
  rw [lg_entry_eq]
  generalize (lg_sl ([.int cv]) ++ List.replicate (1 - (lg_sl ([.int cv])).length) Slot.unset).toArray = ls at hl ⊢
  have hl : lv_has ls 1 [(0, .int cv)] := hl
  refine lv_iload_n hx hb d_Reader_isClosing_0 rfl (lv_at hl 0 rfl) ?_
  refine lv_bipush (v := 41) hx hb d_Reader_isClosing_1 (by decide) ?_
  refine lv_icmp_eq (tgt := 18) hx hb d_Reader_isClosing_3 (by decide) (fun c1 => ?_) (fun c1 => ?_)
  · refine lv_iconst (v := 1) hx hb d_Reader_isClosing_18 (by decide) ?_
    refine lv_goto (tgt := 23) hx hb d_Reader_isClosing_19 (by decide) ?_
    refine y_know (fun hy91 hy92 hy93 hy94 => ?_)
    have hac9 : True := trivial
    refine W.widen (k := 0) (n := 0) (by omega) (by omega) ?_
    exact W.zret (v := 1) hx hb hr (rfl) (fun t ht hW => ⟨⟨1, (I, T, A, O, pl, (0, 0, 0, 0)), rfl, ⟨rfl, Or.inr rfl⟩, (by dsimp only; rw [ht]; exact ⟨hP, hD, hac9⟩)⟩, hS.F ht⟩) hS.2.2 d_Reader_isClosing_23
  · refine lv_iload_n hx hb d_Reader_isClosing_6 rfl (lv_at hl 0 rfl) ?_
    refine lv_bipush (v := 125) hx hb d_Reader_isClosing_7 (by decide) ?_
    refine lv_icmp_eq (tgt := 18) hx hb d_Reader_isClosing_9 (by decide) (fun c2 => ?_) (fun c2 => ?_)
    · refine lv_iconst (v := 1) hx hb d_Reader_isClosing_18 (by decide) ?_
      refine lv_goto (tgt := 23) hx hb d_Reader_isClosing_19 (by decide) ?_
      refine y_know (fun hy91 hy92 hy93 hy94 => ?_)
      have hac9 : True := trivial
      refine W.widen (k := 0) (n := 0) (by omega) (by omega) ?_
      exact W.zret (v := 1) hx hb hr (rfl) (fun t ht hW => ⟨⟨1, (I, T, A, O, pl, (0, 0, 0, 0)), rfl, ⟨rfl, Or.inr rfl⟩, (by dsimp only; rw [ht]; exact ⟨hP, hD, hac9⟩)⟩, hS.F ht⟩) hS.2.2 d_Reader_isClosing_23
    · refine lv_iload_n hx hb d_Reader_isClosing_12 rfl (lv_at hl 0 rfl) ?_
      refine lv_bipush (v := 93) hx hb d_Reader_isClosing_13 (by decide) ?_
      refine lv_icmp_ne (tgt := 22) hx hb d_Reader_isClosing_15 (by decide) (fun c3 => ?_) (fun c3 => ?_)
      · refine lv_iconst (v := 0) hx hb d_Reader_isClosing_22 (by decide) ?_
        refine y_know (fun hy91 hy92 hy93 hy94 => ?_)
        have hac9 : True := trivial
        refine W.widen (k := 0) (n := 0) (by omega) (by omega) ?_
        exact W.zret (v := 0) hx hb hr (rfl) (fun t ht hW => ⟨⟨0, (I, T, A, O, pl, (0, 0, 0, 0)), rfl, ⟨rfl, Or.inl rfl⟩, (by dsimp only; rw [ht]; exact ⟨hP, hD, hac9⟩)⟩, hS.F ht⟩) hS.2.2 d_Reader_isClosing_23
      · refine lv_iconst (v := 1) hx hb d_Reader_isClosing_18 (by decide) ?_
        refine lv_goto (tgt := 23) hx hb d_Reader_isClosing_19 (by decide) ?_
        refine y_know (fun hy91 hy92 hy93 hy94 => ?_)
        have hac9 : True := trivial
        refine W.widen (k := 0) (n := 0) (by omega) (by omega) ?_
        exact W.zret (v := 1) hx hb hr (rfl) (fun t ht hW => ⟨⟨1, (I, T, A, O, pl, (0, 0, 0, 0)), rfl, ⟨rfl, Or.inr rfl⟩, (by dsimp only; rw [ht]; exact ⟨hP, hD, hac9⟩)⟩, hS.F ht⟩) hS.2.2 d_Reader_isClosing_23
