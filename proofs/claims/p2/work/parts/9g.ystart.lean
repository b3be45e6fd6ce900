-- ===== 9g.ystart: what the Statement gives at the law's entry, by program =====
/-- an array's class by the word on it -/
theorem x_arr {ty : FieldType} {args : Array Value} {s : State} (h : (Cond.arrayClass ty).before args s = true) (hp : ty.isReference = false) : ∃ cA : ClassId, ArrOfT s cA ty ∧ va_RA s cA ty := by
  obtain ⟨c, k, comp, h1, h2, h3⟩ := Cond.arrayClass_spec h
  refine ⟨c, fun n z => ⟨fun k h => (by cases h), k, h2, comp, h3⟩, ?_⟩
  cases ty with
  | object C => cases hp
  | _ => exact h1
theorem x_arrO {C : String} {args : Array Value} {s : State} (h : (Cond.arrayOver (.object C)).before args s = true) : ∃ cA : ClassId, ArrOfT s cA (.object C) ∧ va_RA s cA (.object C) := by
  obtain ⟨comp, c, k, h1, h2, h3, h4, h5⟩ := Cond.arrayOver_spec h
  exact ⟨c, fun n z => ⟨fun k h => (by cases h), k, h3, comp, h4⟩, k, comp, h3, h4, h1, h5⟩
theorem x_exact {t : Term} {cls : String} {args : Array Value} {s : State} (h : (Cond.exactly t cls).before args s = true) : ∃ a : Nat, t.eval args s none [] s = some (.ref a) := by
  obtain ⟨a, _, _, _, h1, -⟩ := Cond.exactly_spec h
  exact ⟨a, h1⟩
theorem y_eqi {t : Term} {n : Int32} {args : Array Value} {s : State} (h : (Cond.eq t (.int n)).before args s = true) : t.eval args s none [] s = some (.int n) := by
  cases hv : t.eval args s none [] s with
  | none => simp [Cond.before, Cond.holds, Cond.value, hv] at h
  | some v => cases v <;> simp_all [Cond.before, Cond.holds, Cond.value, Term.eval]
theorem y_Enc {E d : String} {nm : List String} {F : List (String × String × String × List Int32)} {f g : Nat → Nat} {A : Nat → Prop} {U : State} {H : Heap} (hfg : ∀ i, i < nm.length → g i = f i) (h : va_En E d nm F f A U H) : va_En E d nm F g A U H :=
  ⟨fun i hi => by rw [hfg i hi]; exact h.1 i hi, fun i j hi hj e => h.2 i j hi hj (by rw [← hfg i hi, ← hfg j hj]; exact e)⟩
set_option maxHeartbeats 4000000 in
set_option maxRecDepth 100000 in
theorem y_start {args : Array Value} {s : State} (ht : ∀ w ∈ tables_1, w.before args s = true) (hts : ∀ w ∈ x_T, w.before args s = true) (hg : (Jvm.Cond.and given_1 narrow_1).before args s = true) :
    ∃ (dC : Nat → ClassId) (dI : Nat → Nat → Nat) (ar : Nat → ClassId) (z : Nat → Nat), y_U (dC, dI) ar s ∧ y_Z s.heap.size z s := by
  have hf := flat_of_before _ hg
  obtain ⟨c0, j0, n0⟩ := u_known (C := "java/util/ArrayList") (T := F_List) (N := 3) (n := 3) hts i_List (ht _ (List.mem_of_getElem? (i := 101) (by decide +kernel)))
  obtain ⟨c1, j1, n1⟩ := u_known (C := "ChannelMachine$Channel") (T := F_Channel) (N := 4) (n := 4) hts i_Channel (ht _ (List.mem_of_getElem? (i := 126) (by decide +kernel)))
  obtain ⟨c2, j2, n2⟩ := u_known (C := "ChannelMachine$Machine") (T := F_Machine) (N := 11) (n := 11) hts i_Machine (ht _ (List.mem_of_getElem? (i := 78) (by decide +kernel)))
  obtain ⟨c3, j3, n3⟩ := u_known (C := "ChannelMachine$Reader") (T := F_Reader) (N := 9) (n := 9) hts i_Reader (ht _ (List.mem_of_getElem? (i := 38) (by decide +kernel)))
  obtain ⟨c4, j4, n4⟩ := u_known (C := "ChannelMachine$Row") (T := F_Row) (N := 2) (n := 2) hts i_Row (ht _ (List.mem_of_getElem? (i := 86) (by decide +kernel)))
  obtain ⟨c5, j5, n5⟩ := u_known (C := "ChannelMachine") (T := F_CM) (N := 3) (n := 3) hts i_CM (ht _ (List.mem_of_getElem? (i := 30) (by decide +kernel)))
  obtain ⟨c6, j6, n6⟩ := u_known (C := "ChannelMachineModel") (T := F_Mo) (N := 45) (n := 45) hts i_Mo (ht _ (List.mem_of_getElem? (i := 962) (by decide +kernel)))
  obtain ⟨c7, j7, n7⟩ := u_known (C := "ChannelMachine$Process") (T := F_Process) (N := 10) (n := 10) hts i_Process (ht _ (List.mem_of_getElem? (i := 382) (by decide +kernel)))
  obtain ⟨c8, j8, n8⟩ := u_known (C := "ChannelMachine$Task") (T := F_Task) (N := 7) (n := 7) hts i_Task (ht _ (List.mem_of_getElem? (i := 444) (by decide +kernel)))
  obtain ⟨c9, j9, n9⟩ := u_known (C := "ChannelMachine$Guard") (T := F_Guard) (N := 6) (n := 6) hts i_Guard (ht _ (List.mem_of_getElem? (i := 563) (by decide +kernel)))
  obtain ⟨a0, e0⟩ := x_arr (ty := .int) (ht _ (List.mem_of_getElem? (i := 76) (by decide +kernel))) rfl
  obtain ⟨a1, e1⟩ := x_arr (ty := .char) (ht _ (List.mem_of_getElem? (i := 75) (by decide +kernel))) rfl
  obtain ⟨a2, e2⟩ := x_arr (ty := .long) (ht _ (List.mem_of_getElem? (i := 1104) (by decide +kernel))) rfl
  obtain ⟨a3, e3⟩ := x_arr (ty := .boolean) (ht _ (List.mem_of_getElem? (i := 1103) (by decide +kernel))) rfl
  obtain ⟨a4, e4⟩ := x_arrO (C := "ChannelMachine$Channel") (ht _ (List.mem_of_getElem? (i := 84) (by decide +kernel)))
  obtain ⟨a5, e5⟩ := x_arrO (C := "java/lang/Object") (ht _ (List.mem_of_getElem? (i := 703) (by decide +kernel)))
  have hlt : ∀ a : Nat, a < s.heap.size → ¬ s.heap.size ≤ a := fun a h => Nat.not_le.mpr h
  obtain ⟨z0, f0, t0⟩ := va_Tof (tm := (.static "java/util/ArrayList" "DEFAULTCAPACITY_EMPTY_ELEMENTDATA" "[Ljava/lang/Object;")) (ty := .object "java/lang/Object") (N := 0) (f := fun _ => .null) (A := fun q => s.heap.size ≤ q) (by decide) (hf (.arrayOf (.static "java/util/ArrayList" "DEFAULTCAPACITY_EMPTY_ELEMENTDATA" "[Ljava/lang/Object;") (.object "java/lang/Object")) (by decide +kernel)) (y_eqi (hf (.eq (.length (.static "java/util/ArrayList" "DEFAULTCAPACITY_EMPTY_ELEMENTDATA" "[Ljava/lang/Object;")) (.int 0)) (by decide +kernel))) (fun j hj => absurd hj (Nat.not_lt_zero j)) hlt
  have hsw : ∀ j : Nat, j < 11 → (Term.elem (.static "ChannelMachine$1" "$SwitchMap$ChannelMachine$Kind" "[I") (.int (Int32.ofNat j))).eval args s none [] s = some (y_sw j) := by
    intro j hj
    rcases y_11 hj with rfl | rfl | rfl | rfl | rfl | rfl | rfl | rfl | rfl | rfl | rfl
    · exact y_eqi (hf (.eq (.elem (.static "ChannelMachine$1" "$SwitchMap$ChannelMachine$Kind" "[I") (.int 0)) (.int 1)) (by decide +kernel))
    · exact y_eqi (hf (.eq (.elem (.static "ChannelMachine$1" "$SwitchMap$ChannelMachine$Kind" "[I") (.int 1)) (.int 2)) (by decide +kernel))
    · exact y_eqi (hf (.eq (.elem (.static "ChannelMachine$1" "$SwitchMap$ChannelMachine$Kind" "[I") (.int 2)) (.int 4)) (by decide +kernel))
    · exact y_eqi (hf (.eq (.elem (.static "ChannelMachine$1" "$SwitchMap$ChannelMachine$Kind" "[I") (.int 3)) (.int 0)) (by decide +kernel))
    · exact y_eqi (hf (.eq (.elem (.static "ChannelMachine$1" "$SwitchMap$ChannelMachine$Kind" "[I") (.int 4)) (.int 10)) (by decide +kernel))
    · exact y_eqi (hf (.eq (.elem (.static "ChannelMachine$1" "$SwitchMap$ChannelMachine$Kind" "[I") (.int 5)) (.int 5)) (by decide +kernel))
    · exact y_eqi (hf (.eq (.elem (.static "ChannelMachine$1" "$SwitchMap$ChannelMachine$Kind" "[I") (.int 6)) (.int 6)) (by decide +kernel))
    · exact y_eqi (hf (.eq (.elem (.static "ChannelMachine$1" "$SwitchMap$ChannelMachine$Kind" "[I") (.int 7)) (.int 8)) (by decide +kernel))
    · exact y_eqi (hf (.eq (.elem (.static "ChannelMachine$1" "$SwitchMap$ChannelMachine$Kind" "[I") (.int 8)) (.int 9)) (by decide +kernel))
    · exact y_eqi (hf (.eq (.elem (.static "ChannelMachine$1" "$SwitchMap$ChannelMachine$Kind" "[I") (.int 9)) (.int 3)) (by decide +kernel))
    · exact y_eqi (hf (.eq (.elem (.static "ChannelMachine$1" "$SwitchMap$ChannelMachine$Kind" "[I") (.int 10)) (.int 7)) (by decide +kernel))
  obtain ⟨z20, f20, t20⟩ := va_Tof (tm := (.static "ChannelMachine$1" "$SwitchMap$ChannelMachine$Kind" "[I")) (ty := .int) (N := 11) (f := y_sw) (A := fun q => s.heap.size ≤ q) (by decide) (hf (.arrayOf (.static "ChannelMachine$1" "$SwitchMap$ChannelMachine$Kind" "[I") .int) (by decide +kernel)) (y_eqi (hf (.eq (.length (.static "ChannelMachine$1" "$SwitchMap$ChannelMachine$Kind" "[I")) (.int 11)) (by decide +kernel))) hsw hlt
  obtain ⟨z21, f21, _⟩ := va_Tof (tm := (.static "ChannelMachine" "NO_CODE" "[I")) (ty := .int) (N := 0) (f := fun _ => .null) (A := fun q => s.heap.size ≤ q) (by decide) (hf (.arrayOf (.static "ChannelMachine" "NO_CODE" "[I") .int) (by decide +kernel)) (y_eqi (hf (.eq (.length (.static "ChannelMachine" "NO_CODE" "[I")) (.int 0)) (by decide +kernel))) (fun j hj => absurd hj (Nat.not_lt_zero j)) hlt
  obtain ⟨z1, f1⟩ := x_exact (hf (.exactly (.static "ChannelMachine$Kind" "LOOP" "LChannelMachine$Kind;") "ChannelMachine$Kind") (by decide +kernel))
  obtain ⟨z2, f2⟩ := x_exact (hf (.exactly (.static "ChannelMachine$Kind" "CONDITION" "LChannelMachine$Kind;") "ChannelMachine$Kind") (by decide +kernel))
  obtain ⟨z22, m22⟩ := va_Mi.of (hf (.isRef (.mirror "[Ljava/lang/Object;")) (by decide +kernel))
  have hk1 : ∀ i, i < y_nm.length → (Cond.laysStatic "ChannelMachine$Kind" (y_nm.getD i "") "LChannelMachine$Kind;").before args s = true := by
    intro i hi
    rcases y_11 (show i < 11 from hi) with rfl | rfl | rfl | rfl | rfl | rfl | rfl | rfl | rfl | rfl | rfl
    · exact (ht _ (List.mem_of_getElem? (i := 373) (by decide +kernel)))
    · exact (ht _ (List.mem_of_getElem? (i := 366) (by decide +kernel)))
    · exact (ht _ (List.mem_of_getElem? (i := 368) (by decide +kernel)))
    · exact (ht _ (List.mem_of_getElem? (i := 350) (by decide +kernel)))
    · exact (ht _ (List.mem_of_getElem? (i := 352) (by decide +kernel)))
    · exact (ht _ (List.mem_of_getElem? (i := 354) (by decide +kernel)))
    · exact (ht _ (List.mem_of_getElem? (i := 356) (by decide +kernel)))
    · exact (ht _ (List.mem_of_getElem? (i := 360) (by decide +kernel)))
    · exact (ht _ (List.mem_of_getElem? (i := 362) (by decide +kernel)))
    · exact (ht _ (List.mem_of_getElem? (i := 364) (by decide +kernel)))
    · exact (ht _ (List.mem_of_getElem? (i := 358) (by decide +kernel)))
  have hk2 : ∀ i, i < y_nm.length → (Cond.exactly (Term.static "ChannelMachine$Kind" (y_nm.getD i "") "LChannelMachine$Kind;") "ChannelMachine$Kind").before args s = true := by
    intro i hi
    rcases y_11 (show i < 11 from hi) with rfl | rfl | rfl | rfl | rfl | rfl | rfl | rfl | rfl | rfl | rfl
    · exact (hf (.exactly (.static "ChannelMachine$Kind" "ASSIGNMENT" "LChannelMachine$Kind;") "ChannelMachine$Kind") (by decide +kernel))
    · exact (hf (.exactly (.static "ChannelMachine$Kind" "OUTPUT" "LChannelMachine$Kind;") "ChannelMachine$Kind") (by decide +kernel))
    · exact (hf (.exactly (.static "ChannelMachine$Kind" "INPUT" "LChannelMachine$Kind;") "ChannelMachine$Kind") (by decide +kernel))
    · exact (hf (.exactly (.static "ChannelMachine$Kind" "NOTHING" "LChannelMachine$Kind;") "ChannelMachine$Kind") (by decide +kernel))
    · exact (hf (.exactly (.static "ChannelMachine$Kind" "STOP" "LChannelMachine$Kind;") "ChannelMachine$Kind") (by decide +kernel))
    · exact (hf (.exactly (.static "ChannelMachine$Kind" "SEQUENCE" "LChannelMachine$Kind;") "ChannelMachine$Kind") (by decide +kernel))
    · exact (hf (.exactly (.static "ChannelMachine$Kind" "PARALLEL" "LChannelMachine$Kind;") "ChannelMachine$Kind") (by decide +kernel))
    · exact (hf (.exactly (.static "ChannelMachine$Kind" "LOOP" "LChannelMachine$Kind;") "ChannelMachine$Kind") (by decide +kernel))
    · exact (hf (.exactly (.static "ChannelMachine$Kind" "CONDITION" "LChannelMachine$Kind;") "ChannelMachine$Kind") (by decide +kernel))
    · exact (hf (.exactly (.static "ChannelMachine$Kind" "DELAY" "LChannelMachine$Kind;") "ChannelMachine$Kind") (by decide +kernel))
    · exact (hf (.exactly (.static "ChannelMachine$Kind" "ALTERNATIVE" "LChannelMachine$Kind;") "ChannelMachine$Kind") (by decide +kernel))
  have hk3 : ∀ q ∈ y_or, ∀ i, i < y_nm.length → (Cond.eq (.field (Term.static "ChannelMachine$Kind" (y_nm.getD i "") "LChannelMachine$Kind;") q.1 q.2.1 q.2.2.1) (.int (q.2.2.2.getD i 0))).before args s = true := by
    intro q hq i hi
    rcases List.mem_singleton.mp hq with rfl
    rcases y_11 (show i < 11 from hi) with rfl | rfl | rfl | rfl | rfl | rfl | rfl | rfl | rfl | rfl | rfl
    · exact (hf (.eq (.field (.static "ChannelMachine$Kind" "ASSIGNMENT" "LChannelMachine$Kind;") "java/lang/Enum" "ordinal" "I") (.int 0)) (by decide +kernel))
    · exact (hf (.eq (.field (.static "ChannelMachine$Kind" "OUTPUT" "LChannelMachine$Kind;") "java/lang/Enum" "ordinal" "I") (.int 1)) (by decide +kernel))
    · exact (hf (.eq (.field (.static "ChannelMachine$Kind" "INPUT" "LChannelMachine$Kind;") "java/lang/Enum" "ordinal" "I") (.int 2)) (by decide +kernel))
    · exact (hf (.eq (.field (.static "ChannelMachine$Kind" "NOTHING" "LChannelMachine$Kind;") "java/lang/Enum" "ordinal" "I") (.int 3)) (by decide +kernel))
    · exact (hf (.eq (.field (.static "ChannelMachine$Kind" "STOP" "LChannelMachine$Kind;") "java/lang/Enum" "ordinal" "I") (.int 4)) (by decide +kernel))
    · exact (hf (.eq (.field (.static "ChannelMachine$Kind" "SEQUENCE" "LChannelMachine$Kind;") "java/lang/Enum" "ordinal" "I") (.int 5)) (by decide +kernel))
    · exact (hf (.eq (.field (.static "ChannelMachine$Kind" "PARALLEL" "LChannelMachine$Kind;") "java/lang/Enum" "ordinal" "I") (.int 6)) (by decide +kernel))
    · exact (hf (.eq (.field (.static "ChannelMachine$Kind" "LOOP" "LChannelMachine$Kind;") "java/lang/Enum" "ordinal" "I") (.int 7)) (by decide +kernel))
    · exact (hf (.eq (.field (.static "ChannelMachine$Kind" "CONDITION" "LChannelMachine$Kind;") "java/lang/Enum" "ordinal" "I") (.int 8)) (by decide +kernel))
    · exact (hf (.eq (.field (.static "ChannelMachine$Kind" "DELAY" "LChannelMachine$Kind;") "java/lang/Enum" "ordinal" "I") (.int 9)) (by decide +kernel))
    · exact (hf (.eq (.field (.static "ChannelMachine$Kind" "ALTERNATIVE" "LChannelMachine$Kind;") "java/lang/Enum" "ordinal" "I") (.int 10)) (by decide +kernel))
  have hk4 : ∀ i j, i < y_nm.length → j < y_nm.length → i ≠ j → (Cond.not (.eq (Term.static "ChannelMachine$Kind" (y_nm.getD i "") "LChannelMachine$Kind;") (Term.static "ChannelMachine$Kind" (y_nm.getD j "") "LChannelMachine$Kind;"))).before args s = true ∨ (Cond.not (.eq (Term.static "ChannelMachine$Kind" (y_nm.getD j "") "LChannelMachine$Kind;") (Term.static "ChannelMachine$Kind" (y_nm.getD i "") "LChannelMachine$Kind;"))).before args s = true := by
    intro i j hi hj hne
    rcases y_11 (show i < 11 from hi) with rfl | rfl | rfl | rfl | rfl | rfl | rfl | rfl | rfl | rfl | rfl
    · rcases y_11 (show j < 11 from hj) with rfl | rfl | rfl | rfl | rfl | rfl | rfl | rfl | rfl | rfl | rfl
      · exact absurd rfl hne
      · exact Or.inr (hf (.not (.eq (.static "ChannelMachine$Kind" "OUTPUT" "LChannelMachine$Kind;") (.static "ChannelMachine$Kind" "ASSIGNMENT" "LChannelMachine$Kind;"))) (by decide +kernel))
      · exact Or.inr (hf (.not (.eq (.static "ChannelMachine$Kind" "INPUT" "LChannelMachine$Kind;") (.static "ChannelMachine$Kind" "ASSIGNMENT" "LChannelMachine$Kind;"))) (by decide +kernel))
      · exact Or.inr (hf (.not (.eq (.static "ChannelMachine$Kind" "NOTHING" "LChannelMachine$Kind;") (.static "ChannelMachine$Kind" "ASSIGNMENT" "LChannelMachine$Kind;"))) (by decide +kernel))
      · exact Or.inr (hf (.not (.eq (.static "ChannelMachine$Kind" "STOP" "LChannelMachine$Kind;") (.static "ChannelMachine$Kind" "ASSIGNMENT" "LChannelMachine$Kind;"))) (by decide +kernel))
      · exact Or.inr (hf (.not (.eq (.static "ChannelMachine$Kind" "SEQUENCE" "LChannelMachine$Kind;") (.static "ChannelMachine$Kind" "ASSIGNMENT" "LChannelMachine$Kind;"))) (by decide +kernel))
      · exact Or.inr (hf (.not (.eq (.static "ChannelMachine$Kind" "PARALLEL" "LChannelMachine$Kind;") (.static "ChannelMachine$Kind" "ASSIGNMENT" "LChannelMachine$Kind;"))) (by decide +kernel))
      · exact Or.inr (hf (.not (.eq (.static "ChannelMachine$Kind" "LOOP" "LChannelMachine$Kind;") (.static "ChannelMachine$Kind" "ASSIGNMENT" "LChannelMachine$Kind;"))) (by decide +kernel))
      · exact Or.inr (hf (.not (.eq (.static "ChannelMachine$Kind" "CONDITION" "LChannelMachine$Kind;") (.static "ChannelMachine$Kind" "ASSIGNMENT" "LChannelMachine$Kind;"))) (by decide +kernel))
      · exact Or.inr (hf (.not (.eq (.static "ChannelMachine$Kind" "DELAY" "LChannelMachine$Kind;") (.static "ChannelMachine$Kind" "ASSIGNMENT" "LChannelMachine$Kind;"))) (by decide +kernel))
      · exact Or.inr (hf (.not (.eq (.static "ChannelMachine$Kind" "ALTERNATIVE" "LChannelMachine$Kind;") (.static "ChannelMachine$Kind" "ASSIGNMENT" "LChannelMachine$Kind;"))) (by decide +kernel))
    · rcases y_11 (show j < 11 from hj) with rfl | rfl | rfl | rfl | rfl | rfl | rfl | rfl | rfl | rfl | rfl
      · exact Or.inl (hf (.not (.eq (.static "ChannelMachine$Kind" "OUTPUT" "LChannelMachine$Kind;") (.static "ChannelMachine$Kind" "ASSIGNMENT" "LChannelMachine$Kind;"))) (by decide +kernel))
      · exact absurd rfl hne
      · exact Or.inl (hf (.not (.eq (.static "ChannelMachine$Kind" "OUTPUT" "LChannelMachine$Kind;") (.static "ChannelMachine$Kind" "INPUT" "LChannelMachine$Kind;"))) (by decide +kernel))
      · exact Or.inr (hf (.not (.eq (.static "ChannelMachine$Kind" "NOTHING" "LChannelMachine$Kind;") (.static "ChannelMachine$Kind" "OUTPUT" "LChannelMachine$Kind;"))) (by decide +kernel))
      · exact Or.inr (hf (.not (.eq (.static "ChannelMachine$Kind" "STOP" "LChannelMachine$Kind;") (.static "ChannelMachine$Kind" "OUTPUT" "LChannelMachine$Kind;"))) (by decide +kernel))
      · exact Or.inr (hf (.not (.eq (.static "ChannelMachine$Kind" "SEQUENCE" "LChannelMachine$Kind;") (.static "ChannelMachine$Kind" "OUTPUT" "LChannelMachine$Kind;"))) (by decide +kernel))
      · exact Or.inr (hf (.not (.eq (.static "ChannelMachine$Kind" "PARALLEL" "LChannelMachine$Kind;") (.static "ChannelMachine$Kind" "OUTPUT" "LChannelMachine$Kind;"))) (by decide +kernel))
      · exact Or.inr (hf (.not (.eq (.static "ChannelMachine$Kind" "LOOP" "LChannelMachine$Kind;") (.static "ChannelMachine$Kind" "OUTPUT" "LChannelMachine$Kind;"))) (by decide +kernel))
      · exact Or.inr (hf (.not (.eq (.static "ChannelMachine$Kind" "CONDITION" "LChannelMachine$Kind;") (.static "ChannelMachine$Kind" "OUTPUT" "LChannelMachine$Kind;"))) (by decide +kernel))
      · exact Or.inr (hf (.not (.eq (.static "ChannelMachine$Kind" "DELAY" "LChannelMachine$Kind;") (.static "ChannelMachine$Kind" "OUTPUT" "LChannelMachine$Kind;"))) (by decide +kernel))
      · exact Or.inr (hf (.not (.eq (.static "ChannelMachine$Kind" "ALTERNATIVE" "LChannelMachine$Kind;") (.static "ChannelMachine$Kind" "OUTPUT" "LChannelMachine$Kind;"))) (by decide +kernel))
    · rcases y_11 (show j < 11 from hj) with rfl | rfl | rfl | rfl | rfl | rfl | rfl | rfl | rfl | rfl | rfl
      · exact Or.inl (hf (.not (.eq (.static "ChannelMachine$Kind" "INPUT" "LChannelMachine$Kind;") (.static "ChannelMachine$Kind" "ASSIGNMENT" "LChannelMachine$Kind;"))) (by decide +kernel))
      · exact Or.inr (hf (.not (.eq (.static "ChannelMachine$Kind" "OUTPUT" "LChannelMachine$Kind;") (.static "ChannelMachine$Kind" "INPUT" "LChannelMachine$Kind;"))) (by decide +kernel))
      · exact absurd rfl hne
      · exact Or.inr (hf (.not (.eq (.static "ChannelMachine$Kind" "NOTHING" "LChannelMachine$Kind;") (.static "ChannelMachine$Kind" "INPUT" "LChannelMachine$Kind;"))) (by decide +kernel))
      · exact Or.inr (hf (.not (.eq (.static "ChannelMachine$Kind" "STOP" "LChannelMachine$Kind;") (.static "ChannelMachine$Kind" "INPUT" "LChannelMachine$Kind;"))) (by decide +kernel))
      · exact Or.inr (hf (.not (.eq (.static "ChannelMachine$Kind" "SEQUENCE" "LChannelMachine$Kind;") (.static "ChannelMachine$Kind" "INPUT" "LChannelMachine$Kind;"))) (by decide +kernel))
      · exact Or.inr (hf (.not (.eq (.static "ChannelMachine$Kind" "PARALLEL" "LChannelMachine$Kind;") (.static "ChannelMachine$Kind" "INPUT" "LChannelMachine$Kind;"))) (by decide +kernel))
      · exact Or.inr (hf (.not (.eq (.static "ChannelMachine$Kind" "LOOP" "LChannelMachine$Kind;") (.static "ChannelMachine$Kind" "INPUT" "LChannelMachine$Kind;"))) (by decide +kernel))
      · exact Or.inr (hf (.not (.eq (.static "ChannelMachine$Kind" "CONDITION" "LChannelMachine$Kind;") (.static "ChannelMachine$Kind" "INPUT" "LChannelMachine$Kind;"))) (by decide +kernel))
      · exact Or.inr (hf (.not (.eq (.static "ChannelMachine$Kind" "DELAY" "LChannelMachine$Kind;") (.static "ChannelMachine$Kind" "INPUT" "LChannelMachine$Kind;"))) (by decide +kernel))
      · exact Or.inr (hf (.not (.eq (.static "ChannelMachine$Kind" "ALTERNATIVE" "LChannelMachine$Kind;") (.static "ChannelMachine$Kind" "INPUT" "LChannelMachine$Kind;"))) (by decide +kernel))
    · rcases y_11 (show j < 11 from hj) with rfl | rfl | rfl | rfl | rfl | rfl | rfl | rfl | rfl | rfl | rfl
      · exact Or.inl (hf (.not (.eq (.static "ChannelMachine$Kind" "NOTHING" "LChannelMachine$Kind;") (.static "ChannelMachine$Kind" "ASSIGNMENT" "LChannelMachine$Kind;"))) (by decide +kernel))
      · exact Or.inl (hf (.not (.eq (.static "ChannelMachine$Kind" "NOTHING" "LChannelMachine$Kind;") (.static "ChannelMachine$Kind" "OUTPUT" "LChannelMachine$Kind;"))) (by decide +kernel))
      · exact Or.inl (hf (.not (.eq (.static "ChannelMachine$Kind" "NOTHING" "LChannelMachine$Kind;") (.static "ChannelMachine$Kind" "INPUT" "LChannelMachine$Kind;"))) (by decide +kernel))
      · exact absurd rfl hne
      · exact Or.inl (hf (.not (.eq (.static "ChannelMachine$Kind" "NOTHING" "LChannelMachine$Kind;") (.static "ChannelMachine$Kind" "STOP" "LChannelMachine$Kind;"))) (by decide +kernel))
      · exact Or.inl (hf (.not (.eq (.static "ChannelMachine$Kind" "NOTHING" "LChannelMachine$Kind;") (.static "ChannelMachine$Kind" "SEQUENCE" "LChannelMachine$Kind;"))) (by decide +kernel))
      · exact Or.inl (hf (.not (.eq (.static "ChannelMachine$Kind" "NOTHING" "LChannelMachine$Kind;") (.static "ChannelMachine$Kind" "PARALLEL" "LChannelMachine$Kind;"))) (by decide +kernel))
      · exact Or.inl (hf (.not (.eq (.static "ChannelMachine$Kind" "NOTHING" "LChannelMachine$Kind;") (.static "ChannelMachine$Kind" "LOOP" "LChannelMachine$Kind;"))) (by decide +kernel))
      · exact Or.inl (hf (.not (.eq (.static "ChannelMachine$Kind" "NOTHING" "LChannelMachine$Kind;") (.static "ChannelMachine$Kind" "CONDITION" "LChannelMachine$Kind;"))) (by decide +kernel))
      · exact Or.inl (hf (.not (.eq (.static "ChannelMachine$Kind" "NOTHING" "LChannelMachine$Kind;") (.static "ChannelMachine$Kind" "DELAY" "LChannelMachine$Kind;"))) (by decide +kernel))
      · exact Or.inl (hf (.not (.eq (.static "ChannelMachine$Kind" "NOTHING" "LChannelMachine$Kind;") (.static "ChannelMachine$Kind" "ALTERNATIVE" "LChannelMachine$Kind;"))) (by decide +kernel))
    · rcases y_11 (show j < 11 from hj) with rfl | rfl | rfl | rfl | rfl | rfl | rfl | rfl | rfl | rfl | rfl
      · exact Or.inl (hf (.not (.eq (.static "ChannelMachine$Kind" "STOP" "LChannelMachine$Kind;") (.static "ChannelMachine$Kind" "ASSIGNMENT" "LChannelMachine$Kind;"))) (by decide +kernel))
      · exact Or.inl (hf (.not (.eq (.static "ChannelMachine$Kind" "STOP" "LChannelMachine$Kind;") (.static "ChannelMachine$Kind" "OUTPUT" "LChannelMachine$Kind;"))) (by decide +kernel))
      · exact Or.inl (hf (.not (.eq (.static "ChannelMachine$Kind" "STOP" "LChannelMachine$Kind;") (.static "ChannelMachine$Kind" "INPUT" "LChannelMachine$Kind;"))) (by decide +kernel))
      · exact Or.inr (hf (.not (.eq (.static "ChannelMachine$Kind" "NOTHING" "LChannelMachine$Kind;") (.static "ChannelMachine$Kind" "STOP" "LChannelMachine$Kind;"))) (by decide +kernel))
      · exact absurd rfl hne
      · exact Or.inl (hf (.not (.eq (.static "ChannelMachine$Kind" "STOP" "LChannelMachine$Kind;") (.static "ChannelMachine$Kind" "SEQUENCE" "LChannelMachine$Kind;"))) (by decide +kernel))
      · exact Or.inl (hf (.not (.eq (.static "ChannelMachine$Kind" "STOP" "LChannelMachine$Kind;") (.static "ChannelMachine$Kind" "PARALLEL" "LChannelMachine$Kind;"))) (by decide +kernel))
      · exact Or.inl (hf (.not (.eq (.static "ChannelMachine$Kind" "STOP" "LChannelMachine$Kind;") (.static "ChannelMachine$Kind" "LOOP" "LChannelMachine$Kind;"))) (by decide +kernel))
      · exact Or.inl (hf (.not (.eq (.static "ChannelMachine$Kind" "STOP" "LChannelMachine$Kind;") (.static "ChannelMachine$Kind" "CONDITION" "LChannelMachine$Kind;"))) (by decide +kernel))
      · exact Or.inl (hf (.not (.eq (.static "ChannelMachine$Kind" "STOP" "LChannelMachine$Kind;") (.static "ChannelMachine$Kind" "DELAY" "LChannelMachine$Kind;"))) (by decide +kernel))
      · exact Or.inl (hf (.not (.eq (.static "ChannelMachine$Kind" "STOP" "LChannelMachine$Kind;") (.static "ChannelMachine$Kind" "ALTERNATIVE" "LChannelMachine$Kind;"))) (by decide +kernel))
    · rcases y_11 (show j < 11 from hj) with rfl | rfl | rfl | rfl | rfl | rfl | rfl | rfl | rfl | rfl | rfl
      · exact Or.inl (hf (.not (.eq (.static "ChannelMachine$Kind" "SEQUENCE" "LChannelMachine$Kind;") (.static "ChannelMachine$Kind" "ASSIGNMENT" "LChannelMachine$Kind;"))) (by decide +kernel))
      · exact Or.inl (hf (.not (.eq (.static "ChannelMachine$Kind" "SEQUENCE" "LChannelMachine$Kind;") (.static "ChannelMachine$Kind" "OUTPUT" "LChannelMachine$Kind;"))) (by decide +kernel))
      · exact Or.inl (hf (.not (.eq (.static "ChannelMachine$Kind" "SEQUENCE" "LChannelMachine$Kind;") (.static "ChannelMachine$Kind" "INPUT" "LChannelMachine$Kind;"))) (by decide +kernel))
      · exact Or.inr (hf (.not (.eq (.static "ChannelMachine$Kind" "NOTHING" "LChannelMachine$Kind;") (.static "ChannelMachine$Kind" "SEQUENCE" "LChannelMachine$Kind;"))) (by decide +kernel))
      · exact Or.inr (hf (.not (.eq (.static "ChannelMachine$Kind" "STOP" "LChannelMachine$Kind;") (.static "ChannelMachine$Kind" "SEQUENCE" "LChannelMachine$Kind;"))) (by decide +kernel))
      · exact absurd rfl hne
      · exact Or.inl (hf (.not (.eq (.static "ChannelMachine$Kind" "SEQUENCE" "LChannelMachine$Kind;") (.static "ChannelMachine$Kind" "PARALLEL" "LChannelMachine$Kind;"))) (by decide +kernel))
      · exact Or.inl (hf (.not (.eq (.static "ChannelMachine$Kind" "SEQUENCE" "LChannelMachine$Kind;") (.static "ChannelMachine$Kind" "LOOP" "LChannelMachine$Kind;"))) (by decide +kernel))
      · exact Or.inl (hf (.not (.eq (.static "ChannelMachine$Kind" "SEQUENCE" "LChannelMachine$Kind;") (.static "ChannelMachine$Kind" "CONDITION" "LChannelMachine$Kind;"))) (by decide +kernel))
      · exact Or.inl (hf (.not (.eq (.static "ChannelMachine$Kind" "SEQUENCE" "LChannelMachine$Kind;") (.static "ChannelMachine$Kind" "DELAY" "LChannelMachine$Kind;"))) (by decide +kernel))
      · exact Or.inl (hf (.not (.eq (.static "ChannelMachine$Kind" "SEQUENCE" "LChannelMachine$Kind;") (.static "ChannelMachine$Kind" "ALTERNATIVE" "LChannelMachine$Kind;"))) (by decide +kernel))
    · rcases y_11 (show j < 11 from hj) with rfl | rfl | rfl | rfl | rfl | rfl | rfl | rfl | rfl | rfl | rfl
      · exact Or.inl (hf (.not (.eq (.static "ChannelMachine$Kind" "PARALLEL" "LChannelMachine$Kind;") (.static "ChannelMachine$Kind" "ASSIGNMENT" "LChannelMachine$Kind;"))) (by decide +kernel))
      · exact Or.inl (hf (.not (.eq (.static "ChannelMachine$Kind" "PARALLEL" "LChannelMachine$Kind;") (.static "ChannelMachine$Kind" "OUTPUT" "LChannelMachine$Kind;"))) (by decide +kernel))
      · exact Or.inl (hf (.not (.eq (.static "ChannelMachine$Kind" "PARALLEL" "LChannelMachine$Kind;") (.static "ChannelMachine$Kind" "INPUT" "LChannelMachine$Kind;"))) (by decide +kernel))
      · exact Or.inr (hf (.not (.eq (.static "ChannelMachine$Kind" "NOTHING" "LChannelMachine$Kind;") (.static "ChannelMachine$Kind" "PARALLEL" "LChannelMachine$Kind;"))) (by decide +kernel))
      · exact Or.inr (hf (.not (.eq (.static "ChannelMachine$Kind" "STOP" "LChannelMachine$Kind;") (.static "ChannelMachine$Kind" "PARALLEL" "LChannelMachine$Kind;"))) (by decide +kernel))
      · exact Or.inr (hf (.not (.eq (.static "ChannelMachine$Kind" "SEQUENCE" "LChannelMachine$Kind;") (.static "ChannelMachine$Kind" "PARALLEL" "LChannelMachine$Kind;"))) (by decide +kernel))
      · exact absurd rfl hne
      · exact Or.inl (hf (.not (.eq (.static "ChannelMachine$Kind" "PARALLEL" "LChannelMachine$Kind;") (.static "ChannelMachine$Kind" "LOOP" "LChannelMachine$Kind;"))) (by decide +kernel))
      · exact Or.inl (hf (.not (.eq (.static "ChannelMachine$Kind" "PARALLEL" "LChannelMachine$Kind;") (.static "ChannelMachine$Kind" "CONDITION" "LChannelMachine$Kind;"))) (by decide +kernel))
      · exact Or.inl (hf (.not (.eq (.static "ChannelMachine$Kind" "PARALLEL" "LChannelMachine$Kind;") (.static "ChannelMachine$Kind" "DELAY" "LChannelMachine$Kind;"))) (by decide +kernel))
      · exact Or.inl (hf (.not (.eq (.static "ChannelMachine$Kind" "PARALLEL" "LChannelMachine$Kind;") (.static "ChannelMachine$Kind" "ALTERNATIVE" "LChannelMachine$Kind;"))) (by decide +kernel))
    · rcases y_11 (show j < 11 from hj) with rfl | rfl | rfl | rfl | rfl | rfl | rfl | rfl | rfl | rfl | rfl
      · exact Or.inl (hf (.not (.eq (.static "ChannelMachine$Kind" "LOOP" "LChannelMachine$Kind;") (.static "ChannelMachine$Kind" "ASSIGNMENT" "LChannelMachine$Kind;"))) (by decide +kernel))
      · exact Or.inl (hf (.not (.eq (.static "ChannelMachine$Kind" "LOOP" "LChannelMachine$Kind;") (.static "ChannelMachine$Kind" "OUTPUT" "LChannelMachine$Kind;"))) (by decide +kernel))
      · exact Or.inl (hf (.not (.eq (.static "ChannelMachine$Kind" "LOOP" "LChannelMachine$Kind;") (.static "ChannelMachine$Kind" "INPUT" "LChannelMachine$Kind;"))) (by decide +kernel))
      · exact Or.inr (hf (.not (.eq (.static "ChannelMachine$Kind" "NOTHING" "LChannelMachine$Kind;") (.static "ChannelMachine$Kind" "LOOP" "LChannelMachine$Kind;"))) (by decide +kernel))
      · exact Or.inr (hf (.not (.eq (.static "ChannelMachine$Kind" "STOP" "LChannelMachine$Kind;") (.static "ChannelMachine$Kind" "LOOP" "LChannelMachine$Kind;"))) (by decide +kernel))
      · exact Or.inr (hf (.not (.eq (.static "ChannelMachine$Kind" "SEQUENCE" "LChannelMachine$Kind;") (.static "ChannelMachine$Kind" "LOOP" "LChannelMachine$Kind;"))) (by decide +kernel))
      · exact Or.inr (hf (.not (.eq (.static "ChannelMachine$Kind" "PARALLEL" "LChannelMachine$Kind;") (.static "ChannelMachine$Kind" "LOOP" "LChannelMachine$Kind;"))) (by decide +kernel))
      · exact absurd rfl hne
      · exact Or.inl (hf (.not (.eq (.static "ChannelMachine$Kind" "LOOP" "LChannelMachine$Kind;") (.static "ChannelMachine$Kind" "CONDITION" "LChannelMachine$Kind;"))) (by decide +kernel))
      · exact Or.inl (hf (.not (.eq (.static "ChannelMachine$Kind" "LOOP" "LChannelMachine$Kind;") (.static "ChannelMachine$Kind" "DELAY" "LChannelMachine$Kind;"))) (by decide +kernel))
      · exact Or.inr (hf (.not (.eq (.static "ChannelMachine$Kind" "ALTERNATIVE" "LChannelMachine$Kind;") (.static "ChannelMachine$Kind" "LOOP" "LChannelMachine$Kind;"))) (by decide +kernel))
    · rcases y_11 (show j < 11 from hj) with rfl | rfl | rfl | rfl | rfl | rfl | rfl | rfl | rfl | rfl | rfl
      · exact Or.inl (hf (.not (.eq (.static "ChannelMachine$Kind" "CONDITION" "LChannelMachine$Kind;") (.static "ChannelMachine$Kind" "ASSIGNMENT" "LChannelMachine$Kind;"))) (by decide +kernel))
      · exact Or.inl (hf (.not (.eq (.static "ChannelMachine$Kind" "CONDITION" "LChannelMachine$Kind;") (.static "ChannelMachine$Kind" "OUTPUT" "LChannelMachine$Kind;"))) (by decide +kernel))
      · exact Or.inl (hf (.not (.eq (.static "ChannelMachine$Kind" "CONDITION" "LChannelMachine$Kind;") (.static "ChannelMachine$Kind" "INPUT" "LChannelMachine$Kind;"))) (by decide +kernel))
      · exact Or.inr (hf (.not (.eq (.static "ChannelMachine$Kind" "NOTHING" "LChannelMachine$Kind;") (.static "ChannelMachine$Kind" "CONDITION" "LChannelMachine$Kind;"))) (by decide +kernel))
      · exact Or.inr (hf (.not (.eq (.static "ChannelMachine$Kind" "STOP" "LChannelMachine$Kind;") (.static "ChannelMachine$Kind" "CONDITION" "LChannelMachine$Kind;"))) (by decide +kernel))
      · exact Or.inr (hf (.not (.eq (.static "ChannelMachine$Kind" "SEQUENCE" "LChannelMachine$Kind;") (.static "ChannelMachine$Kind" "CONDITION" "LChannelMachine$Kind;"))) (by decide +kernel))
      · exact Or.inr (hf (.not (.eq (.static "ChannelMachine$Kind" "PARALLEL" "LChannelMachine$Kind;") (.static "ChannelMachine$Kind" "CONDITION" "LChannelMachine$Kind;"))) (by decide +kernel))
      · exact Or.inr (hf (.not (.eq (.static "ChannelMachine$Kind" "LOOP" "LChannelMachine$Kind;") (.static "ChannelMachine$Kind" "CONDITION" "LChannelMachine$Kind;"))) (by decide +kernel))
      · exact absurd rfl hne
      · exact Or.inl (hf (.not (.eq (.static "ChannelMachine$Kind" "CONDITION" "LChannelMachine$Kind;") (.static "ChannelMachine$Kind" "DELAY" "LChannelMachine$Kind;"))) (by decide +kernel))
      · exact Or.inr (hf (.not (.eq (.static "ChannelMachine$Kind" "ALTERNATIVE" "LChannelMachine$Kind;") (.static "ChannelMachine$Kind" "CONDITION" "LChannelMachine$Kind;"))) (by decide +kernel))
    · rcases y_11 (show j < 11 from hj) with rfl | rfl | rfl | rfl | rfl | rfl | rfl | rfl | rfl | rfl | rfl
      · exact Or.inl (hf (.not (.eq (.static "ChannelMachine$Kind" "DELAY" "LChannelMachine$Kind;") (.static "ChannelMachine$Kind" "ASSIGNMENT" "LChannelMachine$Kind;"))) (by decide +kernel))
      · exact Or.inl (hf (.not (.eq (.static "ChannelMachine$Kind" "DELAY" "LChannelMachine$Kind;") (.static "ChannelMachine$Kind" "OUTPUT" "LChannelMachine$Kind;"))) (by decide +kernel))
      · exact Or.inl (hf (.not (.eq (.static "ChannelMachine$Kind" "DELAY" "LChannelMachine$Kind;") (.static "ChannelMachine$Kind" "INPUT" "LChannelMachine$Kind;"))) (by decide +kernel))
      · exact Or.inr (hf (.not (.eq (.static "ChannelMachine$Kind" "NOTHING" "LChannelMachine$Kind;") (.static "ChannelMachine$Kind" "DELAY" "LChannelMachine$Kind;"))) (by decide +kernel))
      · exact Or.inr (hf (.not (.eq (.static "ChannelMachine$Kind" "STOP" "LChannelMachine$Kind;") (.static "ChannelMachine$Kind" "DELAY" "LChannelMachine$Kind;"))) (by decide +kernel))
      · exact Or.inr (hf (.not (.eq (.static "ChannelMachine$Kind" "SEQUENCE" "LChannelMachine$Kind;") (.static "ChannelMachine$Kind" "DELAY" "LChannelMachine$Kind;"))) (by decide +kernel))
      · exact Or.inr (hf (.not (.eq (.static "ChannelMachine$Kind" "PARALLEL" "LChannelMachine$Kind;") (.static "ChannelMachine$Kind" "DELAY" "LChannelMachine$Kind;"))) (by decide +kernel))
      · exact Or.inr (hf (.not (.eq (.static "ChannelMachine$Kind" "LOOP" "LChannelMachine$Kind;") (.static "ChannelMachine$Kind" "DELAY" "LChannelMachine$Kind;"))) (by decide +kernel))
      · exact Or.inr (hf (.not (.eq (.static "ChannelMachine$Kind" "CONDITION" "LChannelMachine$Kind;") (.static "ChannelMachine$Kind" "DELAY" "LChannelMachine$Kind;"))) (by decide +kernel))
      · exact absurd rfl hne
      · exact Or.inr (hf (.not (.eq (.static "ChannelMachine$Kind" "ALTERNATIVE" "LChannelMachine$Kind;") (.static "ChannelMachine$Kind" "DELAY" "LChannelMachine$Kind;"))) (by decide +kernel))
    · rcases y_11 (show j < 11 from hj) with rfl | rfl | rfl | rfl | rfl | rfl | rfl | rfl | rfl | rfl | rfl
      · exact Or.inl (hf (.not (.eq (.static "ChannelMachine$Kind" "ALTERNATIVE" "LChannelMachine$Kind;") (.static "ChannelMachine$Kind" "ASSIGNMENT" "LChannelMachine$Kind;"))) (by decide +kernel))
      · exact Or.inl (hf (.not (.eq (.static "ChannelMachine$Kind" "ALTERNATIVE" "LChannelMachine$Kind;") (.static "ChannelMachine$Kind" "OUTPUT" "LChannelMachine$Kind;"))) (by decide +kernel))
      · exact Or.inl (hf (.not (.eq (.static "ChannelMachine$Kind" "ALTERNATIVE" "LChannelMachine$Kind;") (.static "ChannelMachine$Kind" "INPUT" "LChannelMachine$Kind;"))) (by decide +kernel))
      · exact Or.inr (hf (.not (.eq (.static "ChannelMachine$Kind" "NOTHING" "LChannelMachine$Kind;") (.static "ChannelMachine$Kind" "ALTERNATIVE" "LChannelMachine$Kind;"))) (by decide +kernel))
      · exact Or.inr (hf (.not (.eq (.static "ChannelMachine$Kind" "STOP" "LChannelMachine$Kind;") (.static "ChannelMachine$Kind" "ALTERNATIVE" "LChannelMachine$Kind;"))) (by decide +kernel))
      · exact Or.inr (hf (.not (.eq (.static "ChannelMachine$Kind" "SEQUENCE" "LChannelMachine$Kind;") (.static "ChannelMachine$Kind" "ALTERNATIVE" "LChannelMachine$Kind;"))) (by decide +kernel))
      · exact Or.inr (hf (.not (.eq (.static "ChannelMachine$Kind" "PARALLEL" "LChannelMachine$Kind;") (.static "ChannelMachine$Kind" "ALTERNATIVE" "LChannelMachine$Kind;"))) (by decide +kernel))
      · exact Or.inl (hf (.not (.eq (.static "ChannelMachine$Kind" "ALTERNATIVE" "LChannelMachine$Kind;") (.static "ChannelMachine$Kind" "LOOP" "LChannelMachine$Kind;"))) (by decide +kernel))
      · exact Or.inl (hf (.not (.eq (.static "ChannelMachine$Kind" "ALTERNATIVE" "LChannelMachine$Kind;") (.static "ChannelMachine$Kind" "CONDITION" "LChannelMachine$Kind;"))) (by decide +kernel))
      · exact Or.inl (hf (.not (.eq (.static "ChannelMachine$Kind" "ALTERNATIVE" "LChannelMachine$Kind;") (.static "ChannelMachine$Kind" "DELAY" "LChannelMachine$Kind;"))) (by decide +kernel))
      · exact absurd rfl hne
  obtain ⟨ek, hek⟩ := va_Enof (E := "ChannelMachine$Kind") (d := "LChannelMachine$Kind;") (nm := y_nm) (F := y_or) (A := fun q => s.heap.size ≤ q) hk1 (ht _ (List.mem_of_getElem? (i := 16) (by decide +kernel))) hk2 hk3 hk4 hlt
  refine ⟨fun k => if k = 0 then c0 else if k = 1 then c1 else if k = 2 then c2 else if k = 3 then c3 else if k = 4 then c4 else if k = 5 then c5 else if k = 6 then c6 else if k = 7 then c7 else if k = 8 then c8 else c9, fun k => if k = 0 then j0 else if k = 1 then j1 else if k = 2 then j2 else if k = 3 then j3 else if k = 4 then j4 else if k = 5 then j5 else if k = 6 then j6 else if k = 7 then j7 else if k = 8 then j8 else j9, fun k => if k = 0 then a0 else if k = 1 then a1 else if k = 2 then a2 else if k = 3 then a3 else if k = 4 then a4 else a5, fun k => if k = 0 then z0 else if k = 1 then z1 else if k = 2 then z2 else if k = 20 then z20 else if k = 21 then z21 else if k = 22 then z22 else ek (k - 3), ⟨⟨⟨?_, ?_⟩, ?_, ?_, ?_, ?_, ?_⟩, ⟨?_, ?_⟩, ?_, ?_, ?_, ?_, ?_, ?_, ?_, ?_⟩, ⟨?_, ?_, ?_, ?_, ?_⟩, ?_, ?_, ?_, ?_, ?_, ?_⟩
  · intro k q hq
    match k, hq with
    | 0, hq => cases hq; exact n0
    | 1, hq => cases hq; exact n1
    | 2, hq => cases hq; exact n2
    | 3, hq => cases hq; exact n3
    | 4, hq => cases hq; exact n4
    | 5, hq => cases hq; exact n5
    | 6, hq => cases hq; exact n6
    | k + 7, hq => simp [x_cl] at hq
  · intro k q hq
    match k, hq with
    | 0, hq => cases hq; exact e0
    | 1, hq => cases hq; exact e1
    | 2, hq => cases hq; exact e2
    | 3, hq => cases hq; exact e3
    | 4, hq => cases hq; exact e4
    | k + 5, hq => simp [x_tys] at hq
  · intro w hw
    have h1 := List.mem_filter.mp hw
    refine va_Nw.of ?_ (ht w h1.1)
    have h2 := h1.2
    cases w <;> first | rfl | cases h2
  · exact va_AO.of (ht _ (List.mem_of_getElem? (i := 84) (by decide +kernel)))
  · intro q hq
    simp only [x_str, List.mem_cons, List.not_mem_nil, or_false] at hq
    rcases hq with rfl | rfl | rfl | rfl | rfl | rfl | rfl | rfl | rfl | rfl | rfl | rfl
    · obtain ⟨a, ha⟩ := x_exact (hf (.exactly (.string "ChannelMachine" 33) "java/lang/String") (by decide +kernel))
      exact ⟨a, vk_R.of (A := args) (ht _ (List.mem_of_getElem? (i := 272) (by decide +kernel))) ha⟩
    · obtain ⟨a, ha⟩ := x_exact (hf (.exactly (.string "ChannelMachine" 43) "java/lang/String") (by decide +kernel))
      exact ⟨a, vk_R.of (A := args) (ht _ (List.mem_of_getElem? (i := 308) (by decide +kernel))) ha⟩
    · obtain ⟨a, ha⟩ := x_exact (hf (.exactly (.string "ChannelMachine" 62) "java/lang/String") (by decide +kernel))
      exact ⟨a, vk_R.of (A := args) (ht _ (List.mem_of_getElem? (i := 611) (by decide +kernel))) ha⟩
    · obtain ⟨a, ha⟩ := x_exact (hf (.exactly (.string "ChannelMachine" 81) "java/lang/String") (by decide +kernel))
      exact ⟨a, vk_R.of (A := args) (ht _ (List.mem_of_getElem? (i := 715) (by decide +kernel))) ha⟩
    · obtain ⟨a, ha⟩ := x_exact (hf (.exactly (.string "ChannelMachine" 86) "java/lang/String") (by decide +kernel))
      exact ⟨a, vk_R.of (A := args) (ht _ (List.mem_of_getElem? (i := 716) (by decide +kernel))) ha⟩
    · obtain ⟨a, ha⟩ := x_exact (hf (.exactly (.string "ChannelMachine$Machine" 298) "java/lang/String") (by decide +kernel))
      exact ⟨a, vk_R.of (A := args) (ht _ (List.mem_of_getElem? (i := 808) (by decide +kernel))) ha⟩
    · obtain ⟨a, ha⟩ := x_exact (hf (.exactly (.string "ChannelMachine$Machine" 271) "java/lang/String") (by decide +kernel))
      exact ⟨a, vk_R.of (A := args) (ht _ (List.mem_of_getElem? (i := 848) (by decide +kernel))) ha⟩
    · obtain ⟨a, ha⟩ := x_exact (hf (.exactly (.string "ChannelMachine$Machine" 130) "java/lang/String") (by decide +kernel))
      exact ⟨a, vk_R.of (A := args) (ht _ (List.mem_of_getElem? (i := 896) (by decide +kernel))) ha⟩
    · obtain ⟨a, ha⟩ := x_exact (hf (.exactly (.string "ChannelMachine" 101) "java/lang/String") (by decide +kernel))
      exact ⟨a, vk_R.of (A := args) (ht _ (List.mem_of_getElem? (i := 905) (by decide +kernel))) ha⟩
    · obtain ⟨a, ha⟩ := x_exact (hf (.exactly (.string "ChannelMachine" 115) "java/lang/String") (by decide +kernel))
      exact ⟨a, vk_R.of (A := args) (ht _ (List.mem_of_getElem? (i := 927) (by decide +kernel))) ha⟩
    · obtain ⟨a, ha⟩ := x_exact (hf (.exactly (.string "ChannelMachine" 122) "java/lang/String") (by decide +kernel))
      exact ⟨a, vk_R.of (A := args) (ht _ (List.mem_of_getElem? (i := 945) (by decide +kernel))) ha⟩
    · obtain ⟨a, ha⟩ := x_exact (hf (.exactly (.string "ChannelMachine" 128) "java/lang/String") (by decide +kernel))
      exact ⟨a, vk_R.of (A := args) (ht _ (List.mem_of_getElem? (i := 960) (by decide +kernel))) ha⟩
  · exact va_Fw.of (ht _ (List.mem_of_getElem? (i := 211) (by decide +kernel))) (ht _ (List.mem_of_getElem? (i := 210) (by decide +kernel))) (ht _ (List.mem_of_getElem? (i := 216) (by decide +kernel))) (ht _ (List.mem_of_getElem? (i := 214) (by decide +kernel))) (ht _ (List.mem_of_getElem? (i := 212) (by decide +kernel)))
  · exact va_Nc.of (hf (.not (.castable "java/lang/IllegalStateException" "java/lang/IllegalArgumentException")) (by decide +kernel))
  · intro k q hq
    match k, hq with
    | 0, hq => cases hq; exact n0
    | 1, hq => cases hq; exact n1
    | 2, hq => cases hq; exact n2
    | 3, hq => cases hq; exact n3
    | 4, hq => cases hq; exact n4
    | 5, hq => cases hq; exact n5
    | 6, hq => cases hq; exact n6
    | 7, hq => cases hq; exact n7
    | 8, hq => cases hq; exact n8
    | 9, hq => cases hq; exact n9
    | k + 10, hq => simp [y_cl] at hq
  · intro k q hq
    match k, hq with
    | 0, hq => cases hq; exact e0
    | 1, hq => cases hq; exact e1
    | 2, hq => cases hq; exact e2
    | 3, hq => cases hq; exact e3
    | 4, hq => cases hq; exact e4
    | 5, hq => cases hq; exact e5
    | k + 6, hq => simp [y_tys] at hq
  · exact va_AO.of (ht _ (List.mem_of_getElem? (i := 703) (by decide +kernel)))
  · exact va_Fw.of (ht _ (List.mem_of_getElem? (i := 623) (by decide +kernel))) (ht _ (List.mem_of_getElem? (i := 622) (by decide +kernel))) (ht _ (List.mem_of_getElem? (i := 627) (by decide +kernel))) (ht _ (List.mem_of_getElem? (i := 625) (by decide +kernel))) (ht _ (List.mem_of_getElem? (i := 212) (by decide +kernel)))
  · exact va_Fw.of (ht _ (List.mem_of_getElem? (i := 651) (by decide +kernel))) (ht _ (List.mem_of_getElem? (i := 650) (by decide +kernel))) (ht _ (List.mem_of_getElem? (i := 655) (by decide +kernel))) (ht _ (List.mem_of_getElem? (i := 653) (by decide +kernel))) (ht _ (List.mem_of_getElem? (i := 212) (by decide +kernel)))
  · exact va_Fw.of (ht _ (List.mem_of_getElem? (i := 729) (by decide +kernel))) (ht _ (List.mem_of_getElem? (i := 728) (by decide +kernel))) (ht _ (List.mem_of_getElem? (i := 733) (by decide +kernel))) (ht _ (List.mem_of_getElem? (i := 731) (by decide +kernel))) (ht _ (List.mem_of_getElem? (i := 212) (by decide +kernel)))
  · exact va_Fw.of (ht _ (List.mem_of_getElem? (i := 738) (by decide +kernel))) (ht _ (List.mem_of_getElem? (i := 737) (by decide +kernel))) (ht _ (List.mem_of_getElem? (i := 742) (by decide +kernel))) (ht _ (List.mem_of_getElem? (i := 740) (by decide +kernel))) (ht _ (List.mem_of_getElem? (i := 212) (by decide +kernel)))
  · exact va_Fw.of (ht _ (List.mem_of_getElem? (i := 758) (by decide +kernel))) (ht _ (List.mem_of_getElem? (i := 757) (by decide +kernel))) (ht _ (List.mem_of_getElem? (i := 762) (by decide +kernel))) (ht _ (List.mem_of_getElem? (i := 760) (by decide +kernel))) (ht _ (List.mem_of_getElem? (i := 212) (by decide +kernel)))
  · exact va_Nc.of (hf (.not (.castable "java/lang/ArithmeticException" "java/lang/IllegalArgumentException")) (by decide +kernel))
  · exact va_Nc.of (hf (.not (.castable "java/lang/ArithmeticException" "java/lang/IllegalStateException")) (by decide +kernel))
  · exact va_Zof (ht _ (List.mem_of_getElem? (i := 113) (by decide +kernel))) (ht _ (List.mem_of_getElem? (i := 7) (by decide +kernel))) f0 hlt
  · exact vx_Zqof (ht _ (List.mem_of_getElem? (i := 257) (by decide +kernel))) (ht _ (List.mem_of_getElem? (i := 10) (by decide +kernel))) (hf (.isRef (.static "java/lang/Throwable" "UNASSIGNED_STACK" "[Ljava/lang/StackTraceElement;")) (by decide +kernel)) hlt
  · exact vx_Zqof (ht _ (List.mem_of_getElem? (i := 259) (by decide +kernel))) (ht _ (List.mem_of_getElem? (i := 10) (by decide +kernel))) (hf (.isRef (.static "java/lang/Throwable" "SUPPRESSED_SENTINEL" "Ljava/util/List;")) (by decide +kernel)) hlt
  · exact va_Zof (ht _ (List.mem_of_getElem? (i := 360) (by decide +kernel))) (ht _ (List.mem_of_getElem? (i := 16) (by decide +kernel))) f1 hlt
  · exact va_Zof (ht _ (List.mem_of_getElem? (i := 362) (by decide +kernel))) (ht _ (List.mem_of_getElem? (i := 16) (by decide +kernel))) f2 hlt
  · refine y_Enc (fun i hi => ?_) hek
    rcases y_11 (show i < 11 from hi) with rfl | rfl | rfl | rfl | rfl | rfl | rfl | rfl | rfl | rfl | rfl <;> rfl
  · exact va_Zof (ht _ (List.mem_of_getElem? (i := 485) (by decide +kernel))) (ht _ (List.mem_of_getElem? (i := 20) (by decide +kernel))) f20 hlt
  · exact t20
  · exact va_Zof (ht _ (List.mem_of_getElem? (i := 388) (by decide +kernel))) (ht _ (List.mem_of_getElem? (i := 1) (by decide +kernel))) f21 hlt
  · exact t0
  · exact m22
