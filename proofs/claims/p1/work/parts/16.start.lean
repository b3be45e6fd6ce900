-- ===== 16.start: what the Statement gives at the law's entry, in the words of 06.pre =====
/-- an array's class by the word on it -/
theorem x_arr {ty : FieldType} {args : Array Value} {s : State} (h : (Cond.arrayClass ty).before args s = true) (hp : ty.isReference = false) : ∃ cA : ClassId, ArrOfT s cA ty ∧ va_RA s cA ty := by
  obtain ⟨c, k, comp, h1, h2, h3⟩ := Cond.arrayClass_spec h
  refine ⟨c, fun n z => ⟨fun k h => (by cases h), k, h2, comp, h3⟩, ?_⟩
  cases ty with
  | object C => cases hp
  | _ => exact h1
theorem x_arrO {C : String} {args : Array Value} {s : State} (h : (Cond.arrayOver (.object C)).before args s = true) : ∃ cA : ClassId, ArrOfT s cA (.object C) ∧ va_RA s cA (.object C) := by
  obtain ⟨comp, c, k, h1, h2, h3, h4, h5⟩ := Cond.arrayOver_spec h
  exact ⟨c, fun n z => ⟨fun k h => (by cases h), k, h3, comp, h4⟩, k, comp, h3, h4, h1, h5⟩
theorem x_exact {t : Term} {cls : String} {args : Array Value} {s : State} (h : (Cond.exactly t cls).before args s = true) : ∃ a : Nat, t.eval args s none [] s = some (.ref a) := by
  obtain ⟨a, _, _, _, h1, -⟩ := Cond.exactly_spec h
  exact ⟨a, h1⟩
set_option maxHeartbeats 4000000 in
set_option maxRecDepth 100000 in
theorem x_start {args : Array Value} {s : State} (ht : ∀ w ∈ tables_1, w.before args s = true) (hts : ∀ w ∈ x_T, w.before args s = true) (hg : (Jvm.Cond.and given_1 narrow_1).before args s = true) :
    ∃ (dC : Nat → ClassId) (dI : Nat → Nat → Nat) (ar : Nat → ClassId) (z : Nat → Nat), x_U (dC, dI) ar s ∧ x_Z s.heap.size z s := by
  have hf := flat_of_before _ hg
  obtain ⟨c0, j0, n0⟩ := u_known (C := "java/util/ArrayList") (T := F_List) (N := 3) (n := 3) hts i_List (ht _ (List.mem_of_getElem? (i := 101) (by decide +kernel)))
  obtain ⟨c1, j1, n1⟩ := u_known (C := "ChannelMachine$Channel") (T := F_Channel) (N := 4) (n := 4) hts i_Channel (ht _ (List.mem_of_getElem? (i := 126) (by decide +kernel)))
  obtain ⟨c2, j2, n2⟩ := u_known (C := "ChannelMachine$Machine") (T := F_Machine) (N := 11) (n := 11) hts i_Machine (ht _ (List.mem_of_getElem? (i := 78) (by decide +kernel)))
  obtain ⟨c3, j3, n3⟩ := u_known (C := "ChannelMachine$Reader") (T := F_Reader) (N := 9) (n := 9) hts i_Reader (ht _ (List.mem_of_getElem? (i := 38) (by decide +kernel)))
  obtain ⟨c4, j4, n4⟩ := u_known (C := "ChannelMachine$Row") (T := F_Row) (N := 2) (n := 2) hts i_Row (ht _ (List.mem_of_getElem? (i := 86) (by decide +kernel)))
  obtain ⟨c5, j5, n5⟩ := u_known (C := "ChannelMachine") (T := F_CM) (N := 3) (n := 3) hts i_CM (ht _ (List.mem_of_getElem? (i := 30) (by decide +kernel)))
  obtain ⟨c6, j6, n6⟩ := u_known (C := "ChannelMachineModel") (T := F_Mo) (N := 45) (n := 45) hts i_Mo (ht _ (List.mem_of_getElem? (i := 962) (by decide +kernel)))
  obtain ⟨a0, e0⟩ := x_arr (ty := .int) (ht _ (List.mem_of_getElem? (i := 76) (by decide +kernel))) rfl
  obtain ⟨a1, e1⟩ := x_arr (ty := .char) (ht _ (List.mem_of_getElem? (i := 75) (by decide +kernel))) rfl
  obtain ⟨a2, e2⟩ := x_arr (ty := .long) (ht _ (List.mem_of_getElem? (i := 1104) (by decide +kernel))) rfl
  obtain ⟨a3, e3⟩ := x_arr (ty := .boolean) (ht _ (List.mem_of_getElem? (i := 1103) (by decide +kernel))) rfl
  obtain ⟨a4, e4⟩ := x_arrO (C := "ChannelMachine$Channel") (ht _ (List.mem_of_getElem? (i := 84) (by decide +kernel)))
  obtain ⟨z0, f0⟩ := x_exact (hf (.exactly (.static "java/util/ArrayList" "DEFAULTCAPACITY_EMPTY_ELEMENTDATA" "[Ljava/lang/Object;") "[Ljava/lang/Object;") (by decide +kernel))
  obtain ⟨z1, f1⟩ := x_exact (hf (.exactly (.static "ChannelMachine$Kind" "LOOP" "LChannelMachine$Kind;") "ChannelMachine$Kind") (by decide +kernel))
  obtain ⟨z2, f2⟩ := x_exact (hf (.exactly (.static "ChannelMachine$Kind" "CONDITION" "LChannelMachine$Kind;") "ChannelMachine$Kind") (by decide +kernel))
  have hlt : ∀ a : Nat, a < s.heap.size → ¬ s.heap.size ≤ a := fun a h => Nat.not_le.mpr h
  refine ⟨fun k => if k = 0 then c0 else if k = 1 then c1 else if k = 2 then c2 else if k = 3 then c3 else if k = 4 then c4 else if k = 5 then c5 else c6, fun k => if k = 0 then j0 else if k = 1 then j1 else if k = 2 then j2 else if k = 3 then j3 else if k = 4 then j4 else if k = 5 then j5 else j6, fun k => if k = 0 then a0 else if k = 1 then a1 else if k = 2 then a2 else if k = 3 then a3 else a4, fun k => if k = 0 then z0 else if k = 1 then z1 else z2, ⟨⟨?_, ?_⟩, ?_, ?_, ?_, ?_, ?_⟩, ?_, ?_, ?_, ?_, ?_⟩
  · intro k q hq
    match k, hq with
    | 0, hq => cases hq; exact n0
    | 1, hq => cases hq; exact n1
    | 2, hq => cases hq; exact n2
    | 3, hq => cases hq; exact n3
    | 4, hq => cases hq; exact n4
    | 5, hq => cases hq; exact n5
    | 6, hq => cases hq; exact n6
    | k + 7, hq => simp [x_cl] at hq
  · intro k q hq
    match k, hq with
    | 0, hq => cases hq; exact e0
    | 1, hq => cases hq; exact e1
    | 2, hq => cases hq; exact e2
    | 3, hq => cases hq; exact e3
    | 4, hq => cases hq; exact e4
    | k + 5, hq => simp [x_tys] at hq
  · intro w hw
    have h1 := List.mem_filter.mp hw
    refine va_Nw.of ?_ (ht w h1.1)
    have h2 := h1.2
    cases w <;> first | rfl | cases h2
  · exact va_AO.of (ht _ (List.mem_of_getElem? (i := 84) (by decide +kernel)))
  · intro q hq
    simp only [x_str, List.mem_cons, List.not_mem_nil, or_false] at hq
    rcases hq with rfl | rfl | rfl | rfl | rfl | rfl | rfl | rfl | rfl | rfl | rfl | rfl
    · obtain ⟨a, ha⟩ := x_exact (hf (.exactly (.string "ChannelMachine" 33) "java/lang/String") (by decide +kernel))
      exact ⟨a, vk_R.of (A := args) (ht _ (List.mem_of_getElem? (i := 272) (by decide +kernel))) ha⟩
    · obtain ⟨a, ha⟩ := x_exact (hf (.exactly (.string "ChannelMachine" 43) "java/lang/String") (by decide +kernel))
      exact ⟨a, vk_R.of (A := args) (ht _ (List.mem_of_getElem? (i := 308) (by decide +kernel))) ha⟩
    · obtain ⟨a, ha⟩ := x_exact (hf (.exactly (.string "ChannelMachine" 62) "java/lang/String") (by decide +kernel))
      exact ⟨a, vk_R.of (A := args) (ht _ (List.mem_of_getElem? (i := 611) (by decide +kernel))) ha⟩
    · obtain ⟨a, ha⟩ := x_exact (hf (.exactly (.string "ChannelMachine" 81) "java/lang/String") (by decide +kernel))
      exact ⟨a, vk_R.of (A := args) (ht _ (List.mem_of_getElem? (i := 715) (by decide +kernel))) ha⟩
    · obtain ⟨a, ha⟩ := x_exact (hf (.exactly (.string "ChannelMachine" 86) "java/lang/String") (by decide +kernel))
      exact ⟨a, vk_R.of (A := args) (ht _ (List.mem_of_getElem? (i := 716) (by decide +kernel))) ha⟩
    · obtain ⟨a, ha⟩ := x_exact (hf (.exactly (.string "ChannelMachine$Machine" 298) "java/lang/String") (by decide +kernel))
      exact ⟨a, vk_R.of (A := args) (ht _ (List.mem_of_getElem? (i := 808) (by decide +kernel))) ha⟩
    · obtain ⟨a, ha⟩ := x_exact (hf (.exactly (.string "ChannelMachine$Machine" 271) "java/lang/String") (by decide +kernel))
      exact ⟨a, vk_R.of (A := args) (ht _ (List.mem_of_getElem? (i := 848) (by decide +kernel))) ha⟩
    · obtain ⟨a, ha⟩ := x_exact (hf (.exactly (.string "ChannelMachine$Machine" 130) "java/lang/String") (by decide +kernel))
      exact ⟨a, vk_R.of (A := args) (ht _ (List.mem_of_getElem? (i := 896) (by decide +kernel))) ha⟩
    · obtain ⟨a, ha⟩ := x_exact (hf (.exactly (.string "ChannelMachine" 101) "java/lang/String") (by decide +kernel))
      exact ⟨a, vk_R.of (A := args) (ht _ (List.mem_of_getElem? (i := 905) (by decide +kernel))) ha⟩
    · obtain ⟨a, ha⟩ := x_exact (hf (.exactly (.string "ChannelMachine" 115) "java/lang/String") (by decide +kernel))
      exact ⟨a, vk_R.of (A := args) (ht _ (List.mem_of_getElem? (i := 927) (by decide +kernel))) ha⟩
    · obtain ⟨a, ha⟩ := x_exact (hf (.exactly (.string "ChannelMachine" 122) "java/lang/String") (by decide +kernel))
      exact ⟨a, vk_R.of (A := args) (ht _ (List.mem_of_getElem? (i := 945) (by decide +kernel))) ha⟩
    · obtain ⟨a, ha⟩ := x_exact (hf (.exactly (.string "ChannelMachine" 128) "java/lang/String") (by decide +kernel))
      exact ⟨a, vk_R.of (A := args) (ht _ (List.mem_of_getElem? (i := 960) (by decide +kernel))) ha⟩
  · exact va_Fw.of (ht _ (List.mem_of_getElem? (i := 211) (by decide +kernel))) (ht _ (List.mem_of_getElem? (i := 210) (by decide +kernel))) (ht _ (List.mem_of_getElem? (i := 216) (by decide +kernel))) (ht _ (List.mem_of_getElem? (i := 214) (by decide +kernel))) (ht _ (List.mem_of_getElem? (i := 212) (by decide +kernel)))
  · exact va_Nc.of (hf (.not (.castable "java/lang/IllegalStateException" "java/lang/IllegalArgumentException")) (by decide +kernel))
  · exact va_Zof (ht _ (List.mem_of_getElem? (i := 113) (by decide +kernel))) (ht _ (List.mem_of_getElem? (i := 7) (by decide +kernel))) f0 hlt
  · exact vx_Zqof (ht _ (List.mem_of_getElem? (i := 257) (by decide +kernel))) (ht _ (List.mem_of_getElem? (i := 10) (by decide +kernel))) (hf (.isRef (.static "java/lang/Throwable" "UNASSIGNED_STACK" "[Ljava/lang/StackTraceElement;")) (by decide +kernel)) hlt
  · exact vx_Zqof (ht _ (List.mem_of_getElem? (i := 259) (by decide +kernel))) (ht _ (List.mem_of_getElem? (i := 10) (by decide +kernel))) (hf (.isRef (.static "java/lang/Throwable" "SUPPRESSED_SENTINEL" "Ljava/util/List;")) (by decide +kernel)) hlt
  · exact va_Zof (ht _ (List.mem_of_getElem? (i := 360) (by decide +kernel))) (ht _ (List.mem_of_getElem? (i := 16) (by decide +kernel))) f1 hlt
  · exact va_Zof (ht _ (List.mem_of_getElem? (i := 362) (by decide +kernel))) (ht _ (List.mem_of_getElem? (i := 16) (by decide +kernel))) f2 hlt
