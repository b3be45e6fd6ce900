-- ===== 68.ybase: what every contract of the class takes as given =====
theorem k_422 : (Jvm.Cond.laysFinal "ChannelMachine$Process" "ChannelMachine$Process" "kind" "LChannelMachine$Kind;") ∈ x_T := x_at 422 (by decide +kernel) (by decide +kernel)
theorem k_424 : (Jvm.Cond.laysFinal "ChannelMachine$Process" "ChannelMachine$Process" "parent" "LChannelMachine$Process;") ∈ x_T := x_at 424 (by decide +kernel) (by decide +kernel)
theorem k_426 : (Jvm.Cond.lays "ChannelMachine$Process" "ChannelMachine$Process" "first" "LChannelMachine$Process;") ∈ x_T := x_at 426 (by decide +kernel) (by decide +kernel)
theorem k_428 : (Jvm.Cond.lays "ChannelMachine$Process" "ChannelMachine$Process" "last" "LChannelMachine$Process;") ∈ x_T := x_at 428 (by decide +kernel) (by decide +kernel)
theorem k_430 : (Jvm.Cond.lays "ChannelMachine$Process" "ChannelMachine$Process" "next" "LChannelMachine$Process;") ∈ x_T := x_at 430 (by decide +kernel) (by decide +kernel)
theorem k_432 : (Jvm.Cond.lays "ChannelMachine$Process" "ChannelMachine$Process" "task" "LChannelMachine$Task;") ∈ x_T := x_at 432 (by decide +kernel) (by decide +kernel)
theorem k_434 : (Jvm.Cond.lays "ChannelMachine$Process" "ChannelMachine$Process" "guards" "LChannelMachine$Guard;") ∈ x_T := x_at 434 (by decide +kernel) (by decide +kernel)
theorem k_436 : (Jvm.Cond.lays "ChannelMachine$Process" "ChannelMachine$Process" "code" "[I") ∈ x_T := x_at 436 (by decide +kernel) (by decide +kernel)
theorem k_438 : (Jvm.Cond.lays "ChannelMachine$Process" "ChannelMachine$Process" "channel" "I") ∈ x_T := x_at 438 (by decide +kernel) (by decide +kernel)
theorem k_440 : (Jvm.Cond.lays "ChannelMachine$Process" "ChannelMachine$Process" "variable" "I") ∈ x_T := x_at 440 (by decide +kernel) (by decide +kernel)
theorem k_462 : (Jvm.Cond.laysFinal "ChannelMachine$Task" "ChannelMachine$Task" "whole" "LChannelMachine$Process;") ∈ x_T := x_at 462 (by decide +kernel) (by decide +kernel)
theorem k_464 : (Jvm.Cond.laysFinal "ChannelMachine$Task" "ChannelMachine$Task" "maker" "LChannelMachine$Task;") ∈ x_T := x_at 464 (by decide +kernel) (by decide +kernel)
theorem k_466 : (Jvm.Cond.lays "ChannelMachine$Task" "ChannelMachine$Task" "at" "LChannelMachine$Process;") ∈ x_T := x_at 466 (by decide +kernel) (by decide +kernel)
theorem k_468 : (Jvm.Cond.lays "ChannelMachine$Task" "ChannelMachine$Task" "isBehind" "Z") ∈ x_T := x_at 468 (by decide +kernel) (by decide +kernel)
theorem k_470 : (Jvm.Cond.lays "ChannelMachine$Task" "ChannelMachine$Task" "running" "I") ∈ x_T := x_at 470 (by decide +kernel) (by decide +kernel)
theorem k_472 : (Jvm.Cond.lays "ChannelMachine$Task" "ChannelMachine$Task" "value" "I") ∈ x_T := x_at 472 (by decide +kernel) (by decide +kernel)
theorem k_474 : (Jvm.Cond.lays "ChannelMachine$Task" "ChannelMachine$Task" "until" "J") ∈ x_T := x_at 474 (by decide +kernel) (by decide +kernel)
theorem k_586 : (Jvm.Cond.lays "ChannelMachine$Guard" "ChannelMachine$Guard" "code" "[I") ∈ x_T := x_at 586 (by decide +kernel) (by decide +kernel)
theorem k_588 : (Jvm.Cond.lays "ChannelMachine$Guard" "ChannelMachine$Guard" "channel" "I") ∈ x_T := x_at 588 (by decide +kernel) (by decide +kernel)
theorem k_590 : (Jvm.Cond.lays "ChannelMachine$Guard" "ChannelMachine$Guard" "variable" "I") ∈ x_T := x_at 590 (by decide +kernel) (by decide +kernel)
theorem k_592 : (Jvm.Cond.lays "ChannelMachine$Guard" "ChannelMachine$Guard" "follow" "LChannelMachine$Process;") ∈ x_T := x_at 592 (by decide +kernel) (by decide +kernel)
theorem k_594 : (Jvm.Cond.lays "ChannelMachine$Guard" "ChannelMachine$Guard" "next" "LChannelMachine$Guard;") ∈ x_T := x_at 594 (by decide +kernel) (by decide +kernel)
theorem k_596 : (Jvm.Cond.lays "ChannelMachine$Guard" "ChannelMachine$Guard" "isOpen" "Z") ∈ x_T := x_at 596 (by decide +kernel) (by decide +kernel)
def F_Process : u_T := fun k => match k with
  | 0 => ("ChannelMachine$Process", "kind", "LChannelMachine$Kind;", true)
  | 1 => ("ChannelMachine$Process", "parent", "LChannelMachine$Process;", true)
  | 2 => ("ChannelMachine$Process", "first", "LChannelMachine$Process;", false)
  | 3 => ("ChannelMachine$Process", "last", "LChannelMachine$Process;", false)
  | 4 => ("ChannelMachine$Process", "next", "LChannelMachine$Process;", false)
  | 5 => ("ChannelMachine$Process", "task", "LChannelMachine$Task;", false)
  | 6 => ("ChannelMachine$Process", "guards", "LChannelMachine$Guard;", false)
  | 7 => ("ChannelMachine$Process", "code", "[I", false)
  | 8 => ("ChannelMachine$Process", "channel", "I", false)
  | _ => ("ChannelMachine$Process", "variable", "I", false)
def t_Process : Nat → FieldType := fun k => match k with
  | 0 => (.object "ChannelMachine$Kind")
  | 1 => (.object "ChannelMachine$Process")
  | 2 => (.object "ChannelMachine$Process")
  | 3 => (.object "ChannelMachine$Process")
  | 4 => (.object "ChannelMachine$Process")
  | 5 => (.object "ChannelMachine$Task")
  | 6 => (.object "ChannelMachine$Guard")
  | 7 => (.array .int)
  | 8 => .int
  | _ => .int
theorem n_Process : ∀ a, a < 10 → ∀ b, b < 10 → a ≠ b → (F_Process a).2.1 ≠ (F_Process b).2.1 := by decide +kernel
theorem t_Process_ok : ∀ k, k < 10 → parseFieldDescriptor (F_Process k).2.2.1 = some (t_Process k) := by decide +kernel
theorem i_Process : ∀ w ∈ u_ws "ChannelMachine$Process" F_Process 10, w ∈ x_T := by
  intro w hw
  obtain ⟨k, hk, rfl⟩ := List.mem_map.mp hw
  have hk := List.mem_range.mp hk
  match k, hk with
  | 0, _ => exact k_422
  | 1, _ => exact k_424
  | 2, _ => exact k_426
  | 3, _ => exact k_428
  | 4, _ => exact k_430
  | 5, _ => exact k_432
  | 6, _ => exact k_434
  | 7, _ => exact k_436
  | 8, _ => exact k_438
  | 9, _ => exact k_440
  | k + 10, h => exact absurd h (by omega)
def F_Task : u_T := fun k => match k with
  | 0 => ("ChannelMachine$Task", "whole", "LChannelMachine$Process;", true)
  | 1 => ("ChannelMachine$Task", "maker", "LChannelMachine$Task;", true)
  | 2 => ("ChannelMachine$Task", "at", "LChannelMachine$Process;", false)
  | 3 => ("ChannelMachine$Task", "isBehind", "Z", false)
  | 4 => ("ChannelMachine$Task", "running", "I", false)
  | 5 => ("ChannelMachine$Task", "value", "I", false)
  | _ => ("ChannelMachine$Task", "until", "J", false)
def t_Task : Nat → FieldType := fun k => match k with
  | 0 => (.object "ChannelMachine$Process")
  | 1 => (.object "ChannelMachine$Task")
  | 2 => (.object "ChannelMachine$Process")
  | 3 => .boolean
  | 4 => .int
  | 5 => .int
  | _ => .long
theorem n_Task : ∀ a, a < 7 → ∀ b, b < 7 → a ≠ b → (F_Task a).2.1 ≠ (F_Task b).2.1 := by decide +kernel
theorem t_Task_ok : ∀ k, k < 7 → parseFieldDescriptor (F_Task k).2.2.1 = some (t_Task k) := by decide +kernel
theorem i_Task : ∀ w ∈ u_ws "ChannelMachine$Task" F_Task 7, w ∈ x_T := by
  intro w hw
  obtain ⟨k, hk, rfl⟩ := List.mem_map.mp hw
  have hk := List.mem_range.mp hk
  match k, hk with
  | 0, _ => exact k_462
  | 1, _ => exact k_464
  | 2, _ => exact k_466
  | 3, _ => exact k_468
  | 4, _ => exact k_470
  | 5, _ => exact k_472
  | 6, _ => exact k_474
  | k + 7, h => exact absurd h (by omega)
def F_Guard : u_T := fun k => match k with
  | 0 => ("ChannelMachine$Guard", "code", "[I", false)
  | 1 => ("ChannelMachine$Guard", "channel", "I", false)
  | 2 => ("ChannelMachine$Guard", "variable", "I", false)
  | 3 => ("ChannelMachine$Guard", "follow", "LChannelMachine$Process;", false)
  | 4 => ("ChannelMachine$Guard", "next", "LChannelMachine$Guard;", false)
  | _ => ("ChannelMachine$Guard", "isOpen", "Z", false)
def t_Guard : Nat → FieldType := fun k => match k with
  | 0 => (.array .int)
  | 1 => .int
  | 2 => .int
  | 3 => (.object "ChannelMachine$Process")
  | 4 => (.object "ChannelMachine$Guard")
  | _ => .boolean
theorem n_Guard : ∀ a, a < 6 → ∀ b, b < 6 → a ≠ b → (F_Guard a).2.1 ≠ (F_Guard b).2.1 := by decide +kernel
theorem t_Guard_ok : ∀ k, k < 6 → parseFieldDescriptor (F_Guard k).2.2.1 = some (t_Guard k) := by decide +kernel
theorem i_Guard : ∀ w ∈ u_ws "ChannelMachine$Guard" F_Guard 6, w ∈ x_T := by
  intro w hw
  obtain ⟨k, hk, rfl⟩ := List.mem_map.mp hw
  have hk := List.mem_range.mp hk
  match k, hk with
  | 0, _ => exact k_586
  | 1, _ => exact k_588
  | 2, _ => exact k_590
  | 3, _ => exact k_592
  | 4, _ => exact k_594
  | 5, _ => exact k_596
  | k + 6, h => exact absurd h (by omega)
abbrev y_cl : List vw_C := [("java/util/ArrayList", F_List, 3), ("ChannelMachine$Channel", F_Channel, 4), ("ChannelMachine$Machine", F_Machine, 11), ("ChannelMachine$Reader", F_Reader, 9), ("ChannelMachine$Row", F_Row, 2), ("ChannelMachine", F_CM, 3), ("ChannelMachineModel", F_Mo, 45), ("ChannelMachine$Process", F_Process, 10), ("ChannelMachine$Task", F_Task, 7), ("ChannelMachine$Guard", F_Guard, 6)]
def y_tys (ar : Nat → ClassId) : List (ClassId × FieldType) := [(ar 0, .int), (ar 1, .char), (ar 2, .long), (ar 3, .boolean), (ar 4, .object "ChannelMachine$Channel"), (ar 5, .object "java/lang/Object")]
def y_nm : List String := ["ASSIGNMENT", "OUTPUT", "INPUT", "NOTHING", "STOP", "SEQUENCE", "PARALLEL", "LOOP", "CONDITION", "DELAY", "ALTERNATIVE"]
def y_or : List (String × String × String × List Int32) := [("java/lang/Enum", "ordinal", "I", [0, 1, 2, 3, 4, 5, 6, 7, 8, 9, 10])]
def y_sw (j : Nat) : Value := .int (([1, 2, 4, 0, 10, 5, 6, 8, 9, 3, 7] : List Int32).getD j 0)
/-- all slots of a heap -/
def y_hs (H : Heap) : Nat := H.foldl (fun n c => n + c.slots.size) 0
def y_U (D : va_G) (ar : Nat → ClassId) (U : State) : Prop := x_U D ar U ∧ va_K D y_cl (y_tys ar) U ∧ va_AO "java/lang/Object" U ∧ va_Fw "java/util/ArrayList" ⟨"java/util/List", "clear", "()V"⟩ ⟨"java/util/ArrayList", "clear", "()V"⟩ U ∧ va_Fw "java/util/ArrayList" ⟨"java/util/List", "add", "(Ljava/lang/Object;)Z"⟩ ⟨"java/util/ArrayList", "add", "(Ljava/lang/Object;)Z"⟩ U ∧ va_Fw "java/util/ArrayList" ⟨"java/util/List", "isEmpty", "()Z"⟩ ⟨"java/util/ArrayList", "isEmpty", "()Z"⟩ U ∧ va_Fw "java/util/ArrayList" ⟨"java/util/List", "get", "(I)Ljava/lang/Object;"⟩ ⟨"java/util/ArrayList", "get", "(I)Ljava/lang/Object;"⟩ U ∧ va_Fw "java/util/ArrayList" ⟨"java/util/List", "remove", "(I)Ljava/lang/Object;"⟩ ⟨"java/util/ArrayList", "remove", "(I)Ljava/lang/Object;"⟩ U ∧ va_Nc "java/lang/ArithmeticException" "java/lang/IllegalArgumentException" U ∧ va_Nc "java/lang/ArithmeticException" "java/lang/IllegalStateException" U
theorem y_U.warm {D : va_G} {ar : Nat → ClassId} {s U : State} (hW : s.WarmedH U.vm) (h : y_U D ar s) : y_U D ar U := by
  obtain ⟨h1, h2, h3, h4, h5, h6, h7, h8, h10, h11⟩ := h
  exact ⟨h1.warm hW, va_K.moved hW.alike h2, h3.moved hW.alike, h4.moved (by decide) hW.alike, h5.moved (by decide) hW.alike, h6.moved (by decide) hW.alike, h7.moved (by decide) hW.alike, h8.moved (by decide) hW.alike, x_Nc_warm hW h10, x_Nc_warm hW h11⟩
theorem y_U.same {D : va_G} {ar : Nat → ClassId} {s U : State} (hW : s.vm = U.vm) (h : y_U D ar s) : y_U D ar U := y_U.warm (by rw [← hW]; exact State.WarmedH.refl s) h
def y_Z (N : Nat) (z : Nat → Nat) (U : State) : Prop := x_Z N z U ∧ va_En "ChannelMachine$Kind" "LChannelMachine$Kind;" y_nm y_or (fun i => z (3 + i)) (fun q => N ≤ q) U U.heap ∧ va_Z "ChannelMachine$1" "$SwitchMap$ChannelMachine$Kind" "[I" (.ref (z 20)) (fun q => N ≤ q) U U.heap ∧ va_T .int (z 20) 11 y_sw (fun q => N ≤ q) U U.heap ∧ va_Z "ChannelMachine" "NO_CODE" "[I" (.ref (z 21)) (fun q => N ≤ q) U U.heap ∧ va_T (.object "java/lang/Object") (z 0) 0 (fun _ => .null) (fun q => N ≤ q) U U.heap ∧ va_Mi "[Ljava/lang/Object;" (z 22) U
theorem y_Z.to {N : Nat} {z : Nat → Nat} {s U : State} (hv : s.vm.Alike U.vm) (hk : ∀ a : Nat, a < s.heap.size → ¬ N ≤ a → U.heap[a]? = s.heap[a]?) (h : y_Z N z s) : y_Z N z U := ⟨h.1.to hv hk, va_En.moved hv (h.2.1.kept hk), va_Z.moved hv (h.2.2.1.kept hk), va_T.moved hv (h.2.2.2.1.kept hk), va_Z.moved hv (h.2.2.2.2.1.kept hk), va_T.moved hv (h.2.2.2.2.2.1.kept hk), h.2.2.2.2.2.2.moved hv⟩
def y_Pc (D : va_G) (ar : Nat → ClassId) (N : Nat) (z : Nat → Nat) (ws : va_W) (sz w0 : Nat) (av : List Value) : Array Value → State → Prop := va_Pc av (fun U => U.heap.size = sz ∧ N ≤ sz ∧ va_P D y_cl ws U.heap ∧ y_U D ar U ∧ y_Z N z U ∧ va_D (fun q => N ≤ q) ws ∧ y_hs U.heap = w0)
theorem y_blind {D : va_G} {ar : Nat → ClassId} {N : Nat} {z : Nat → Nat} {ws : va_W} {sz w0 : Nat} {av : List Value} : FrameBlind (y_Pc D ar N z ws sz w0 av) := fun a U g mk q => by
  obtain ⟨q0, q1, q2, qP, qU, qZ, qD, qh⟩ := q
  exact ⟨q0, q1, q2, qP, y_U.same (s := U) (U := U.calling g mk a) rfl qU, y_Z.to (s := U) (U := U.calling g mk a) (Vm.Alike.refl U.vm) (fun _ _ _ => rfl) qZ, qD, qh⟩
theorem y_pre {D : va_G} {ar : Nat → ClassId} {N : Nat} {z : Nat → Nat} {ws : va_W} {av : List Value} {A : Nat → Prop} {s U : State} {H : Heap} {locs : List Loc} (hU : U.heap = H) (hW : s.WarmedH U.vm) (hP : va_P D y_cl ws H) (hD : va_D A ws) (h : y_U D ar s) (hz : y_Z N z s) (hS : va_S A s.heap H locs) (hAN : ∀ q, A q → N ≤ q) (hN : N ≤ s.heap.size) : y_Pc D ar N z ws H.size (y_hs H) av av.toArray U :=
  ⟨rfl, by rw [hU], Nat.le_trans hN hS.1, by rw [hU]; exact hP, y_U.warm hW h, y_Z.to hW.alike (fun a h1 h2 => by rw [hU]; exact hS.2.1 a h1 (fun h3 => h2 (hAN a h3))) hz, hD.weaken (fun _ q _ h => hAN q.1 h), by rw [hU]⟩
section YW
variable {p : Program} {l : Launch} {e : Env} {R : Room} {s : State} {m : MethodId} {args : Array Value} {below : List Frame} {meth : Method} {c : Code} {H : Heap} {locs : List Loc} {cells slots : Nat} {Q : State → Prop}
theorem y_book {T : State} (X : Stand p l e R s m args below meth c T locs cells slots) : y_hs T.heap = y_hs s.heap + ((T.heap.toList.drop s.heap.size).map (·.slots.size)).sum := by
  have h1 := X.book
  have h0 : s.slotsTrue = true := by
    have h := X.room
    simp only [State.hasRoom, Bool.and_eq_true] at h
    exact h.2
  have e1 : T.slotsUsed = y_hs T.heap := by simpa [State.slotsTrue, y_hs] using h1
  have e0 : s.slotsUsed = y_hs s.heap := by simpa [State.slotsTrue, y_hs] using h0
  have h2 := X.same.2.2.2.1
  rw [← e1, ← e0]
  exact h2
/-- what the counters tell of the heap -/
theorem y_know {g : JFrame} (k : s.heap.size ≤ H.size → H.size ≤ s.heap.size + cells → y_hs s.heap ≤ y_hs H → y_hs H ≤ y_hs s.heap + slots → W p l e R s m args below meth c H locs cells slots Q g) : W p l e R s m args below meth c H locs cells slots Q g := fun T hT X => by
  subst hT
  have hb := y_book X
  exact k X.same.2.1 X.same.2.2.1 (by omega) (by have := X.same.2.2.2.2.1; rw [hb]; exact Nat.add_le_add_left this _) T rfl X
/-- the counters set to what the heap is -/
theorem y_tight {g : JFrame} {k n : Nat} (h1 : H.size ≤ s.heap.size + k) (h2 : y_hs H ≤ y_hs s.heap + n) (kk : W p l e R s m args below meth c H locs k n Q g) : W p l e R s m args below meth c H locs cells slots Q g := fun T hT X => by
  subst hT
  have hb := y_book X
  refine kk T rfl { X with same := ⟨X.same.1, X.same.2.1, h1, X.same.2.2.2.1, ?_, X.same.2.2.2.2.2⟩ }
  show ((T.heap.toList.drop s.heap.size).map (·.slots.size)).sum ≤ n
  omega
end YW
