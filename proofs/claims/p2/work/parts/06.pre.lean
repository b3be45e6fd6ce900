-- ===== 06.pre: what every contract takes as given of the state =====
def x_str : List (String × Nat × String) := [("ChannelMachine", 33, "not a character of a text"), ("ChannelMachine", 43, "no room in the text"), ("ChannelMachine", 62, "not a program"), ("ChannelMachine", 81, "not a number of acts"), ("ChannelMachine", 86, "no program to be run"), ("ChannelMachine$Machine", 298, "division by 0"), ("ChannelMachine$Machine", 271, "clash"), ("ChannelMachine$Machine", 130, "deadlock"), ("ChannelMachine", 101, "no room for a gift"), ("ChannelMachine", 115, "the box is empty"), ("ChannelMachine", 122, "not a variable"), ("ChannelMachine", 128, "not a channel")]
/-- what the tables say at a state, beside the words -/
def x_U (D : va_G) (ar : Nat → ClassId) (U : State) : Prop := va_K D x_cl (x_tys ar) U ∧ (∀ w ∈ x_nest, va_Nw w U) ∧ va_AO "ChannelMachine$Channel" U ∧ (∀ q ∈ x_str, ∃ a : Nat, vk_R q.1 q.2.1 q.2.2 a U) ∧ va_Fw "java/util/ArrayList" ⟨"java/util/List", "size", "()I"⟩ ⟨"java/util/ArrayList", "size", "()I"⟩ U ∧ va_Nc "java/lang/IllegalStateException" "java/lang/IllegalArgumentException" U
theorem x_Nc_warm {C T : String} {s U : State} (hW : s.WarmedH U.vm) (h : va_Nc C T s) : va_Nc C T U := by
  obtain ⟨c, t, h1, h2, h3⟩ := h
  exact ⟨c, t, by rw [hW.alike.findClass]; exact h1, by rw [hW.alike.findClass]; exact h2, by rw [hW.alike.assignable]; exact h3⟩
theorem x_U.warm {D : va_G} {ar : Nat → ClassId} {s U : State} (hW : s.WarmedH U.vm) (h : x_U D ar s) : x_U D ar U := ⟨va_K.moved hW.alike h.1, fun w hw => x_nk_warm (List.mem_filter.mp hw).2 hW (h.2.1 w hw), h.2.2.1.moved hW.alike, fun q hq => by
  obtain ⟨a, ha⟩ := h.2.2.2.1 q hq
  exact ⟨a, ha.warm hW⟩, h.2.2.2.2.1.moved (by decide) hW.alike, x_Nc_warm hW h.2.2.2.2.2⟩
theorem x_U.same {D : va_G} {ar : Nat → ClassId} {s U : State} (hW : s.vm = U.vm) (h : x_U D ar s) : x_U D ar U := x_U.warm (by rw [← hW]; exact State.WarmedH.refl s) h
/-- the statics that are read: they lie below N -/
def x_Z (N : Nat) (z : Nat → Nat) (U : State) : Prop := va_Z "java/util/ArrayList" "DEFAULTCAPACITY_EMPTY_ELEMENTDATA" "[Ljava/lang/Object;" (.ref (z 0)) (fun q => N ≤ q) U U.heap ∧ vx_Zq Bundle.tN "UNASSIGNED_STACK" Bundle.steD (fun q => N ≤ q) U U.heap ∧ vx_Zq Bundle.tN "SUPPRESSED_SENTINEL" Bundle.listD (fun q => N ≤ q) U U.heap ∧ va_Z "ChannelMachine$Kind" "LOOP" "LChannelMachine$Kind;" (.ref (z 1)) (fun q => N ≤ q) U U.heap ∧ va_Z "ChannelMachine$Kind" "CONDITION" "LChannelMachine$Kind;" (.ref (z 2)) (fun q => N ≤ q) U U.heap
theorem x_Z.to {N : Nat} {z : Nat → Nat} {s U : State} (hv : s.vm.Alike U.vm) (hk : ∀ a : Nat, a < s.heap.size → ¬ N ≤ a → U.heap[a]? = s.heap[a]?) (h : x_Z N z s) : x_Z N z U := ⟨va_Z.moved hv (h.1.kept hk), vx_Zq.moved hv (h.2.1.kept hk), vx_Zq.moved hv (h.2.2.1.kept hk), va_Z.moved hv (h.2.2.2.1.kept hk), va_Z.moved hv (h.2.2.2.2.kept hk)⟩
def x_Pc (D : va_G) (ar : Nat → ClassId) (N : Nat) (z : Nat → Nat) (ws : va_W) (sz : Nat) (av : List Value) : Array Value → State → Prop := va_Pc av (fun U => U.heap.size = sz ∧ N ≤ sz ∧ va_P D x_cl ws U.heap ∧ x_U D ar U ∧ x_Z N z U ∧ va_D (fun q => N ≤ q) ws)
theorem x_blind {D : va_G} {ar : Nat → ClassId} {N : Nat} {z : Nat → Nat} {ws : va_W} {sz : Nat} {av : List Value} : FrameBlind (x_Pc D ar N z ws sz av) := fun a U g mk q => by
  obtain ⟨q0, q1, q2, qP, qU, qZ, qD⟩ := q
  exact ⟨q0, q1, q2, qP, x_U.same (s := U) (U := U.calling g mk a) rfl qU, x_Z.to (s := U) (U := U.calling g mk a) (Vm.Alike.refl U.vm) (fun _ _ _ => rfl) qZ, qD⟩
/-- a callee's start out of the caller's place -/
theorem x_pre {D : va_G} {ar : Nat → ClassId} {N : Nat} {z : Nat → Nat} {ws : va_W} {av : List Value} {A : Nat → Prop} {s U : State} {H : Heap} {locs : List Loc} (hU : U.heap = H) (hW : s.WarmedH U.vm) (hP : va_P D x_cl ws H) (hD : va_D A ws) (h : x_U D ar s) (hz : x_Z N z s) (hS : va_S A s.heap H locs) (hAN : ∀ q, A q → N ≤ q) (hN : N ≤ s.heap.size) : x_Pc D ar N z ws H.size av av.toArray U :=
  ⟨rfl, by rw [hU], Nat.le_trans hN hS.1, by rw [hU]; exact hP, x_U.warm hW h, x_Z.to hW.alike (fun a h1 h2 => by rw [hU]; exact hS.2.1 a h1 (fun h3 => h2 (hAN a h3))) hz, hD.weaken (fun _ q _ h => hAN q.1 h)⟩
theorem x_AN {N : Nat} {ws : va_W} {sz : Nat} (hD : va_D (fun q => N ≤ q) ws) (hN : N ≤ sz) : ∀ q, va_A ws sz q → N ≤ q := fun q h => by
  rcases h with ⟨k, e, hk⟩ | h
  · exact hD.2 k _ hk
  · exact Nat.le_trans hN h
