-- ===== 62.run: outcome, run of the reference, by program =====
theorem k_1116 : (Jvm.Cond.methodLink "ChannelMachineModel" (110 : Nat) ({ cls := "ChannelMachineModel", name := "bad", desc := "(Z)Z" } : Jvm.MethodName)) ∈ x_T := x_at 1116 (by decide +kernel) (by decide +kernel)
theorem k_1118 : (Jvm.Cond.instanceMethod ({ cls := "ChannelMachineModel", name := "bad", desc := "(Z)Z" } : Jvm.MethodName)) ∈ x_T := x_at 1118 (by decide +kernel) (by decide +kernel)
theorem k_1119 : (Jvm.Cond.code ({ cls := "ChannelMachineModel", name := "bad", desc := "(Z)Z" } : Jvm.MethodName) prog_12_method_4_code (2 : Nat) (Option.some Jvm.ClassFile.FieldType.boolean)) ∈ x_T := x_at 1119 (by decide +kernel) (by decide +kernel)
theorem k_1202 : (Jvm.Cond.methodLink "ChannelMachineModel" (268 : Nat) ({ cls := "ChannelMachineModel", name := "outcome", desc := "(II)I" } : Jvm.MethodName)) ∈ x_T := x_at 1202 (by decide +kernel) (by decide +kernel)
theorem k_1204 : (Jvm.Cond.instanceMethod ({ cls := "ChannelMachineModel", name := "outcome", desc := "(II)I" } : Jvm.MethodName)) ∈ x_T := x_at 1204 (by decide +kernel) (by decide +kernel)
theorem k_1205 : (Jvm.Cond.code ({ cls := "ChannelMachineModel", name := "outcome", desc := "(II)I" } : Jvm.MethodName) prog_12_method_41_code (3 : Nat) (Option.some Jvm.ClassFile.FieldType.int)) ∈ x_T := x_at 1205 (by decide +kernel) (by decide +kernel)
theorem k_1206 : (Jvm.Cond.methodLink "ChannelMachineModel" (262 : Nat) ({ cls := "ChannelMachineModel", name := "settle", desc := "()V" } : Jvm.MethodName)) ∈ x_T := x_at 1206 (by decide +kernel) (by decide +kernel)
theorem k_1208 : (Jvm.Cond.instanceMethod ({ cls := "ChannelMachineModel", name := "settle", desc := "()V" } : Jvm.MethodName)) ∈ x_T := x_at 1208 (by decide +kernel) (by decide +kernel)
theorem k_1209 : (Jvm.Cond.code ({ cls := "ChannelMachineModel", name := "settle", desc := "()V" } : Jvm.MethodName) prog_12_method_28_code (3 : Nat) (Option.none : Option Jvm.ClassFile.FieldType)) ∈ x_T := x_at 1209 (by decide +kernel) (by decide +kernel)
theorem k_1217 : (Jvm.Cond.methodLink "ChannelMachineModel" (265 : Nat) ({ cls := "ChannelMachineModel", name := "grow", desc := "()Z" } : Jvm.MethodName)) ∈ x_T := x_at 1217 (by decide +kernel) (by decide +kernel)
theorem k_1219 : (Jvm.Cond.instanceMethod ({ cls := "ChannelMachineModel", name := "grow", desc := "()Z" } : Jvm.MethodName)) ∈ x_T := x_at 1219 (by decide +kernel) (by decide +kernel)
theorem k_1220 : (Jvm.Cond.code ({ cls := "ChannelMachineModel", name := "grow", desc := "()Z" } : Jvm.MethodName) prog_12_method_29_code (5 : Nat) (Option.some Jvm.ClassFile.FieldType.boolean)) ∈ x_T := x_at 1220 (by decide +kernel) (by decide +kernel)
theorem k_1226 : (Jvm.Cond.methodLink "ChannelMachineModel" (272 : Nat) ({ cls := "ChannelMachineModel", name := "act", desc := "()V" } : Jvm.MethodName)) ∈ x_T := x_at 1226 (by decide +kernel) (by decide +kernel)
theorem k_1228 : (Jvm.Cond.instanceMethod ({ cls := "ChannelMachineModel", name := "act", desc := "()V" } : Jvm.MethodName)) ∈ x_T := x_at 1228 (by decide +kernel) (by decide +kernel)
theorem k_1229 : (Jvm.Cond.code ({ cls := "ChannelMachineModel", name := "act", desc := "()V" } : Jvm.MethodName) prog_12_method_40_code (4 : Nat) (Option.none : Option Jvm.ClassFile.FieldType)) ∈ x_T := x_at 1229 (by decide +kernel) (by decide +kernel)
theorem kp_48 : (Jvm.Cond.selects "ChannelMachineModel" ({ cls := "ChannelMachineModel", name := "bad", desc := "(Z)Z" } : Jvm.MethodName) ({ cls := "ChannelMachineModel", name := "bad", desc := "(Z)Z" } : Jvm.MethodName)) ∈ x_T := x_sel (q := (({ cls := "ChannelMachineModel", name := "bad", desc := "(Z)Z" } : Jvm.MethodName), 45)) 48 (by decide +kernel) (by decide +kernel)
theorem kp_66 : (Jvm.Cond.selects "ChannelMachineModel" ({ cls := "ChannelMachineModel", name := "outcome", desc := "(II)I" } : Jvm.MethodName) ({ cls := "ChannelMachineModel", name := "outcome", desc := "(II)I" } : Jvm.MethodName)) ∈ x_T := x_sel (q := (({ cls := "ChannelMachineModel", name := "outcome", desc := "(II)I" } : Jvm.MethodName), 45)) 66 (by decide +kernel) (by decide +kernel)
theorem kp_67 : (Jvm.Cond.selects "ChannelMachineModel" ({ cls := "ChannelMachineModel", name := "settle", desc := "()V" } : Jvm.MethodName) ({ cls := "ChannelMachineModel", name := "settle", desc := "()V" } : Jvm.MethodName)) ∈ x_T := x_sel (q := (({ cls := "ChannelMachineModel", name := "settle", desc := "()V" } : Jvm.MethodName), 45)) 67 (by decide +kernel) (by decide +kernel)
theorem kp_69 : (Jvm.Cond.selects "ChannelMachineModel" ({ cls := "ChannelMachineModel", name := "grow", desc := "()Z" } : Jvm.MethodName) ({ cls := "ChannelMachineModel", name := "grow", desc := "()Z" } : Jvm.MethodName)) ∈ x_T := x_sel (q := (({ cls := "ChannelMachineModel", name := "grow", desc := "()Z" } : Jvm.MethodName), 45)) 69 (by decide +kernel) (by decide +kernel)
theorem kp_71 : (Jvm.Cond.selects "ChannelMachineModel" ({ cls := "ChannelMachineModel", name := "act", desc := "()V" } : Jvm.MethodName) ({ cls := "ChannelMachineModel", name := "act", desc := "()V" } : Jvm.MethodName)) ∈ x_T := x_sel (q := (({ cls := "ChannelMachineModel", name := "act", desc := "()V" } : Jvm.MethodName), 45)) 71 (by decide +kernel) (by decide +kernel)
theorem d_Mo_outcome_0 : decode prog_12_method_41_code 0 = .ok (.aload_n 0, 1) := by decide +kernel
theorem d_Mo_outcome_1 : decode prog_12_method_41_code 1 = .ok (.invokevirtual 262, 3) := by decide +kernel
theorem d_Mo_outcome_4 : decode prog_12_method_41_code 4 = .ok (.aload_n 0, 1) := by decide +kernel
theorem d_Mo_outcome_5 : decode prog_12_method_41_code 5 = .ok (.getfield 208, 3) := by decide +kernel
theorem d_Mo_outcome_8 : decode prog_12_method_41_code 8 = .ok (.iconst 2, 1) := by decide +kernel
theorem d_Mo_outcome_9 : decode prog_12_method_41_code 9 = .ok (.if_icmp .ne 5, 3) := by decide +kernel
theorem d_Mo_outcome_12 : decode prog_12_method_41_code 12 = .ok (.iconst 0, 1) := by decide +kernel
theorem d_Mo_outcome_13 : decode prog_12_method_41_code 13 = .ok (.ireturn, 1) := by decide +kernel
theorem d_Mo_outcome_14 : decode prog_12_method_41_code 14 = .ok (.aload_n 0, 1) := by decide +kernel
theorem d_Mo_outcome_15 : decode prog_12_method_41_code 15 = .ok (.getfield 192, 3) := by decide +kernel
theorem d_Mo_outcome_18 : decode prog_12_method_41_code 18 = .ok (.iload_n 2, 1) := by decide +kernel
theorem d_Mo_outcome_19 : decode prog_12_method_41_code 19 = .ok (.isub, 1) := by decide +kernel
theorem d_Mo_outcome_20 : decode prog_12_method_41_code 20 = .ok (.iload_n 1, 1) := by decide +kernel
theorem d_Mo_outcome_21 : decode prog_12_method_41_code 21 = .ok (.if_icmp .ne 5, 3) := by decide +kernel
theorem d_Mo_outcome_24 : decode prog_12_method_41_code 24 = .ok (.iconst 1, 1) := by decide +kernel
theorem d_Mo_outcome_25 : decode prog_12_method_41_code 25 = .ok (.ireturn, 1) := by decide +kernel
theorem d_Mo_outcome_26 : decode prog_12_method_41_code 26 = .ok (.aload_n 0, 1) := by decide +kernel
theorem d_Mo_outcome_27 : decode prog_12_method_41_code 27 = .ok (.getfield 79, 3) := by decide +kernel
theorem d_Mo_outcome_30 : decode prog_12_method_41_code 30 = .ok (.ifCond .ge 10, 3) := by decide +kernel
theorem d_Mo_outcome_33 : decode prog_12_method_41_code 33 = .ok (.aload_n 0, 1) := by decide +kernel
theorem d_Mo_outcome_34 : decode prog_12_method_41_code 34 = .ok (.invokevirtual 265, 3) := by decide +kernel
theorem d_Mo_outcome_37 : decode prog_12_method_41_code 37 = .ok (.ifCond .eq 5, 3) := by decide +kernel
theorem d_Mo_outcome_40 : decode prog_12_method_41_code 40 = .ok (.iconst (-1), 1) := by decide +kernel
theorem d_Mo_outcome_41 : decode prog_12_method_41_code 41 = .ok (.ireturn, 1) := by decide +kernel
theorem d_Mo_outcome_42 : decode prog_12_method_41_code 42 = .ok (.aload_n 0, 1) := by decide +kernel
theorem d_Mo_outcome_43 : decode prog_12_method_41_code 43 = .ok (.getfield 82, 3) := by decide +kernel
theorem d_Mo_outcome_46 : decode prog_12_method_41_code 46 = .ok (.iconst 4, 1) := by decide +kernel
theorem d_Mo_outcome_47 : decode prog_12_method_41_code 47 = .ok (.iaload, 1) := by decide +kernel
theorem d_Mo_outcome_48 : decode prog_12_method_41_code 48 = .ok (.ifCond .ge 12, 3) := by decide +kernel
theorem d_Mo_outcome_51 : decode prog_12_method_41_code 51 = .ok (.aload_n 0, 1) := by decide +kernel
theorem d_Mo_outcome_52 : decode prog_12_method_41_code 52 = .ok (.getfield 91, 3) := by decide +kernel
theorem d_Mo_outcome_55 : decode prog_12_method_41_code 55 = .ok (.iconst 5, 1) := by decide +kernel
theorem d_Mo_outcome_56 : decode prog_12_method_41_code 56 = .ok (.iaload, 1) := by decide +kernel
theorem d_Mo_outcome_57 : decode prog_12_method_41_code 57 = .ok (.ifCond .lt 5, 3) := by decide +kernel
theorem d_Mo_outcome_60 : decode prog_12_method_41_code 60 = .ok (.iconst 2, 1) := by decide +kernel
theorem d_Mo_outcome_61 : decode prog_12_method_41_code 61 = .ok (.ireturn, 1) := by decide +kernel
theorem d_Mo_outcome_62 : decode prog_12_method_41_code 62 = .ok (.aload_n 0, 1) := by decide +kernel
theorem d_Mo_outcome_63 : decode prog_12_method_41_code 63 = .ok (.iconst 2, 1) := by decide +kernel
theorem d_Mo_outcome_64 : decode prog_12_method_41_code 64 = .ok (.putfield 103, 3) := by decide +kernel
theorem d_Mo_outcome_67 : decode prog_12_method_41_code 67 = .ok (.iconst (-1), 1) := by decide +kernel
theorem d_Mo_outcome_68 : decode prog_12_method_41_code 68 = .ok (.ireturn, 1) := by decide +kernel
theorem d_Mo_run_0 : decode prog_12_method_42_code 0 = .ok (.aload_n 0, 1) := by decide +kernel
theorem d_Mo_run_1 : decode prog_12_method_42_code 1 = .ok (.iload_n 1, 1) := by decide +kernel
theorem d_Mo_run_2 : decode prog_12_method_42_code 2 = .ok (.iconst 1, 1) := by decide +kernel
theorem d_Mo_run_3 : decode prog_12_method_42_code 3 = .ok (.sipush 200, 3) := by decide +kernel
theorem d_Mo_run_6 : decode prog_12_method_42_code 6 = .ok (.invokestatic 106, 3) := by decide +kernel
theorem d_Mo_run_9 : decode prog_12_method_42_code 9 = .ok (.invokevirtual 110, 3) := by decide +kernel
theorem d_Mo_run_12 : decode prog_12_method_42_code 12 = .ok (.ifCond .eq 5, 3) := by decide +kernel
theorem d_Mo_run_15 : decode prog_12_method_42_code 15 = .ok (.iconst 0, 1) := by decide +kernel
theorem d_Mo_run_16 : decode prog_12_method_42_code 16 = .ok (.ireturn, 1) := by decide +kernel
theorem d_Mo_run_17 : decode prog_12_method_42_code 17 = .ok (.aload_n 0, 1) := by decide +kernel
theorem d_Mo_run_18 : decode prog_12_method_42_code 18 = .ok (.getfield 208, 3) := by decide +kernel
theorem d_Mo_run_21 : decode prog_12_method_42_code 21 = .ok (.iconst 1, 1) := by decide +kernel
theorem d_Mo_run_22 : decode prog_12_method_42_code 22 = .ok (.if_icmp .eq 9, 3) := by decide +kernel
theorem d_Mo_run_25 : decode prog_12_method_42_code 25 = .ok (.aload_n 0, 1) := by decide +kernel
theorem d_Mo_run_26 : decode prog_12_method_42_code 26 = .ok (.iconst 2, 1) := by decide +kernel
theorem d_Mo_run_27 : decode prog_12_method_42_code 27 = .ok (.invokevirtual 117, 3) := by decide +kernel
theorem d_Mo_run_30 : decode prog_12_method_42_code 30 = .ok (.ireturn, 1) := by decide +kernel
theorem d_Mo_run_31 : decode prog_12_method_42_code 31 = .ok (.aload_n 0, 1) := by decide +kernel
theorem d_Mo_run_32 : decode prog_12_method_42_code 32 = .ok (.getfield 192, 3) := by decide +kernel
theorem d_Mo_run_35 : decode prog_12_method_42_code 35 = .ok (.istore_n 2, 1) := by decide +kernel
theorem d_Mo_run_36 : decode prog_12_method_42_code 36 = .ok (.aload_n 0, 1) := by decide +kernel
theorem d_Mo_run_37 : decode prog_12_method_42_code 37 = .ok (.iload_n 1, 1) := by decide +kernel
theorem d_Mo_run_38 : decode prog_12_method_42_code 38 = .ok (.iload_n 2, 1) := by decide +kernel
theorem d_Mo_run_39 : decode prog_12_method_42_code 39 = .ok (.invokevirtual 268, 3) := by decide +kernel
theorem d_Mo_run_42 : decode prog_12_method_42_code 42 = .ok (.istore_n 3, 1) := by decide +kernel
theorem d_Mo_run_43 : decode prog_12_method_42_code 43 = .ok (.iload_n 3, 1) := by decide +kernel
theorem d_Mo_run_44 : decode prog_12_method_42_code 44 = .ok (.ifCond .lt 5, 3) := by decide +kernel
theorem d_Mo_run_47 : decode prog_12_method_42_code 47 = .ok (.iload_n 3, 1) := by decide +kernel
theorem d_Mo_run_48 : decode prog_12_method_42_code 48 = .ok (.ireturn, 1) := by decide +kernel
theorem d_Mo_run_49 : decode prog_12_method_42_code 49 = .ok (.aload_n 0, 1) := by decide +kernel
theorem d_Mo_run_50 : decode prog_12_method_42_code 50 = .ok (.getfield 103, 3) := by decide +kernel
theorem d_Mo_run_53 : decode prog_12_method_42_code 53 = .ok (.ifCond .ne 14, 3) := by decide +kernel
theorem d_Mo_run_56 : decode prog_12_method_42_code 56 = .ok (.aload_n 0, 1) := by decide +kernel
theorem d_Mo_run_57 : decode prog_12_method_42_code 57 = .ok (.getfield 79, 3) := by decide +kernel
theorem d_Mo_run_60 : decode prog_12_method_42_code 60 = .ok (.ifCond .lt 7, 3) := by decide +kernel
theorem d_Mo_run_63 : decode prog_12_method_42_code 63 = .ok (.aload_n 0, 1) := by decide +kernel
theorem d_Mo_run_64 : decode prog_12_method_42_code 64 = .ok (.invokevirtual 272, 3) := by decide +kernel
theorem d_Mo_run_67 : decode prog_12_method_42_code 67 = .ok (.aload_n 0, 1) := by decide +kernel
theorem d_Mo_run_68 : decode prog_12_method_42_code 68 = .ok (.getfield 103, 3) := by decide +kernel
theorem d_Mo_run_71 : decode prog_12_method_42_code 71 = .ok (.ifCond .ne 6, 3) := by decide +kernel
theorem d_Mo_run_74 : decode prog_12_method_42_code 74 = .ok (.goto (-38), 3) := by decide +kernel
theorem d_Mo_run_77 : decode prog_12_method_42_code 77 = .ok (.aload_n 0, 1) := by decide +kernel
theorem d_Mo_run_78 : decode prog_12_method_42_code 78 = .ok (.iconst 3, 1) := by decide +kernel
theorem d_Mo_run_79 : decode prog_12_method_42_code 79 = .ok (.putfield 208, 3) := by decide +kernel
theorem d_Mo_run_82 : decode prog_12_method_42_code 82 = .ok (.iconst 0, 1) := by decide +kernel
theorem d_Mo_run_83 : decode prog_12_method_42_code 83 = .ok (.ireturn, 1) := by decide +kernel
/-- the current task stands before an ACT -/
def m_CUR (I : Nat → Int32) (A : Nat → Nat → Int32) : Prop := ∃ (V : Nat → Prop) (own pown : Nat → Nat) (bl : List Nat) (role : Nat → Nat) (n q : Nat) (pn br st : Nat → Nat) (t : Nat), I 29 = Int32.ofNat q ∧ m_RI A q V own pown bl role n pn br st ∧ t < 90 ∧ I 30 = Int32.ofNat t ∧ m_al A t ∧ st t = 2 ∧ ¬ A 1 (pn t) = 10 ∧ ¬ A 1 (pn t) = 11 ∧ ¬ A 1 (pn t) = 12
/-- what holds of the reference between calls -/
def m_OK (S : Nat) (I : Nat → Int32) (A : Nat → Nat → Int32) : Prop := (S ≤ 72 ∧ I 4 = Int32.ofNat S) ∧ m_BX I ∧ (I 9 = 0 ∨ I 9 = 2 ∨ I 9 = 3 ∨ (I 9 = 1 ∧ m_RUN I A))
theorem m_tc90 {th ti : Nat → Int32} : ∀ n, m_tc th ti n ≤ n := by
  intro n
  induction n with
  | zero => exact Nat.le_refl _
  | succ n ih =>
    unfold m_tc
    split <;> omega
theorem m_BX.fr {L : List Nat} {I I' : Nat → Int32} (h : m_BX I) (hf : m_fr L I I') (h1 : 42 ∉ L) (h2 : 43 ∉ L) : m_BX I' := by
  obtain ⟨⟨g, hg, e⟩, b, hb, e2⟩ := h
  exact ⟨⟨g, hg, (hf 42 h1).trans e⟩, b, hb, (hf 43 h2).trans e2⟩
theorem m_SET.run {I : Nat → Int32} {A : Nat → Nat → Int32} (h : m_SET I A) : m_RUN I A := by
  obtain ⟨V, own, pown, bl, role, n, q, pn, br, st, h1, h2, h3⟩ := h
  refine ⟨V, own, pown, bl, role, n, q, pn, br, st, h1, h2, ?_⟩
  rcases h3 with ⟨h3, _⟩ | ⟨t, h4, h5, h6, h7, _⟩
  · exact Or.inl h3
  · exact Or.inr ⟨t, h4, h5, h6, h7⟩
theorem x_200 {v : Int32} (h1 : ¬ v < 1) (h2 : ¬ 200 < v) : ∃ n : Nat, v = Int32.ofNat n ∧ 1 ≤ n ∧ n ≤ 200 := by
  rw [x_lt] at h1 h2
  have e1 : (1 : Int32).toInt = 1 := by decide
  have e2 : (200 : Int32).toInt = 200 := by decide
  rw [e1] at h1; rw [e2] at h2
  refine ⟨v.toInt.toNat, ?_, by omega, by omega⟩
  apply Int32.toInt_inj.mp
  rw [x_nI (by omega)]
  omega
theorem x_subE {a b c : Int32} (h : a = b + c) : a - b = c := by rw [h]; rw [Int32.add_comm, Int32.add_sub_cancel]
section XV
variable {p : Program} {l : Launch} {e : Env} {R : Room} {s : State} {m : MethodId} {args : Array Value} {below : List Frame} {meth : Method} {c : Code} {Q : State → Prop} {pc : Nat} {rest : List Value}
/-- a loop with a measure whose turns take room -/
theorem x_whileC (a b : Nat) (Inv : Nat → Nat → Heap → List Loc → Array Slot → Prop)
    (step : ∀ n k, (∀ n', n' < n → ∀ k' H locs ls, Inv n' k' H locs ls → W p l e R s m args below meth c H locs (a * k') (b * k') Q (F0 m pc ls rest)) → ∀ H locs ls, Inv n k H locs ls → W p l e R s m args below meth c H locs (a * k) (b * k) Q (F0 m pc ls rest))
    {n k : Nat} {H : Heap} {locs : List Loc} {ls : Array Slot} (h0 : Inv n k H locs ls) : W p l e R s m args below meth c H locs (a * k) (b * k) Q (F0 m pc ls rest) := by
  have h : ∀ n, ∀ k H locs ls, Inv n k H locs ls → W p l e R s m args below meth c H locs (a * k) (b * k) Q (F0 m pc ls rest) := by
    intro n
    induction n using Nat.strongRecOn with
    | ind n ih => intro k; exact step n k ih
  exact h n k H locs ls h0
end XV
set_option maxHeartbeats 4000000 in
set_option maxRecDepth 100000 in
theorem m_outcome (l : Launch) (dC : Nat → ClassId) (dI : Nat → Nat → Nat) (ar : Nat → ClassId) (N0 : Nat) (z : Nat → Nat) (h0 : Nat) (ad : Nat → Nat) (I : Nat → Int32) (T : Int64) (A : Nat → Nat → Int32) (U : Nat → Int64) (nv fv : Int32) (sz : Nat) (h9 : I 9 = 1) (h33 : I 33 = 0) (hrun : m_RUN I A) : Met l ({ cls := "ChannelMachineModel", name := "outcome", desc := "(II)I" } : Jvm.MethodName) ((Jvm.Cond.code ({ cls := "ChannelMachineModel", name := "outcome", desc := "(II)I" } : Jvm.MethodName) prog_12_method_41_code (3 : Nat) (Option.some Jvm.ClassFile.FieldType.int)) :: x_T) ({ frames := 3, cells := 0, slots := 0, locals := 65 }) (x_Pc (dC, dI) ar N0 z (m_W h0 ad ar I T A U) sz [.ref h0, .int nv, .int fv]) (va_Qi (fun (r : Int32) (u : (Nat → Int32) × Int64 × (Nat → Nat → Int32) × (Nat → Int64)) => m_fr [9, 29, 30, 33] I u.1 ∧ m_fa [20, 22, 24, 27, 28] A u.2.2.1 ∧ u.2.2.2 = U ∧ ((r = 0 ∧ u.1 9 = 2) ∨ (u.1 9 = 1 ∧ (((r = 1 ∨ r = 2) ∧ m_RUN u.1 u.2.2.1) ∨ (r = -1 ∧ u.1 33 = 2) ∨ (r = -1 ∧ u.1 33 = 0 ∧ ¬ u.1 32 - fv = nv ∧ ((m_CUR u.1 u.2.2.1 ∧ m_tc (u.2.2.1 27) (u.2.2.1 28) 90 ≤ m_tc (A 27) (A 28) 90) ∨ (u.1 30 = -1 ∧ m_RUN u.1 u.2.2.1 ∧ m_tc (u.2.2.1 27) (u.2.2.1 28) 90 < m_tc (A 27) (A 28) 90))))))) (fun u t => va_P (dC, dI) x_cl (m_W h0 ad ar u.1 u.2.1 u.2.2.1 u.2.2.2) t.heap) (va_A (m_W h0 ad ar I T A U) sz)) 0 0 (va_A (m_W h0 ad ar I T A U) sz) := by
  refine Met.ofW (cc := prog_12_method_41_code) (maxL := 3) (ret := (some .int)) (by decide) rfl ?_
  intro p e s m args below meth c s₁ B hml hv
  obtain ⟨rfl, hsz, hN0, hP, hU, hZ, hD0⟩ := hv
  have hK := hU.1
  have hx := B.exec
  have hb := B.bytes
  have hr := B.returns
  have hts : ∀ w ∈ x_T, w.before ([.ref h0, .int nv, .int fv] : List Value).toArray s = true := fun w h => atoms_spec (ws := (Jvm.Cond.code ({ cls := "ChannelMachineModel", name := "outcome", desc := "(II)I" } : Jvm.MethodName) prog_12_method_41_code (3 : Nat) (Option.some Jvm.ClassFile.FieldType.int)) :: x_T) B.pre w (List.mem_cons_of_mem _ h)
  have hown : s.vm.findClass "ChannelMachineModel" = some m.cls := findClass_of_methodNamed B.named
  have hlocks := B.notSynchronized
  subst hsz
  have hD := hD0.self (sz := s.heap.size)
  have hAN := x_AN hD0 hN0
  generalize hAe : va_A (m_W h0 ad ar I T A U) s.heap.size = Bq at hD hAN ⊢
  have hA : ∀ q : Nat, s.heap.size ≤ q → Bq q := fun q h => by rw [← hAe]; exact Or.inr h
  have hS : va_S Bq s.heap s.heap [] := va_S.rf
  have hl := lv_entry ([.ref h0, .int nv, .int fv]) (n := 3) (Nat.le_of_ble_eq_true rfl)
  rw [lg_entry_eq]
  generalize (lg_sl ([.ref h0, .int nv, .int fv]) ++ List.replicate (3 - (lg_sl ([.ref h0, .int nv, .int fv])).length) Slot.unset).toArray = ls at hl ⊢
  have hl : lv_has ls 3 [(0, .ref h0), (1, .int nv), (2, .int fv)] := hl
  refine lv_aload_n hx hb d_Mo_outcome_0 rfl (lv_at hl 0 rfl) ?_
  have hFc := m_free hD hS hA
  refine va_callv (va_runV (As := []) (rest := []) ⟨hx, hb, hml, hown, hts⟩ (m_settle l dC dI ar N0 z h0 ad I T A U  s.heap.size h9 hrun) (cwV 0 hts (x_goodV k_1206 k_1208 kp_67 k_9 k_1209) rfl rfl rfl (by decide +kernel) ⟨Nat.le_of_ble_eq_true rfl, Nat.le_of_ble_eq_true rfl⟩) ⟨x_blind, va_recv hK hP (ci := 6) (q0 := 0) rfl rfl, fun U9 hU9 hW9 => x_pre hU9 hW9 hP hD hU hZ hS hAN hN0⟩ rfl rfl hl.1 rfl (lv_room (Nat.le_of_ble_eq_true rfl)) d_Mo_outcome_1 ⟨Nat.le_of_ble_eq_true rfl, Nat.le_of_ble_eq_true rfl⟩) hS (fun q _ h => hFc q h) hFc (fun u t H1 locs ht hvm hw hB hz1 hk1 hS => ?_)
  obtain ⟨I2, T2, A2, U2⟩ := u
  dsimp only at hw hB
  rw [ht] at hB
  have hP : va_P (dC, dI) x_cl (m_W h0 ad ar I2 T2 A2 U2) H1 := hB
  have hD : va_D Bq (m_W h0 ad ar I2 T2 A2 U2) := m_D hD
  generalize H1 = H at hP hS ⊢
  refine W.widen (k := 0) (n := 0) (Nat.le_of_ble_eq_true rfl) (Nat.le_of_ble_eq_true rfl) ?_
  obtain ⟨fr3, fa3, eT, eU, hal0, hs9⟩ := hw
  cases eT
  cases eU
  have htc : m_tc (A2 27) (A2 28) 90 ≤ m_tc (A 27) (A 28) 90 := m_tc_le 90 (fun t _ h1 h2 => ⟨hal0 t h1, by rw [fa3 28 (by decide)] at h2; exact h2⟩)
  rcases hs9 with hs9 | ⟨hs9, hset⟩
  · refine lv_aload_n hx hb d_Mo_outcome_4 rfl (lv_at hl 0 rfl) ?_
    refine m_g hx hb hts hown hK hP 9 (by decide) rfl (hts _ k_976) (v := .int 2) (congrArg Value.int hs9) d_Mo_outcome_5 ?_
    refine lv_iconst (v := 2) hx hb d_Mo_outcome_8 (by decide) ?_
    refine lv_icmp_ne (tgt := 14) hx hb d_Mo_outcome_9 (by decide) (fun c_4 => absurd rfl c_4) (fun _ => ?_)
    refine lv_iconst (v := 0) hx hb d_Mo_outcome_12 (by decide) ?_
    refine W.widen (k := 0) (n := 0) (Nat.le_of_ble_eq_true rfl) (Nat.le_of_ble_eq_true rfl) ?_
    exact W.iret (v := 0) hx hb hr (fun t ht hW => ⟨⟨0, (I2, T, A2, U), rfl, ⟨(m_fr.rf.tr fr3 (by decide)), (m_fa.rf.tr fa3 (by decide)), rfl, Or.inl ⟨rfl, hs9⟩⟩, by dsimp only; rw [ht]; exact hP⟩, hS.F ht⟩) hS.2.2 d_Mo_outcome_13
  · have hrun1 := hset.run
    obtain ⟨V, own, pown, bl, role, k9, q, pn, br, st, i29, hri, hcu⟩ := hset
    rcases hcu with ⟨c30, hq0⟩ | ⟨t1, ht1, c30, hal, hst, n10, n11, n12⟩
    · refine lv_aload_n hx hb d_Mo_outcome_4 rfl (lv_at hl 0 rfl) ?_
      refine m_g hx hb hts hown hK hP 9 (by decide) rfl (hts _ k_976) (v := .int 1) (congrArg Value.int hs9) d_Mo_outcome_5 ?_
      refine lv_iconst (v := 2) hx hb d_Mo_outcome_8 (by decide) ?_
      refine lv_icmp_ne (tgt := 14) hx hb d_Mo_outcome_9 (by decide) (fun _ => ?_) (fun c_5 => absurd c_5 (by decide))
      refine lv_aload_n hx hb d_Mo_outcome_14 rfl (lv_at hl 0 rfl) ?_
      refine m_g hx hb hts hown hK hP 32 (by decide) rfl (hts _ k_999) (v := .int (I2 32)) rfl d_Mo_outcome_15 ?_
      refine lv_iload_n hx hb d_Mo_outcome_18 rfl (lv_at hl 2 rfl) ?_
      refine lv_isub hx hb d_Mo_outcome_19 ?_
      refine lv_iload_n hx hb d_Mo_outcome_20 rfl (lv_at hl 1 rfl) ?_
      refine lv_icmp_ne (tgt := 26) hx hb d_Mo_outcome_21 (by decide) (fun c_6 => ?_) (fun c_6 => ?_)
      · refine lv_aload_n hx hb d_Mo_outcome_26 rfl (lv_at hl 0 rfl) ?_
        refine m_g hx hb hts hown hK hP 30 (by decide) rfl (hts _ k_997) (v := .int (-1)) (congrArg Value.int c30) d_Mo_outcome_27 ?_
        refine lv_if_ge (tgt := 40) hx hb d_Mo_outcome_30 (by decide) (fun c_7 => absurd c_7 (by decide)) (fun _ => ?_)
        refine lv_aload_n hx hb d_Mo_outcome_33 rfl (lv_at hl 0 rfl) ?_
        have hFc := m_free hD hS hA
        refine va_calli (va_runV (As := []) (rest := []) ⟨hx, hb, hml, hown, hts⟩ (m_grow l dC dI ar N0 z h0 ad I2 T A2 U  H.size hrun1 c30) (cwV 0 hts (x_goodV k_1217 k_1219 kp_69 k_9 k_1220) rfl rfl rfl (by decide +kernel) ⟨Nat.le_of_ble_eq_true rfl, Nat.le_of_ble_eq_true rfl⟩) ⟨x_blind, va_recv hK hP (ci := 6) (q0 := 0) rfl rfl, fun U9 hU9 hW9 => x_pre hU9 hW9 hP hD hU hZ hS hAN hN0⟩ rfl rfl hl.1 rfl (lv_room (Nat.le_of_ble_eq_true rfl)) d_Mo_outcome_34 ⟨Nat.le_of_ble_eq_true rfl, Nat.le_of_ble_eq_true rfl⟩) hS (fun q _ h => hFc q h) hFc (fun r_8 u t H1 locs ht hvm hw hB hz1 hk1 hS => ?_)
        obtain ⟨I10, T10, A10, U10⟩ := u
        dsimp only at hw hB
        rw [ht] at hB
        have hP : va_P (dC, dI) x_cl (m_W h0 ad ar I10 T10 A10 U10) H1 := hB
        have hD : va_D Bq (m_W h0 ad ar I10 T10 A10 U10) := m_D hD
        generalize H1 = H at hP hS ⊢
        refine W.widen (k := 0) (n := 0) (Nat.le_of_ble_eq_true rfl) (Nat.le_of_ble_eq_true rfl) ?_
        rcases hw with ⟨rfl, h8⟩ | ⟨rfl, gfr11, gfa11, eU, grun11, gtc11⟩
        · cases h8
          refine lv_if_eq (tgt := 42) hx hb d_Mo_outcome_37 (by decide) (fun _ => ?_) (fun c_12 => absurd (by decide) c_12)
          refine lv_aload_n hx hb d_Mo_outcome_42 rfl (lv_at hl 0 rfl) ?_
          refine m_g hx hb hts hown hK hP 35 (by decide) rfl (hts _ k_1002) (v := .ref (ad 35)) rfl d_Mo_outcome_43 ?_
          refine lv_iconst (v := 4) hx hb d_Mo_outcome_46 (by decide) ?_
          refine m_ld hx hb hK hP 21 rfl (by decide) (j := 4) (by unfold vp_in; decide) d_Mo_outcome_47 ?_
          refine W.eq (g2 := F0 m 48 ls [.int (A2 35 (4))]) (by rw [show Int32.toNatClampNeg (4 : Int32) = 4 from by decide]) ?_
          refine lv_if_ge (tgt := 60) hx hb d_Mo_outcome_48 (by decide) (fun c_13 => ?_) (fun c_13 => ?_)
          · refine lv_iconst (v := 2) hx hb d_Mo_outcome_60 (by decide) ?_
            refine W.widen (k := 0) (n := 0) (Nat.le_of_ble_eq_true rfl) (Nat.le_of_ble_eq_true rfl) ?_
            exact W.iret (v := 2) hx hb hr (fun t ht hW => ⟨⟨2, (I2, T, A2, U), rfl, ⟨(m_fr.rf.tr fr3 (by decide)), (m_fa.rf.tr fa3 (by decide)), rfl, Or.inr ⟨hs9, Or.inl ⟨Or.inr rfl, hrun1⟩⟩⟩, by dsimp only; rw [ht]; exact hP⟩, hS.F ht⟩) hS.2.2 d_Mo_outcome_61
          · refine lv_aload_n hx hb d_Mo_outcome_51 rfl (lv_at hl 0 rfl) ?_
            refine m_g hx hb hts hown hK hP 38 (by decide) rfl (hts _ k_1005) (v := .ref (ad 38)) rfl d_Mo_outcome_52 ?_
            refine lv_iconst (v := 5) hx hb d_Mo_outcome_55 (by decide) ?_
            refine m_ld hx hb hK hP 24 rfl (by decide) (j := 5) (by unfold vp_in; decide) d_Mo_outcome_56 ?_
            refine W.eq (g2 := F0 m 57 ls [.int (A2 38 (5))]) (by rw [show Int32.toNatClampNeg (5 : Int32) = 5 from by decide]) ?_
            refine lv_if_lt (tgt := 62) hx hb d_Mo_outcome_57 (by decide) (fun c_14 => ?_) (fun c_14 => ?_)
            · refine lv_aload_n hx hb d_Mo_outcome_62 rfl (lv_at hl 0 rfl) ?_
              refine lv_iconst (v := 2) hx hb d_Mo_outcome_63 (by decide) ?_
              refine m_p hx hb hts hown hK hP hD hS 33 (by decide) rfl (hts _ k_1000) rfl (by decide +kernel) rfl (by decide) (x := 2) d_Mo_outcome_64 (fun H locs hP hD hS => ?_)
              refine lv_iconst (v := (-1)) hx hb d_Mo_outcome_67 (by decide) ?_
              refine W.widen (k := 0) (n := 0) (Nat.le_of_ble_eq_true rfl) (Nat.le_of_ble_eq_true rfl) ?_
              exact W.iret (v := (-1)) hx hb hr (fun t ht hW => ⟨⟨(-1), ((upd I2 33 2), T, A2, U), rfl, ⟨((m_fr.rf.tr fr3 (by decide)).up (by decide) _), (m_fa.rf.tr fa3 (by decide)), rfl, Or.inr ⟨hs9, Or.inr (Or.inl ⟨rfl, rfl⟩)⟩⟩, by dsimp only; rw [ht]; exact hP⟩, hS.F ht⟩) hS.2.2 d_Mo_outcome_68
            · refine lv_iconst (v := 2) hx hb d_Mo_outcome_60 (by decide) ?_
              refine W.widen (k := 0) (n := 0) (Nat.le_of_ble_eq_true rfl) (Nat.le_of_ble_eq_true rfl) ?_
              exact W.iret (v := 2) hx hb hr (fun t ht hW => ⟨⟨2, (I2, T, A2, U), rfl, ⟨(m_fr.rf.tr fr3 (by decide)), (m_fa.rf.tr fa3 (by decide)), rfl, Or.inr ⟨hs9, Or.inl ⟨Or.inr rfl, hrun1⟩⟩⟩, by dsimp only; rw [ht]; exact hP⟩, hS.F ht⟩) hS.2.2 d_Mo_outcome_61
        · cases eU
          refine lv_if_eq (tgt := 42) hx hb d_Mo_outcome_37 (by decide) (fun c_15 => absurd c_15 (by decide)) (fun _ => ?_)
          refine lv_iconst (v := (-1)) hx hb d_Mo_outcome_40 (by decide) ?_
          refine W.widen (k := 0) (n := 0) (Nat.le_of_ble_eq_true rfl) (Nat.le_of_ble_eq_true rfl) ?_
          exact W.iret (v := (-1)) hx hb hr (fun t ht hW => ⟨⟨(-1), (I10, T10, A10, U), rfl, ⟨((m_fr.rf.tr fr3 (by decide)).tr gfr11 (by decide)), ((m_fa.rf.tr fa3 (by decide)).tr gfa11 (by decide)), rfl, Or.inr ⟨(gfr11 9 (by decide)).trans hs9, Or.inr (Or.inr ⟨rfl, (gfr11 33 (by decide)).trans ((fr3 33 (by decide)).trans h33), (fun h8 => c_6 (by rw [← gfr11 32 (by decide)]; exact h8)), Or.inr ⟨(gfr11 30 (by decide)).trans c30, grun11, Nat.lt_of_lt_of_le gtc11 htc⟩⟩)⟩⟩, by dsimp only; rw [ht]; exact hP⟩, hS.F ht⟩) hS.2.2 d_Mo_outcome_41
      · refine lv_iconst (v := 1) hx hb d_Mo_outcome_24 (by decide) ?_
        refine W.widen (k := 0) (n := 0) (Nat.le_of_ble_eq_true rfl) (Nat.le_of_ble_eq_true rfl) ?_
        exact W.iret (v := 1) hx hb hr (fun t ht hW => ⟨⟨1, (I2, T, A2, U), rfl, ⟨(m_fr.rf.tr fr3 (by decide)), (m_fa.rf.tr fa3 (by decide)), rfl, Or.inr ⟨hs9, Or.inl ⟨Or.inl rfl, hrun1⟩⟩⟩, by dsimp only; rw [ht]; exact hP⟩, hS.F ht⟩) hS.2.2 d_Mo_outcome_25
    · refine lv_aload_n hx hb d_Mo_outcome_4 rfl (lv_at hl 0 rfl) ?_
      refine m_g hx hb hts hown hK hP 9 (by decide) rfl (hts _ k_976) (v := .int 1) (congrArg Value.int hs9) d_Mo_outcome_5 ?_
      refine lv_iconst (v := 2) hx hb d_Mo_outcome_8 (by decide) ?_
      refine lv_icmp_ne (tgt := 14) hx hb d_Mo_outcome_9 (by decide) (fun _ => ?_) (fun c_16 => absurd c_16 (by decide))
      refine lv_aload_n hx hb d_Mo_outcome_14 rfl (lv_at hl 0 rfl) ?_
      refine m_g hx hb hts hown hK hP 32 (by decide) rfl (hts _ k_999) (v := .int (I2 32)) rfl d_Mo_outcome_15 ?_
      refine lv_iload_n hx hb d_Mo_outcome_18 rfl (lv_at hl 2 rfl) ?_
      refine lv_isub hx hb d_Mo_outcome_19 ?_
      refine lv_iload_n hx hb d_Mo_outcome_20 rfl (lv_at hl 1 rfl) ?_
      refine lv_icmp_ne (tgt := 26) hx hb d_Mo_outcome_21 (by decide) (fun c_17 => ?_) (fun c_17 => ?_)
      · refine lv_aload_n hx hb d_Mo_outcome_26 rfl (lv_at hl 0 rfl) ?_
        refine m_g hx hb hts hown hK hP 30 (by decide) rfl (hts _ k_997) (v := .int (Int32.ofNat t1)) (congrArg Value.int c30) d_Mo_outcome_27 ?_
        refine lv_if_ge (tgt := 40) hx hb d_Mo_outcome_30 (by decide) (fun _ => ?_) (fun c => absurd ((x_leN (a := 0) (b := t1) (by omega) (by omega)).mpr (Nat.zero_le _)) c)
        refine lv_iconst (v := (-1)) hx hb d_Mo_outcome_40 (by decide) ?_
        refine W.widen (k := 0) (n := 0) (Nat.le_of_ble_eq_true rfl) (Nat.le_of_ble_eq_true rfl) ?_
        exact W.iret (v := (-1)) hx hb hr (fun t ht hW => ⟨⟨(-1), (I2, T, A2, U), rfl, ⟨(m_fr.rf.tr fr3 (by decide)), (m_fa.rf.tr fa3 (by decide)), rfl, Or.inr ⟨hs9, Or.inr (Or.inr ⟨rfl, ((fr3 33 (by decide)).trans h33), c_17, Or.inl ⟨⟨V, own, pown, bl, role, k9, q, pn, br, st, t1, i29, hri, ht1, c30, hal, hst, n10, n11, n12⟩, htc⟩⟩)⟩⟩, by dsimp only; rw [ht]; exact hP⟩, hS.F ht⟩) hS.2.2 d_Mo_outcome_41
      · refine lv_iconst (v := 1) hx hb d_Mo_outcome_24 (by decide) ?_
        refine W.widen (k := 0) (n := 0) (Nat.le_of_ble_eq_true rfl) (Nat.le_of_ble_eq_true rfl) ?_
        exact W.iret (v := 1) hx hb hr (fun t ht hW => ⟨⟨1, (I2, T, A2, U), rfl, ⟨(m_fr.rf.tr fr3 (by decide)), (m_fa.rf.tr fa3 (by decide)), rfl, Or.inr ⟨hs9, Or.inl ⟨Or.inl rfl, hrun1⟩⟩⟩, by dsimp only; rw [ht]; exact hP⟩, hS.F ht⟩) hS.2.2 d_Mo_outcome_25
set_option maxHeartbeats 4000000 in
set_option maxRecDepth 100000 in
theorem m_run (l : Launch) (dC : Nat → ClassId) (dI : Nat → Nat → Nat) (ar : Nat → ClassId) (N0 : Nat) (z : Nat → Nat) (h0 : Nat) (ad : Nat → Nat) (I : Nat → Int32) (T : Int64) (A : Nat → Nat → Int32) (U : Nat → Int64) (S : Nat) (nv : Int32) (sz : Nat) (hok : m_OK S I A) : Met l ({ cls := "ChannelMachineModel", name := "run", desc := "(I)I" } : Jvm.MethodName) ((Jvm.Cond.code ({ cls := "ChannelMachineModel", name := "run", desc := "(I)I" } : Jvm.MethodName) prog_12_method_42_code (4 : Nat) (Option.some Jvm.ClassFile.FieldType.int)) :: x_T) ({ frames := 5, cells := 200, slots := 800, locals := 118 }) (x_Pc (dC, dI) ar N0 z (m_W h0 ad ar I T A U) sz [.ref h0, .int nv]) (va_Qi (fun (r : Int32) (u : (Nat → Int32) × Int64 × (Nat → Nat → Int32) × (Nat → Int64)) => m_OK S u.1 u.2.2.1) (fun u t => va_P (dC, dI) x_cl (m_W h0 ad ar u.1 u.2.1 u.2.2.1 u.2.2.2) t.heap) (va_A (m_W h0 ad ar I T A U) sz)) 200 800 (va_A (m_W h0 ad ar I T A U) sz) := by
  refine Met.ofW (cc := prog_12_method_42_code) (maxL := 4) (ret := (some .int)) (by decide) rfl ?_
  intro p e s m args below meth c s₁ B hml hv
  obtain ⟨rfl, hsz, hN0, hP, hU, hZ, hD0⟩ := hv
  have hK := hU.1
  have hx := B.exec
  have hb := B.bytes
  have hr := B.returns
  have hts : ∀ w ∈ x_T, w.before ([.ref h0, .int nv] : List Value).toArray s = true := fun w h => atoms_spec (ws := (Jvm.Cond.code ({ cls := "ChannelMachineModel", name := "run", desc := "(I)I" } : Jvm.MethodName) prog_12_method_42_code (4 : Nat) (Option.some Jvm.ClassFile.FieldType.int)) :: x_T) B.pre w (List.mem_cons_of_mem _ h)
  have hown : s.vm.findClass "ChannelMachineModel" = some m.cls := findClass_of_methodNamed B.named
  have hlocks := B.notSynchronized
  subst hsz
  have hD := hD0.self (sz := s.heap.size)
  have hAN := x_AN hD0 hN0
  generalize hAe : va_A (m_W h0 ad ar I T A U) s.heap.size = Bq at hD hAN ⊢
  have hA : ∀ q : Nat, s.heap.size ≤ q → Bq q := fun q h => by rw [← hAe]; exact Or.inr h
  have hS : va_S Bq s.heap s.heap [] := va_S.rf
  have hl := lv_entry ([.ref h0, .int nv]) (n := 4) (Nat.le_of_ble_eq_true rfl)
  rw [lg_entry_eq]
  generalize (lg_sl ([.ref h0, .int nv]) ++ List.replicate (4 - (lg_sl ([.ref h0, .int nv])).length) Slot.unset).toArray = ls at hl ⊢
  have hl : lv_has ls 4 [(0, .ref h0), (1, .int nv)] := hl
  obtain ⟨⟨hS72, h4⟩, hbx, h9c⟩ := hok
  rcases h9c with h9 | h9 | h9 | ⟨h9, hrun⟩
  · refine lv_aload_n hx hb d_Mo_run_0 rfl (lv_at hl 0 rfl) ?_
    refine lv_iload_n hx hb d_Mo_run_1 rfl (lv_at hl 1 rfl) ?_
    refine lv_iconst (v := 1) hx hb d_Mo_run_2 (by decide) ?_
    refine lv_sipush (v := 200) hx hb d_Mo_run_3 (by decide) ?_
    have hFc := m_free hD hS hA
    refine va_calli (va_runS (As := [.int nv, .int 1, .int 200]) (rest := [.ref h0]) ⟨hx, hb, hml, hown, hts⟩ (c_Mo_in l dC dI ar N0 z (nv) (1) (200) s.heap.size) (cwS 3 hts (x_goodS k_1113 k_1114 k_9 k_1115) rfl rfl rfl (by decide +kernel) ⟨Nat.le_of_ble_eq_true rfl, Nat.le_of_ble_eq_true rfl⟩) ⟨x_blind, fun U9 hU9 hW9 => x_pre (ws := []) hU9 hW9 (fun k q h => by simp at h) (⟨fun i j p q h => by simp at h, fun k q h => by simp at h⟩ : va_D Bq []) hU hZ hS hAN hN0⟩ rfl rfl hl.1 rfl (lv_room (Nat.le_of_ble_eq_true rfl)) d_Mo_run_6 ⟨Nat.le_of_ble_eq_true rfl, Nat.le_of_ble_eq_true rfl⟩) hS (fun q _ h => hA q (Nat.le_trans hS.1 (h.elim (fun ⟨k, e9, hk⟩ => by simp at hk) id))) (fun q h => hA q (Nat.le_trans hS.1 (h.elim (fun ⟨k, e9, hk⟩ => by simp at hk) id))) (fun r_1 u t H1 locs ht hvm hw hB hz1 hk1 hS => ?_)
    have hP : va_P (dC, dI) x_cl (m_W h0 ad ar I T A U) H1 := fun k q hk => (hP k q hk).kept (hk1 q.1 ((hP k q hk).lt) (fun h9 => h9.elim (fun ⟨k, e9, hk⟩ => by simp at hk) (fun h8 => absurd (hP k q hk).lt (Nat.not_lt.mpr h8))))
    generalize H1 = H at hP hS ⊢
    refine W.widen (k := 0) (n := 0) (Nat.le_of_ble_eq_true rfl) (Nat.le_of_ble_eq_true rfl) ?_
    rcases hw with ⟨i_3, i_3', rfl⟩ | ⟨i_3, rfl⟩
    · have i_3 := i_3
      have hFc := m_free hD hS hA
      refine va_calli (va_runV (As := [.int 1]) (rest := []) ⟨hx, hb, hml, hown, hts⟩ (m_bad l dC dI ar N0 z h0 ad I T A U (1) H.size ) (cwV 1 hts (x_goodV k_1116 k_1118 kp_48 k_9 k_1119) rfl rfl rfl (by decide +kernel) ⟨Nat.le_of_ble_eq_true rfl, Nat.le_of_ble_eq_true rfl⟩) ⟨x_blind, va_recv hK hP (ci := 6) (q0 := 0) rfl rfl, fun U9 hU9 hW9 => x_pre hU9 hW9 hP hD hU hZ hS hAN hN0⟩ rfl rfl hl.1 rfl (lv_room (Nat.le_of_ble_eq_true rfl)) d_Mo_run_9 ⟨Nat.le_of_ble_eq_true rfl, Nat.le_of_ble_eq_true rfl⟩) hS (fun q _ h => hFc q h) hFc (fun r_4 u t H1 locs ht hvm hw hB hz1 hk1 hS => ?_)
      obtain ⟨I6, T6, A6, U6⟩ := u
      dsimp only at hw hB
      rw [ht] at hB
      have hP : va_P (dC, dI) x_cl (m_W h0 ad ar I6 T6 A6 U6) H1 := hB
      have hD : va_D Bq (m_W h0 ad ar I6 T6 A6 U6) := m_D hD
      generalize H1 = H at hP hS ⊢
      refine W.widen (k := 0) (n := 0) (Nat.le_of_ble_eq_true rfl) (Nat.le_of_ble_eq_true rfl) ?_
      rcases hw with ⟨b_7, rfl, h9⟩ | ⟨b_7, rfl, h9⟩
      · exact absurd b_7 (by decide)
      · cases h9
        refine lv_if_eq (tgt := 17) hx hb d_Mo_run_12 (by decide) (fun _ => ?_) (fun c_8 => absurd (by decide) c_8)
        refine lv_aload_n hx hb d_Mo_run_17 rfl (lv_at hl 0 rfl) ?_
        refine m_g hx hb hts hown hK hP 9 (by decide) rfl (hts _ k_976) (v := .int 0) (congrArg Value.int h9) d_Mo_run_18 ?_
        refine lv_iconst (v := 1) hx hb d_Mo_run_21 (by decide) ?_
        refine lv_icmp_eq (tgt := 31) hx hb d_Mo_run_22 (by decide) (fun c_9 => absurd c_9 (by decide)) (fun _ => ?_)
        refine lv_aload_n hx hb d_Mo_run_25 rfl (lv_at hl 0 rfl) ?_
        refine lv_iconst (v := 2) hx hb d_Mo_run_26 (by decide) ?_
        have hFc := m_free hD hS hA
        refine va_calli (va_runV (As := [.int 2]) (rest := []) ⟨hx, hb, hml, hown, hts⟩ (m_fail l dC dI ar N0 z h0 ad (upd I 33 0) T A U (2) H.size ) (cwV 1 hts (x_goodV k_1120 k_1122 kp_49 k_9 k_1123) rfl rfl rfl (by decide +kernel) ⟨Nat.le_of_ble_eq_true rfl, Nat.le_of_ble_eq_true rfl⟩) ⟨x_blind, va_recv hK hP (ci := 6) (q0 := 0) rfl rfl, fun U9 hU9 hW9 => x_pre hU9 hW9 hP hD hU hZ hS hAN hN0⟩ rfl rfl hl.1 rfl (lv_room (Nat.le_of_ble_eq_true rfl)) d_Mo_run_27 ⟨Nat.le_of_ble_eq_true rfl, Nat.le_of_ble_eq_true rfl⟩) hS (fun q _ h => hFc q h) hFc (fun r_10 u t H1 locs ht hvm hw hB hz1 hk1 hS => ?_)
        obtain ⟨I12, T12, A12, U12⟩ := u
        dsimp only at hw hB
        rw [ht] at hB
        have hP : va_P (dC, dI) x_cl (m_W h0 ad ar I12 T12 A12 U12) H1 := hB
        have hD : va_D Bq (m_W h0 ad ar I12 T12 A12 U12) := m_D hD
        generalize H1 = H at hP hS ⊢
        refine W.widen (k := 0) (n := 0) (Nat.le_of_ble_eq_true rfl) (Nat.le_of_ble_eq_true rfl) ?_
        obtain ⟨h9, rfl⟩ := hw
        cases h9
        refine W.widen (k := 200) (n := 800) (Nat.le_of_ble_eq_true rfl) (Nat.le_of_ble_eq_true rfl) ?_
        exact W.iret (v := 0) hx hb hr (fun t ht hW => ⟨⟨0, ((upd (upd I 33 0) 33 2), T, A, U), rfl, ⟨⟨hS72, h4⟩, hbx.fr (L := [33]) ((m_fr.rf.up (by decide) _).up (by decide) _) (by decide) (by decide), Or.inl h9⟩, by dsimp only; rw [ht]; exact hP⟩, hS.F ht⟩) hS.2.2 d_Mo_run_30
    · have i_3 := i_3
      have hFc := m_free hD hS hA
      refine va_calli (va_runV (As := [.int 0]) (rest := []) ⟨hx, hb, hml, hown, hts⟩ (m_bad l dC dI ar N0 z h0 ad I T A U (0) H.size ) (cwV 1 hts (x_goodV k_1116 k_1118 kp_48 k_9 k_1119) rfl rfl rfl (by decide +kernel) ⟨Nat.le_of_ble_eq_true rfl, Nat.le_of_ble_eq_true rfl⟩) ⟨x_blind, va_recv hK hP (ci := 6) (q0 := 0) rfl rfl, fun U9 hU9 hW9 => x_pre hU9 hW9 hP hD hU hZ hS hAN hN0⟩ rfl rfl hl.1 rfl (lv_room (Nat.le_of_ble_eq_true rfl)) d_Mo_run_9 ⟨Nat.le_of_ble_eq_true rfl, Nat.le_of_ble_eq_true rfl⟩) hS (fun q _ h => hFc q h) hFc (fun r_13 u t H1 locs ht hvm hw hB hz1 hk1 hS => ?_)
      obtain ⟨I15, T15, A15, U15⟩ := u
      dsimp only at hw hB
      rw [ht] at hB
      have hP : va_P (dC, dI) x_cl (m_W h0 ad ar I15 T15 A15 U15) H1 := hB
      have hD : va_D Bq (m_W h0 ad ar I15 T15 A15 U15) := m_D hD
      generalize H1 = H at hP hS ⊢
      refine W.widen (k := 0) (n := 0) (Nat.le_of_ble_eq_true rfl) (Nat.le_of_ble_eq_true rfl) ?_
      rcases hw with ⟨b_16, rfl, h9⟩ | ⟨b_16, rfl, h9⟩
      · cases h9
        refine lv_if_eq (tgt := 17) hx hb d_Mo_run_12 (by decide) (fun c_17 => absurd c_17 (by decide)) (fun _ => ?_)
        refine lv_iconst (v := 0) hx hb d_Mo_run_15 (by decide) ?_
        refine W.widen (k := 200) (n := 800) (Nat.le_of_ble_eq_true rfl) (Nat.le_of_ble_eq_true rfl) ?_
        exact W.iret (v := 0) hx hb hr (fun t ht hW => ⟨⟨0, ((upd I 33 1), T, A, U), rfl, ⟨⟨hS72, h4⟩, hbx.fr (L := [33]) (m_fr.rf.up (by decide) _) (by decide) (by decide), Or.inl h9⟩, by dsimp only; rw [ht]; exact hP⟩, hS.F ht⟩) hS.2.2 d_Mo_run_16
      · exact absurd rfl b_16
  · refine lv_aload_n hx hb d_Mo_run_0 rfl (lv_at hl 0 rfl) ?_
    refine lv_iload_n hx hb d_Mo_run_1 rfl (lv_at hl 1 rfl) ?_
    refine lv_iconst (v := 1) hx hb d_Mo_run_2 (by decide) ?_
    refine lv_sipush (v := 200) hx hb d_Mo_run_3 (by decide) ?_
    have hFc := m_free hD hS hA
    refine va_calli (va_runS (As := [.int nv, .int 1, .int 200]) (rest := [.ref h0]) ⟨hx, hb, hml, hown, hts⟩ (c_Mo_in l dC dI ar N0 z (nv) (1) (200) s.heap.size) (cwS 3 hts (x_goodS k_1113 k_1114 k_9 k_1115) rfl rfl rfl (by decide +kernel) ⟨Nat.le_of_ble_eq_true rfl, Nat.le_of_ble_eq_true rfl⟩) ⟨x_blind, fun U9 hU9 hW9 => x_pre (ws := []) hU9 hW9 (fun k q h => by simp at h) (⟨fun i j p q h => by simp at h, fun k q h => by simp at h⟩ : va_D Bq []) hU hZ hS hAN hN0⟩ rfl rfl hl.1 rfl (lv_room (Nat.le_of_ble_eq_true rfl)) d_Mo_run_6 ⟨Nat.le_of_ble_eq_true rfl, Nat.le_of_ble_eq_true rfl⟩) hS (fun q _ h => hA q (Nat.le_trans hS.1 (h.elim (fun ⟨k, e9, hk⟩ => by simp at hk) id))) (fun q h => hA q (Nat.le_trans hS.1 (h.elim (fun ⟨k, e9, hk⟩ => by simp at hk) id))) (fun r_18 u t H1 locs ht hvm hw hB hz1 hk1 hS => ?_)
    have hP : va_P (dC, dI) x_cl (m_W h0 ad ar I T A U) H1 := fun k q hk => (hP k q hk).kept (hk1 q.1 ((hP k q hk).lt) (fun h9 => h9.elim (fun ⟨k, e9, hk⟩ => by simp at hk) (fun h8 => absurd (hP k q hk).lt (Nat.not_lt.mpr h8))))
    generalize H1 = H at hP hS ⊢
    refine W.widen (k := 0) (n := 0) (Nat.le_of_ble_eq_true rfl) (Nat.le_of_ble_eq_true rfl) ?_
    rcases hw with ⟨i_20, i_20', rfl⟩ | ⟨i_20, rfl⟩
    · have i_20 := i_20
      have hFc := m_free hD hS hA
      refine va_calli (va_runV (As := [.int 1]) (rest := []) ⟨hx, hb, hml, hown, hts⟩ (m_bad l dC dI ar N0 z h0 ad I T A U (1) H.size ) (cwV 1 hts (x_goodV k_1116 k_1118 kp_48 k_9 k_1119) rfl rfl rfl (by decide +kernel) ⟨Nat.le_of_ble_eq_true rfl, Nat.le_of_ble_eq_true rfl⟩) ⟨x_blind, va_recv hK hP (ci := 6) (q0 := 0) rfl rfl, fun U9 hU9 hW9 => x_pre hU9 hW9 hP hD hU hZ hS hAN hN0⟩ rfl rfl hl.1 rfl (lv_room (Nat.le_of_ble_eq_true rfl)) d_Mo_run_9 ⟨Nat.le_of_ble_eq_true rfl, Nat.le_of_ble_eq_true rfl⟩) hS (fun q _ h => hFc q h) hFc (fun r_21 u t H1 locs ht hvm hw hB hz1 hk1 hS => ?_)
      obtain ⟨I23, T23, A23, U23⟩ := u
      dsimp only at hw hB
      rw [ht] at hB
      have hP : va_P (dC, dI) x_cl (m_W h0 ad ar I23 T23 A23 U23) H1 := hB
      have hD : va_D Bq (m_W h0 ad ar I23 T23 A23 U23) := m_D hD
      generalize H1 = H at hP hS ⊢
      refine W.widen (k := 0) (n := 0) (Nat.le_of_ble_eq_true rfl) (Nat.le_of_ble_eq_true rfl) ?_
      rcases hw with ⟨b_24, rfl, h9⟩ | ⟨b_24, rfl, h9⟩
      · exact absurd b_24 (by decide)
      · cases h9
        refine lv_if_eq (tgt := 17) hx hb d_Mo_run_12 (by decide) (fun _ => ?_) (fun c_25 => absurd (by decide) c_25)
        refine lv_aload_n hx hb d_Mo_run_17 rfl (lv_at hl 0 rfl) ?_
        refine m_g hx hb hts hown hK hP 9 (by decide) rfl (hts _ k_976) (v := .int 2) (congrArg Value.int h9) d_Mo_run_18 ?_
        refine lv_iconst (v := 1) hx hb d_Mo_run_21 (by decide) ?_
        refine lv_icmp_eq (tgt := 31) hx hb d_Mo_run_22 (by decide) (fun c_26 => absurd c_26 (by decide)) (fun _ => ?_)
        refine lv_aload_n hx hb d_Mo_run_25 rfl (lv_at hl 0 rfl) ?_
        refine lv_iconst (v := 2) hx hb d_Mo_run_26 (by decide) ?_
        have hFc := m_free hD hS hA
        refine va_calli (va_runV (As := [.int 2]) (rest := []) ⟨hx, hb, hml, hown, hts⟩ (m_fail l dC dI ar N0 z h0 ad (upd I 33 0) T A U (2) H.size ) (cwV 1 hts (x_goodV k_1120 k_1122 kp_49 k_9 k_1123) rfl rfl rfl (by decide +kernel) ⟨Nat.le_of_ble_eq_true rfl, Nat.le_of_ble_eq_true rfl⟩) ⟨x_blind, va_recv hK hP (ci := 6) (q0 := 0) rfl rfl, fun U9 hU9 hW9 => x_pre hU9 hW9 hP hD hU hZ hS hAN hN0⟩ rfl rfl hl.1 rfl (lv_room (Nat.le_of_ble_eq_true rfl)) d_Mo_run_27 ⟨Nat.le_of_ble_eq_true rfl, Nat.le_of_ble_eq_true rfl⟩) hS (fun q _ h => hFc q h) hFc (fun r_27 u t H1 locs ht hvm hw hB hz1 hk1 hS => ?_)
        obtain ⟨I29, T29, A29, U29⟩ := u
        dsimp only at hw hB
        rw [ht] at hB
        have hP : va_P (dC, dI) x_cl (m_W h0 ad ar I29 T29 A29 U29) H1 := hB
        have hD : va_D Bq (m_W h0 ad ar I29 T29 A29 U29) := m_D hD
        generalize H1 = H at hP hS ⊢
        refine W.widen (k := 0) (n := 0) (Nat.le_of_ble_eq_true rfl) (Nat.le_of_ble_eq_true rfl) ?_
        obtain ⟨h9, rfl⟩ := hw
        cases h9
        refine W.widen (k := 200) (n := 800) (Nat.le_of_ble_eq_true rfl) (Nat.le_of_ble_eq_true rfl) ?_
        exact W.iret (v := 0) hx hb hr (fun t ht hW => ⟨⟨0, ((upd (upd I 33 0) 33 2), T, A, U), rfl, ⟨⟨hS72, h4⟩, hbx.fr (L := [33]) ((m_fr.rf.up (by decide) _).up (by decide) _) (by decide) (by decide), Or.inr (Or.inl h9)⟩, by dsimp only; rw [ht]; exact hP⟩, hS.F ht⟩) hS.2.2 d_Mo_run_30
    · have i_20 := i_20
      have hFc := m_free hD hS hA
      refine va_calli (va_runV (As := [.int 0]) (rest := []) ⟨hx, hb, hml, hown, hts⟩ (m_bad l dC dI ar N0 z h0 ad I T A U (0) H.size ) (cwV 1 hts (x_goodV k_1116 k_1118 kp_48 k_9 k_1119) rfl rfl rfl (by decide +kernel) ⟨Nat.le_of_ble_eq_true rfl, Nat.le_of_ble_eq_true rfl⟩) ⟨x_blind, va_recv hK hP (ci := 6) (q0 := 0) rfl rfl, fun U9 hU9 hW9 => x_pre hU9 hW9 hP hD hU hZ hS hAN hN0⟩ rfl rfl hl.1 rfl (lv_room (Nat.le_of_ble_eq_true rfl)) d_Mo_run_9 ⟨Nat.le_of_ble_eq_true rfl, Nat.le_of_ble_eq_true rfl⟩) hS (fun q _ h => hFc q h) hFc (fun r_30 u t H1 locs ht hvm hw hB hz1 hk1 hS => ?_)
      obtain ⟨I32, T32, A32, U32⟩ := u
      dsimp only at hw hB
      rw [ht] at hB
      have hP : va_P (dC, dI) x_cl (m_W h0 ad ar I32 T32 A32 U32) H1 := hB
      have hD : va_D Bq (m_W h0 ad ar I32 T32 A32 U32) := m_D hD
      generalize H1 = H at hP hS ⊢
      refine W.widen (k := 0) (n := 0) (Nat.le_of_ble_eq_true rfl) (Nat.le_of_ble_eq_true rfl) ?_
      rcases hw with ⟨b_33, rfl, h9⟩ | ⟨b_33, rfl, h9⟩
      · cases h9
        refine lv_if_eq (tgt := 17) hx hb d_Mo_run_12 (by decide) (fun c_34 => absurd c_34 (by decide)) (fun _ => ?_)
        refine lv_iconst (v := 0) hx hb d_Mo_run_15 (by decide) ?_
        refine W.widen (k := 200) (n := 800) (Nat.le_of_ble_eq_true rfl) (Nat.le_of_ble_eq_true rfl) ?_
        exact W.iret (v := 0) hx hb hr (fun t ht hW => ⟨⟨0, ((upd I 33 1), T, A, U), rfl, ⟨⟨hS72, h4⟩, hbx.fr (L := [33]) (m_fr.rf.up (by decide) _) (by decide) (by decide), Or.inr (Or.inl h9)⟩, by dsimp only; rw [ht]; exact hP⟩, hS.F ht⟩) hS.2.2 d_Mo_run_16
      · exact absurd rfl b_33
  · refine lv_aload_n hx hb d_Mo_run_0 rfl (lv_at hl 0 rfl) ?_
    refine lv_iload_n hx hb d_Mo_run_1 rfl (lv_at hl 1 rfl) ?_
    refine lv_iconst (v := 1) hx hb d_Mo_run_2 (by decide) ?_
    refine lv_sipush (v := 200) hx hb d_Mo_run_3 (by decide) ?_
    have hFc := m_free hD hS hA
    refine va_calli (va_runS (As := [.int nv, .int 1, .int 200]) (rest := [.ref h0]) ⟨hx, hb, hml, hown, hts⟩ (c_Mo_in l dC dI ar N0 z (nv) (1) (200) s.heap.size) (cwS 3 hts (x_goodS k_1113 k_1114 k_9 k_1115) rfl rfl rfl (by decide +kernel) ⟨Nat.le_of_ble_eq_true rfl, Nat.le_of_ble_eq_true rfl⟩) ⟨x_blind, fun U9 hU9 hW9 => x_pre (ws := []) hU9 hW9 (fun k q h => by simp at h) (⟨fun i j p q h => by simp at h, fun k q h => by simp at h⟩ : va_D Bq []) hU hZ hS hAN hN0⟩ rfl rfl hl.1 rfl (lv_room (Nat.le_of_ble_eq_true rfl)) d_Mo_run_6 ⟨Nat.le_of_ble_eq_true rfl, Nat.le_of_ble_eq_true rfl⟩) hS (fun q _ h => hA q (Nat.le_trans hS.1 (h.elim (fun ⟨k, e9, hk⟩ => by simp at hk) id))) (fun q h => hA q (Nat.le_trans hS.1 (h.elim (fun ⟨k, e9, hk⟩ => by simp at hk) id))) (fun r_35 u t H1 locs ht hvm hw hB hz1 hk1 hS => ?_)
    have hP : va_P (dC, dI) x_cl (m_W h0 ad ar I T A U) H1 := fun k q hk => (hP k q hk).kept (hk1 q.1 ((hP k q hk).lt) (fun h9 => h9.elim (fun ⟨k, e9, hk⟩ => by simp at hk) (fun h8 => absurd (hP k q hk).lt (Nat.not_lt.mpr h8))))
    generalize H1 = H at hP hS ⊢
    refine W.widen (k := 0) (n := 0) (Nat.le_of_ble_eq_true rfl) (Nat.le_of_ble_eq_true rfl) ?_
    rcases hw with ⟨i_37, i_37', rfl⟩ | ⟨i_37, rfl⟩
    · have i_37 := i_37
      have hFc := m_free hD hS hA
      refine va_calli (va_runV (As := [.int 1]) (rest := []) ⟨hx, hb, hml, hown, hts⟩ (m_bad l dC dI ar N0 z h0 ad I T A U (1) H.size ) (cwV 1 hts (x_goodV k_1116 k_1118 kp_48 k_9 k_1119) rfl rfl rfl (by decide +kernel) ⟨Nat.le_of_ble_eq_true rfl, Nat.le_of_ble_eq_true rfl⟩) ⟨x_blind, va_recv hK hP (ci := 6) (q0 := 0) rfl rfl, fun U9 hU9 hW9 => x_pre hU9 hW9 hP hD hU hZ hS hAN hN0⟩ rfl rfl hl.1 rfl (lv_room (Nat.le_of_ble_eq_true rfl)) d_Mo_run_9 ⟨Nat.le_of_ble_eq_true rfl, Nat.le_of_ble_eq_true rfl⟩) hS (fun q _ h => hFc q h) hFc (fun r_38 u t H1 locs ht hvm hw hB hz1 hk1 hS => ?_)
      obtain ⟨I40, T40, A40, U40⟩ := u
      dsimp only at hw hB
      rw [ht] at hB
      have hP : va_P (dC, dI) x_cl (m_W h0 ad ar I40 T40 A40 U40) H1 := hB
      have hD : va_D Bq (m_W h0 ad ar I40 T40 A40 U40) := m_D hD
      generalize H1 = H at hP hS ⊢
      refine W.widen (k := 0) (n := 0) (Nat.le_of_ble_eq_true rfl) (Nat.le_of_ble_eq_true rfl) ?_
      rcases hw with ⟨b_41, rfl, h9⟩ | ⟨b_41, rfl, h9⟩
      · exact absurd b_41 (by decide)
      · cases h9
        refine lv_if_eq (tgt := 17) hx hb d_Mo_run_12 (by decide) (fun _ => ?_) (fun c_42 => absurd (by decide) c_42)
        refine lv_aload_n hx hb d_Mo_run_17 rfl (lv_at hl 0 rfl) ?_
        refine m_g hx hb hts hown hK hP 9 (by decide) rfl (hts _ k_976) (v := .int 3) (congrArg Value.int h9) d_Mo_run_18 ?_
        refine lv_iconst (v := 1) hx hb d_Mo_run_21 (by decide) ?_
        refine lv_icmp_eq (tgt := 31) hx hb d_Mo_run_22 (by decide) (fun c_43 => absurd c_43 (by decide)) (fun _ => ?_)
        refine lv_aload_n hx hb d_Mo_run_25 rfl (lv_at hl 0 rfl) ?_
        refine lv_iconst (v := 2) hx hb d_Mo_run_26 (by decide) ?_
        have hFc := m_free hD hS hA
        refine va_calli (va_runV (As := [.int 2]) (rest := []) ⟨hx, hb, hml, hown, hts⟩ (m_fail l dC dI ar N0 z h0 ad (upd I 33 0) T A U (2) H.size ) (cwV 1 hts (x_goodV k_1120 k_1122 kp_49 k_9 k_1123) rfl rfl rfl (by decide +kernel) ⟨Nat.le_of_ble_eq_true rfl, Nat.le_of_ble_eq_true rfl⟩) ⟨x_blind, va_recv hK hP (ci := 6) (q0 := 0) rfl rfl, fun U9 hU9 hW9 => x_pre hU9 hW9 hP hD hU hZ hS hAN hN0⟩ rfl rfl hl.1 rfl (lv_room (Nat.le_of_ble_eq_true rfl)) d_Mo_run_27 ⟨Nat.le_of_ble_eq_true rfl, Nat.le_of_ble_eq_true rfl⟩) hS (fun q _ h => hFc q h) hFc (fun r_44 u t H1 locs ht hvm hw hB hz1 hk1 hS => ?_)
        obtain ⟨I46, T46, A46, U46⟩ := u
        dsimp only at hw hB
        rw [ht] at hB
        have hP : va_P (dC, dI) x_cl (m_W h0 ad ar I46 T46 A46 U46) H1 := hB
        have hD : va_D Bq (m_W h0 ad ar I46 T46 A46 U46) := m_D hD
        generalize H1 = H at hP hS ⊢
        refine W.widen (k := 0) (n := 0) (Nat.le_of_ble_eq_true rfl) (Nat.le_of_ble_eq_true rfl) ?_
        obtain ⟨h9, rfl⟩ := hw
        cases h9
        refine W.widen (k := 200) (n := 800) (Nat.le_of_ble_eq_true rfl) (Nat.le_of_ble_eq_true rfl) ?_
        exact W.iret (v := 0) hx hb hr (fun t ht hW => ⟨⟨0, ((upd (upd I 33 0) 33 2), T, A, U), rfl, ⟨⟨hS72, h4⟩, hbx.fr (L := [33]) ((m_fr.rf.up (by decide) _).up (by decide) _) (by decide) (by decide), Or.inr (Or.inr (Or.inl h9))⟩, by dsimp only; rw [ht]; exact hP⟩, hS.F ht⟩) hS.2.2 d_Mo_run_30
    · have i_37 := i_37
      have hFc := m_free hD hS hA
      refine va_calli (va_runV (As := [.int 0]) (rest := []) ⟨hx, hb, hml, hown, hts⟩ (m_bad l dC dI ar N0 z h0 ad I T A U (0) H.size ) (cwV 1 hts (x_goodV k_1116 k_1118 kp_48 k_9 k_1119) rfl rfl rfl (by decide +kernel) ⟨Nat.le_of_ble_eq_true rfl, Nat.le_of_ble_eq_true rfl⟩) ⟨x_blind, va_recv hK hP (ci := 6) (q0 := 0) rfl rfl, fun U9 hU9 hW9 => x_pre hU9 hW9 hP hD hU hZ hS hAN hN0⟩ rfl rfl hl.1 rfl (lv_room (Nat.le_of_ble_eq_true rfl)) d_Mo_run_9 ⟨Nat.le_of_ble_eq_true rfl, Nat.le_of_ble_eq_true rfl⟩) hS (fun q _ h => hFc q h) hFc (fun r_47 u t H1 locs ht hvm hw hB hz1 hk1 hS => ?_)
      obtain ⟨I49, T49, A49, U49⟩ := u
      dsimp only at hw hB
      rw [ht] at hB
      have hP : va_P (dC, dI) x_cl (m_W h0 ad ar I49 T49 A49 U49) H1 := hB
      have hD : va_D Bq (m_W h0 ad ar I49 T49 A49 U49) := m_D hD
      generalize H1 = H at hP hS ⊢
      refine W.widen (k := 0) (n := 0) (Nat.le_of_ble_eq_true rfl) (Nat.le_of_ble_eq_true rfl) ?_
      rcases hw with ⟨b_50, rfl, h9⟩ | ⟨b_50, rfl, h9⟩
      · cases h9
        refine lv_if_eq (tgt := 17) hx hb d_Mo_run_12 (by decide) (fun c_51 => absurd c_51 (by decide)) (fun _ => ?_)
        refine lv_iconst (v := 0) hx hb d_Mo_run_15 (by decide) ?_
        refine W.widen (k := 200) (n := 800) (Nat.le_of_ble_eq_true rfl) (Nat.le_of_ble_eq_true rfl) ?_
        exact W.iret (v := 0) hx hb hr (fun t ht hW => ⟨⟨0, ((upd I 33 1), T, A, U), rfl, ⟨⟨hS72, h4⟩, hbx.fr (L := [33]) (m_fr.rf.up (by decide) _) (by decide) (by decide), Or.inr (Or.inr (Or.inl h9))⟩, by dsimp only; rw [ht]; exact hP⟩, hS.F ht⟩) hS.2.2 d_Mo_run_16
      · exact absurd rfl b_50
  · refine lv_aload_n hx hb d_Mo_run_0 rfl (lv_at hl 0 rfl) ?_
    refine lv_iload_n hx hb d_Mo_run_1 rfl (lv_at hl 1 rfl) ?_
    refine lv_iconst (v := 1) hx hb d_Mo_run_2 (by decide) ?_
    refine lv_sipush (v := 200) hx hb d_Mo_run_3 (by decide) ?_
    have hFc := m_free hD hS hA
    refine va_calli (va_runS (As := [.int nv, .int 1, .int 200]) (rest := [.ref h0]) ⟨hx, hb, hml, hown, hts⟩ (c_Mo_in l dC dI ar N0 z (nv) (1) (200) s.heap.size) (cwS 3 hts (x_goodS k_1113 k_1114 k_9 k_1115) rfl rfl rfl (by decide +kernel) ⟨Nat.le_of_ble_eq_true rfl, Nat.le_of_ble_eq_true rfl⟩) ⟨x_blind, fun U9 hU9 hW9 => x_pre (ws := []) hU9 hW9 (fun k q h => by simp at h) (⟨fun i j p q h => by simp at h, fun k q h => by simp at h⟩ : va_D Bq []) hU hZ hS hAN hN0⟩ rfl rfl hl.1 rfl (lv_room (Nat.le_of_ble_eq_true rfl)) d_Mo_run_6 ⟨Nat.le_of_ble_eq_true rfl, Nat.le_of_ble_eq_true rfl⟩) hS (fun q _ h => hA q (Nat.le_trans hS.1 (h.elim (fun ⟨k, e9, hk⟩ => by simp at hk) id))) (fun q h => hA q (Nat.le_trans hS.1 (h.elim (fun ⟨k, e9, hk⟩ => by simp at hk) id))) (fun r_52 u t H1 locs ht hvm hw hB hz1 hk1 hS => ?_)
    have hP : va_P (dC, dI) x_cl (m_W h0 ad ar I T A U) H1 := fun k q hk => (hP k q hk).kept (hk1 q.1 ((hP k q hk).lt) (fun h9 => h9.elim (fun ⟨k, e9, hk⟩ => by simp at hk) (fun h8 => absurd (hP k q hk).lt (Nat.not_lt.mpr h8))))
    generalize H1 = H at hP hS ⊢
    refine W.widen (k := 0) (n := 0) (Nat.le_of_ble_eq_true rfl) (Nat.le_of_ble_eq_true rfl) ?_
    rcases hw with ⟨i_54, i_54', rfl⟩ | ⟨i_54, rfl⟩
    · have i_54 := i_54
      have hFc := m_free hD hS hA
      refine va_calli (va_runV (As := [.int 1]) (rest := []) ⟨hx, hb, hml, hown, hts⟩ (m_bad l dC dI ar N0 z h0 ad I T A U (1) H.size ) (cwV 1 hts (x_goodV k_1116 k_1118 kp_48 k_9 k_1119) rfl rfl rfl (by decide +kernel) ⟨Nat.le_of_ble_eq_true rfl, Nat.le_of_ble_eq_true rfl⟩) ⟨x_blind, va_recv hK hP (ci := 6) (q0 := 0) rfl rfl, fun U9 hU9 hW9 => x_pre hU9 hW9 hP hD hU hZ hS hAN hN0⟩ rfl rfl hl.1 rfl (lv_room (Nat.le_of_ble_eq_true rfl)) d_Mo_run_9 ⟨Nat.le_of_ble_eq_true rfl, Nat.le_of_ble_eq_true rfl⟩) hS (fun q _ h => hFc q h) hFc (fun r_55 u t H1 locs ht hvm hw hB hz1 hk1 hS => ?_)
      obtain ⟨I57, T57, A57, U57⟩ := u
      dsimp only at hw hB
      rw [ht] at hB
      have hP : va_P (dC, dI) x_cl (m_W h0 ad ar I57 T57 A57 U57) H1 := hB
      have hD : va_D Bq (m_W h0 ad ar I57 T57 A57 U57) := m_D hD
      generalize H1 = H at hP hS ⊢
      refine W.widen (k := 0) (n := 0) (Nat.le_of_ble_eq_true rfl) (Nat.le_of_ble_eq_true rfl) ?_
      rcases hw with ⟨b_58, rfl, h9⟩ | ⟨b_58, rfl, h9⟩
      · exact absurd b_58 (by decide)
      · cases h9
        refine lv_if_eq (tgt := 17) hx hb d_Mo_run_12 (by decide) (fun _ => ?_) (fun c_59 => absurd (by decide) c_59)
        refine lv_aload_n hx hb d_Mo_run_17 rfl (lv_at hl 0 rfl) ?_
        refine m_g hx hb hts hown hK hP 9 (by decide) rfl (hts _ k_976) (v := .int 1) (congrArg Value.int h9) d_Mo_run_18 ?_
        refine lv_iconst (v := 1) hx hb d_Mo_run_21 (by decide) ?_
        refine lv_icmp_eq (tgt := 31) hx hb d_Mo_run_22 (by decide) (fun _ => ?_) (fun c_60 => absurd (by decide) c_60)
        refine lv_aload_n hx hb d_Mo_run_31 rfl (lv_at hl 0 rfl) ?_
        refine m_g hx hb hts hown hK hP 32 (by decide) rfl (hts _ k_999) (v := .int (I 32)) rfl d_Mo_run_32 ?_
        refine lv_istore_n (lv' := [(2, .int (I 32)), (0, .ref h0), (1, .int nv)]) hx hb d_Mo_run_35 rfl hl (by decide) rfl (fun ls hl => ?_)
        obtain ⟨nn, hnn, hn1, hn2⟩ := x_200 i_54 i_54'
        refine x_whileC 1 4 (k := 0) (fun n k H locs ls => ∃ (I1 : Nat → Int32) (T1 : Int64) (A1 : Nat → Nat → Int32) (U1 : Nat → Int64), n = (nn - k) * 91 + m_tc (A1 27) (A1 28) 90 ∧ k ≤ nn ∧ I1 32 = I 32 + Int32.ofNat k ∧ I1 9 = 1 ∧ I1 33 = 0 ∧ m_RUN I1 A1 ∧ m_BX I1 ∧ I1 4 = Int32.ofNat S ∧ va_P (dC, dI) x_cl (m_W h0 ad ar I1 T1 A1 U1) H ∧ va_D Bq (m_W h0 ad ar I1 T1 A1 U1) ∧ va_S Bq s.heap H locs ∧ lv_has ls 4 [(0, .ref h0), (1, .int nv), (2, .int (I 32))]) (fun n k ih H locs ls h9 => ?_) ⟨(upd I 33 0), T, A, U, rfl, Nat.zero_le _, (Int32.add_zero _).symm, h9, rfl, (by obtain ⟨V, own, pown, bl, role, n, q, pn, br, st, g1, g2, g3⟩ := hrun; exact ⟨V, own, pown, bl, role, n, q, pn, br, st, g1, g2, g3⟩), hbx.fr (L := [33]) (m_fr.rf.up (by decide) _) (by decide) (by decide), h4, hP, hD, hS, lv_sub hl [1, 2, 0] rfl⟩
        obtain ⟨I1, T1, A1, U1, hn9, hk9, i32, h9, h33, hrun, hbx, h4, hP, hD, hS, hl⟩ := h9
        refine lv_aload_n hx hb d_Mo_run_36 rfl (lv_at hl 0 rfl) ?_
        refine lv_iload_n hx hb d_Mo_run_37 rfl (lv_at hl 1 rfl) ?_
        refine lv_iload_n hx hb d_Mo_run_38 rfl (lv_at hl 2 rfl) ?_
        have hFc := m_free hD hS hA
        refine va_calli (va_runV (As := [.int nv, .int (I 32)]) (rest := []) ⟨hx, hb, hml, hown, hts⟩ (m_outcome l dC dI ar N0 z h0 ad I1 T1 A1 U1 (nv) ((I 32)) H.size h9 h33 hrun) (cwV 2 hts (x_goodV k_1202 k_1204 kp_66 k_9 k_1205) rfl rfl rfl (by decide +kernel) ⟨Nat.le_of_ble_eq_true rfl, Nat.le_of_ble_eq_true rfl⟩) ⟨x_blind, va_recv hK hP (ci := 6) (q0 := 0) rfl rfl, fun U9 hU9 hW9 => x_pre hU9 hW9 hP hD hU hZ hS hAN hN0⟩ rfl rfl hl.1 rfl (lv_room (Nat.le_of_ble_eq_true rfl)) d_Mo_run_39 ⟨(by show 1 * k + 0 ≤ 200; omega), (by show 4 * k + 0 ≤ 800; omega)⟩) hS (fun q _ h => hFc q h) hFc (fun r_61 u t H1 locs ht hvm hw hB hz1 hk1 hS => ?_)
        obtain ⟨I63, T63, A63, U63⟩ := u
        dsimp only at hw hB
        rw [ht] at hB
        have hP : va_P (dC, dI) x_cl (m_W h0 ad ar I63 T63 A63 U63) H1 := hB
        have hD : va_D Bq (m_W h0 ad ar I63 T63 A63 U63) := m_D hD
        generalize H1 = H at hP hS ⊢
        refine W.widen (k := 1 * k) (n := 4 * k) (by omega) (by omega) ?_
        obtain ⟨fr64, fa64, eU, ho⟩ := hw
        cases eU
        rcases ho with ⟨rfl, h8⟩ | ⟨h8, ⟨rfl | rfl, hrun2⟩ | ⟨rfl, hd⟩ | ⟨rfl, hd, hne, ⟨hcur, htc⟩ | ⟨c30, hrun2, htc⟩⟩⟩
        · refine lv_istore_n (lv' := [(3, .int 0), (0, .ref h0), (1, .int nv), (2, .int (I 32))]) hx hb d_Mo_run_42 rfl hl (by decide) rfl (fun ls hl => ?_)
          refine lv_iload_n hx hb d_Mo_run_43 rfl (lv_at hl 0 rfl) ?_
          refine lv_if_lt (tgt := 49) hx hb d_Mo_run_44 (by decide) (fun c_65 => absurd c_65 (by decide)) (fun _ => ?_)
          refine lv_iload_n hx hb d_Mo_run_47 rfl (lv_at hl 0 rfl) ?_
          refine W.widen (k := 200) (n := 800) (by omega) (by omega) ?_
          exact W.iret (v := 0) hx hb hr (fun t ht hW => ⟨⟨0, (I63, T63, A63, U1), rfl, ⟨⟨hS72, (fr64 4 (by decide)).trans h4⟩, hbx.fr fr64 (by decide) (by decide), Or.inr (Or.inl h8)⟩, by dsimp only; rw [ht]; exact hP⟩, hS.F ht⟩) hS.2.2 d_Mo_run_48
        · refine lv_istore_n (lv' := [(3, .int 1), (0, .ref h0), (1, .int nv), (2, .int (I 32))]) hx hb d_Mo_run_42 rfl hl (by decide) rfl (fun ls hl => ?_)
          refine lv_iload_n hx hb d_Mo_run_43 rfl (lv_at hl 0 rfl) ?_
          refine lv_if_lt (tgt := 49) hx hb d_Mo_run_44 (by decide) (fun c_66 => absurd c_66 (by decide)) (fun _ => ?_)
          refine lv_iload_n hx hb d_Mo_run_47 rfl (lv_at hl 0 rfl) ?_
          refine W.widen (k := 200) (n := 800) (by omega) (by omega) ?_
          exact W.iret (v := 1) hx hb hr (fun t ht hW => ⟨⟨1, (I63, T63, A63, U1), rfl, ⟨⟨hS72, (fr64 4 (by decide)).trans h4⟩, hbx.fr fr64 (by decide) (by decide), Or.inr (Or.inr (Or.inr ⟨h8, hrun2⟩))⟩, by dsimp only; rw [ht]; exact hP⟩, hS.F ht⟩) hS.2.2 d_Mo_run_48
        · refine lv_istore_n (lv' := [(3, .int 2), (0, .ref h0), (1, .int nv), (2, .int (I 32))]) hx hb d_Mo_run_42 rfl hl (by decide) rfl (fun ls hl => ?_)
          refine lv_iload_n hx hb d_Mo_run_43 rfl (lv_at hl 0 rfl) ?_
          refine lv_if_lt (tgt := 49) hx hb d_Mo_run_44 (by decide) (fun c_67 => absurd c_67 (by decide)) (fun _ => ?_)
          refine lv_iload_n hx hb d_Mo_run_47 rfl (lv_at hl 0 rfl) ?_
          refine W.widen (k := 200) (n := 800) (by omega) (by omega) ?_
          exact W.iret (v := 2) hx hb hr (fun t ht hW => ⟨⟨2, (I63, T63, A63, U1), rfl, ⟨⟨hS72, (fr64 4 (by decide)).trans h4⟩, hbx.fr fr64 (by decide) (by decide), Or.inr (Or.inr (Or.inr ⟨h8, hrun2⟩))⟩, by dsimp only; rw [ht]; exact hP⟩, hS.F ht⟩) hS.2.2 d_Mo_run_48
        · refine lv_istore_n (lv' := [(3, .int (-1)), (0, .ref h0), (1, .int nv), (2, .int (I 32))]) hx hb d_Mo_run_42 rfl hl (by decide) rfl (fun ls hl => ?_)
          refine lv_iload_n hx hb d_Mo_run_43 rfl (lv_at hl 0 rfl) ?_
          refine lv_if_lt (tgt := 49) hx hb d_Mo_run_44 (by decide) (fun _ => ?_) (fun c_68 => absurd (by decide) c_68)
          refine lv_aload_n hx hb d_Mo_run_49 rfl (lv_at hl 1 rfl) ?_
          refine m_g hx hb hts hown hK hP 33 (by decide) rfl (hts _ k_1000) (v := .int 2) (congrArg Value.int hd) d_Mo_run_50 ?_
          refine lv_if_ne (tgt := 67) hx hb d_Mo_run_53 (by decide) (fun _ => ?_) (fun c_69 => absurd c_69 (by decide))
          refine lv_aload_n hx hb d_Mo_run_67 rfl (lv_at hl 1 rfl) ?_
          refine m_g hx hb hts hown hK hP 33 (by decide) rfl (hts _ k_1000) (v := .int 2) (congrArg Value.int hd) d_Mo_run_68 ?_
          refine lv_if_ne (tgt := 77) hx hb d_Mo_run_71 (by decide) (fun _ => ?_) (fun c_70 => absurd c_70 (by decide))
          refine lv_aload_n hx hb d_Mo_run_77 rfl (lv_at hl 1 rfl) ?_
          refine lv_iconst (v := 3) hx hb d_Mo_run_78 (by decide) ?_
          refine m_p hx hb hts hown hK hP hD hS 9 (by decide) rfl (hts _ k_976) rfl (by decide +kernel) rfl (by decide) (x := 3) d_Mo_run_79 (fun H locs hP hD hS => ?_)
          refine lv_iconst (v := 0) hx hb d_Mo_run_82 (by decide) ?_
          refine W.widen (k := 200) (n := 800) (by omega) (by omega) ?_
          exact W.iret (v := 0) hx hb hr (fun t ht hW => ⟨⟨0, ((upd I63 9 3), T63, A63, U1), rfl, ⟨⟨hS72, (fr64 4 (by decide)).trans h4⟩, (hbx.fr fr64 (by decide) (by decide)).fr (L := [9]) (m_fr.rf.up (by decide) _) (by decide) (by decide), Or.inr (Or.inr (Or.inl rfl))⟩, by dsimp only; rw [ht]; exact hP⟩, hS.F ht⟩) hS.2.2 d_Mo_run_83
        · obtain ⟨V, own, pown, bl, role, k9, q, pn, br, st, t1, i29, hri, ht1, c30, hal, hst, n10, n11, n12⟩ := hcur
          refine lv_istore_n (lv' := [(3, .int (-1)), (0, .ref h0), (1, .int nv), (2, .int (I 32))]) hx hb d_Mo_run_42 rfl hl (by decide) rfl (fun ls hl => ?_)
          refine lv_iload_n hx hb d_Mo_run_43 rfl (lv_at hl 0 rfl) ?_
          refine lv_if_lt (tgt := 49) hx hb d_Mo_run_44 (by decide) (fun _ => ?_) (fun c_71 => absurd (by decide) c_71)
          refine lv_aload_n hx hb d_Mo_run_49 rfl (lv_at hl 1 rfl) ?_
          refine m_g hx hb hts hown hK hP 33 (by decide) rfl (hts _ k_1000) (v := .int 0) (congrArg Value.int hd) d_Mo_run_50 ?_
          refine lv_if_ne (tgt := 67) hx hb d_Mo_run_53 (by decide) (fun c_72 => absurd rfl c_72) (fun _ => ?_)
          refine lv_aload_n hx hb d_Mo_run_56 rfl (lv_at hl 1 rfl) ?_
          refine m_g hx hb hts hown hK hP 30 (by decide) rfl (hts _ k_997) (v := .int (Int32.ofNat t1)) (congrArg Value.int c30) d_Mo_run_57 ?_
          refine lv_if_lt (tgt := 67) hx hb d_Mo_run_60 (by decide) (fun c => absurd ((x_ltN (a := t1) (b := 0) (by omega) (by omega)).mp c) (Nat.not_lt_zero _)) (fun _ => ?_)
          have hkn : k < nn := by
            rcases Nat.lt_or_ge k nn with h7 | h7
            · exact h7
            · exact absurd (x_subE (((fr64 32 (by decide)).trans i32).trans (by rw [show k = nn by omega, ← hnn]))) hne
          refine lv_aload_n hx hb d_Mo_run_63 rfl (lv_at hl 1 rfl) ?_
          have hFc := m_free hD hS hA
          refine va_callv (va_runV (As := []) (rest := []) ⟨hx, hb, hml, hown, hts⟩ (m_act l dC dI ar N0 z h0 ad I63 T63 A63 U1 V own pown bl role k9 q pn br st t1 H.size i29 c30 hri ht1 hal hst n10 n11 n12 hd (hbx.fr fr64 (by decide) (by decide))) (cwV 0 hts (x_goodV k_1226 k_1228 kp_71 k_9 k_1229) rfl rfl rfl (by decide +kernel) ⟨Nat.le_of_ble_eq_true rfl, Nat.le_of_ble_eq_true rfl⟩) ⟨x_blind, va_recv hK hP (ci := 6) (q0 := 0) rfl rfl, fun U9 hU9 hW9 => x_pre hU9 hW9 hP hD hU hZ hS hAN hN0⟩ rfl rfl hl.1 rfl (lv_room (Nat.le_of_ble_eq_true rfl)) d_Mo_run_64 ⟨(by show 1 * k + 1 ≤ 200; omega), (by show 4 * k + 4 ≤ 800; omega)⟩) hS (fun q _ h => hFc q h) hFc (fun u t H1 locs ht hvm hw hB hz1 hk1 hS => ?_)
          obtain ⟨I74, T74, A74, U74⟩ := u
          dsimp only at hw hB
          rw [ht] at hB
          have hP : va_P (dC, dI) x_cl (m_W h0 ad ar I74 T74 A74 U74) H1 := hB
          have hD : va_D Bq (m_W h0 ad ar I74 T74 A74 U74) := m_D hD
          generalize H1 = H at hP hS ⊢
          refine W.widen (k := 1 * k + 1) (n := 4 * k + 4) (by omega) (by omega) ?_
          obtain ⟨afr75, afa75, eT, ha32, hbx2, hrun2⟩ := hw
          cases eT
          refine lv_aload_n hx hb d_Mo_run_67 rfl (lv_at hl 1 rfl) ?_
          refine m_g hx hb hts hown hK hP 33 (by decide) rfl (hts _ k_1000) (v := .int (I74 33)) rfl d_Mo_run_68 ?_
          refine lv_if_ne (tgt := 77) hx hb d_Mo_run_71 (by decide) (fun c_76 => ?_) (fun c_76 => ?_)
          · refine lv_aload_n hx hb d_Mo_run_77 rfl (lv_at hl 1 rfl) ?_
            refine lv_iconst (v := 3) hx hb d_Mo_run_78 (by decide) ?_
            refine m_p hx hb hts hown hK hP hD hS 9 (by decide) rfl (hts _ k_976) rfl (by decide +kernel) rfl (by decide) (x := 3) d_Mo_run_79 (fun H locs hP hD hS => ?_)
            refine lv_iconst (v := 0) hx hb d_Mo_run_82 (by decide) ?_
            refine W.widen (k := 200) (n := 800) (by omega) (by omega) ?_
            exact W.iret (v := 0) hx hb hr (fun t ht hW => ⟨⟨0, ((upd I74 9 3), T63, A74, U74), rfl, ⟨⟨hS72, (afr75 4 (by decide)).trans ((fr64 4 (by decide)).trans h4)⟩, hbx2.fr (L := [9]) (m_fr.rf.up (by decide) _) (by decide) (by decide), Or.inr (Or.inr (Or.inl rfl))⟩, by dsimp only; rw [ht]; exact hP⟩, hS.F ht⟩) hS.2.2 d_Mo_run_83
          · refine lv_goto (tgt := 36) hx hb d_Mo_run_74 (by decide) ?_
            have htc9 : m_tc (A74 27) (A74 28) 90 ≤ 90 := m_tc90 90
            refine W.widen (k := 1 * (k + 1)) (n := 4 * (k + 1)) (by omega) (by omega) ?_
            exact ih _ (by omega) (k + 1) H locs ls ⟨I74, T63, A74, U74, rfl, hkn, by rw [ha32, fr64 32 (by decide), i32, Int32.add_assoc]; congr 1; exact (Int32.ofNat_add k 1).symm, ((afr75 9 (by decide)).trans h8), c_76, hrun2 c_76, hbx2, (afr75 4 (by decide)).trans ((fr64 4 (by decide)).trans h4), hP, hD, hS, lv_sub hl [1, 2, 3] rfl⟩
        · refine lv_istore_n (lv' := [(3, .int (-1)), (0, .ref h0), (1, .int nv), (2, .int (I 32))]) hx hb d_Mo_run_42 rfl hl (by decide) rfl (fun ls hl => ?_)
          refine lv_iload_n hx hb d_Mo_run_43 rfl (lv_at hl 0 rfl) ?_
          refine lv_if_lt (tgt := 49) hx hb d_Mo_run_44 (by decide) (fun _ => ?_) (fun c_77 => absurd (by decide) c_77)
          refine lv_aload_n hx hb d_Mo_run_49 rfl (lv_at hl 1 rfl) ?_
          refine m_g hx hb hts hown hK hP 33 (by decide) rfl (hts _ k_1000) (v := .int 0) (congrArg Value.int hd) d_Mo_run_50 ?_
          refine lv_if_ne (tgt := 67) hx hb d_Mo_run_53 (by decide) (fun c_78 => absurd rfl c_78) (fun _ => ?_)
          refine lv_aload_n hx hb d_Mo_run_56 rfl (lv_at hl 1 rfl) ?_
          refine m_g hx hb hts hown hK hP 30 (by decide) rfl (hts _ k_997) (v := .int (-1)) (congrArg Value.int c30) d_Mo_run_57 ?_
          refine lv_if_lt (tgt := 67) hx hb d_Mo_run_60 (by decide) (fun _ => ?_) (fun c_79 => absurd (by decide) c_79)
          refine lv_aload_n hx hb d_Mo_run_67 rfl (lv_at hl 1 rfl) ?_
          refine m_g hx hb hts hown hK hP 33 (by decide) rfl (hts _ k_1000) (v := .int 0) (congrArg Value.int hd) d_Mo_run_68 ?_
          refine lv_if_ne (tgt := 77) hx hb d_Mo_run_71 (by decide) (fun c_80 => absurd rfl c_80) (fun _ => ?_)
          refine lv_goto (tgt := 36) hx hb d_Mo_run_74 (by decide) ?_
          exact ih _ (by omega) k H locs ls ⟨I63, T63, A63, U1, rfl, hk9, (fr64 32 (by decide)).trans i32, h8, hd, hrun2, hbx.fr fr64 (by decide) (by decide), (fr64 4 (by decide)).trans h4, hP, hD, hS, lv_sub hl [1, 2, 3] rfl⟩
    · have i_54 := i_54
      have hFc := m_free hD hS hA
      refine va_calli (va_runV (As := [.int 0]) (rest := []) ⟨hx, hb, hml, hown, hts⟩ (m_bad l dC dI ar N0 z h0 ad I T A U (0) H.size ) (cwV 1 hts (x_goodV k_1116 k_1118 kp_48 k_9 k_1119) rfl rfl rfl (by decide +kernel) ⟨Nat.le_of_ble_eq_true rfl, Nat.le_of_ble_eq_true rfl⟩) ⟨x_blind, va_recv hK hP (ci := 6) (q0 := 0) rfl rfl, fun U9 hU9 hW9 => x_pre hU9 hW9 hP hD hU hZ hS hAN hN0⟩ rfl rfl hl.1 rfl (lv_room (Nat.le_of_ble_eq_true rfl)) d_Mo_run_9 ⟨Nat.le_of_ble_eq_true rfl, Nat.le_of_ble_eq_true rfl⟩) hS (fun q _ h => hFc q h) hFc (fun r_81 u t H1 locs ht hvm hw hB hz1 hk1 hS => ?_)
      obtain ⟨I83, T83, A83, U83⟩ := u
      dsimp only at hw hB
      rw [ht] at hB
      have hP : va_P (dC, dI) x_cl (m_W h0 ad ar I83 T83 A83 U83) H1 := hB
      have hD : va_D Bq (m_W h0 ad ar I83 T83 A83 U83) := m_D hD
      generalize H1 = H at hP hS ⊢
      refine W.widen (k := 0) (n := 0) (Nat.le_of_ble_eq_true rfl) (Nat.le_of_ble_eq_true rfl) ?_
      rcases hw with ⟨b_84, rfl, h9⟩ | ⟨b_84, rfl, h9⟩
      · cases h9
        refine lv_if_eq (tgt := 17) hx hb d_Mo_run_12 (by decide) (fun c_85 => absurd c_85 (by decide)) (fun _ => ?_)
        refine lv_iconst (v := 0) hx hb d_Mo_run_15 (by decide) ?_
        refine W.widen (k := 200) (n := 800) (Nat.le_of_ble_eq_true rfl) (Nat.le_of_ble_eq_true rfl) ?_
        exact W.iret (v := 0) hx hb hr (fun t ht hW => ⟨⟨0, ((upd I 33 1), T, A, U), rfl, ⟨⟨hS72, h4⟩, hbx.fr (L := [33]) (m_fr.rf.up (by decide) _) (by decide) (by decide), Or.inr (Or.inr (Or.inr ⟨h9, by obtain ⟨V, own, pown, bl, role, n, q, pn, br, st, g1, g2, g3⟩ := hrun; exact ⟨V, own, pown, bl, role, n, q, pn, br, st, g1, g2, g3⟩⟩))⟩, by dsimp only; rw [ht]; exact hP⟩, hS.F ht⟩) hS.2.2 d_Mo_run_16
      · exact absurd rfl b_84
