-- ===== 85.yalt: makeTasks, choose of the machine, by program =====
theorem k_632 : (Jvm.Cond.methodLink "ChannelMachine$Machine" (72 : Nat) ({ cls := "ChannelMachine$Machine", name := "start", desc := "(LChannelMachine$Task;)Z" } : Jvm.MethodName)) ∈ x_T := x_at 632 (by decide +kernel) (by decide +kernel)
theorem k_634 : (Jvm.Cond.instanceMethod ({ cls := "ChannelMachine$Machine", name := "start", desc := "(LChannelMachine$Task;)Z" } : Jvm.MethodName)) ∈ x_T := x_at 634 (by decide +kernel) (by decide +kernel)
theorem k_635 : (Jvm.Cond.code ({ cls := "ChannelMachine$Machine", name := "start", desc := "(LChannelMachine$Task;)Z" } : Jvm.MethodName) prog_6_method_3_code (2 : Nat) (Option.some Jvm.ClassFile.FieldType.boolean)) ∈ x_T := x_at 635 (by decide +kernel) (by decide +kernel)
theorem k_875 : (Jvm.Cond.methodLink "ChannelMachine$Machine" (286 : Nat) ({ cls := "ChannelMachine$Machine", name := "pass", desc := "(LChannelMachine$Task;LChannelMachine$Guard;)V" } : Jvm.MethodName)) ∈ x_T := x_at 875 (by decide +kernel) (by decide +kernel)
theorem k_877 : (Jvm.Cond.instanceMethod ({ cls := "ChannelMachine$Machine", name := "pass", desc := "(LChannelMachine$Task;LChannelMachine$Guard;)V" } : Jvm.MethodName)) ∈ x_T := x_at 877 (by decide +kernel) (by decide +kernel)
theorem k_878 : (Jvm.Cond.code ({ cls := "ChannelMachine$Machine", name := "pass", desc := "(LChannelMachine$Task;LChannelMachine$Guard;)V" } : Jvm.MethodName) prog_6_method_25_code (3 : Nat) (Option.none : Option Jvm.ClassFile.FieldType)) ∈ x_T := x_at 878 (by decide +kernel) (by decide +kernel)
theorem kn_404 : (Jvm.Cond.fieldLinkNest "ChannelMachine$Machine" (233 : Nat) "ChannelMachine$Process" "next" "LChannelMachine$Process;" "ChannelMachine") ∈ x_nest := x_nest_at 404 (by decide +kernel) (by decide +kernel)
theorem kn_408 : (Jvm.Cond.fieldLinkNest "ChannelMachine$Machine" (230 : Nat) "ChannelMachine$Process" "task" "LChannelMachine$Task;" "ChannelMachine") ∈ x_nest := x_nest_at 408 (by decide +kernel) (by decide +kernel)
theorem kn_412 : (Jvm.Cond.fieldLinkNest "ChannelMachine$Machine" (272 : Nat) "ChannelMachine$Process" "guards" "LChannelMachine$Guard;" "ChannelMachine") ∈ x_nest := x_nest_at 412 (by decide +kernel) (by decide +kernel)
theorem kn_571 : (Jvm.Cond.fieldLinkNest "ChannelMachine$Machine" (276 : Nat) "ChannelMachine$Guard" "code" "[I" "ChannelMachine") ∈ x_nest := x_nest_at 571 (by decide +kernel) (by decide +kernel)
theorem kn_583 : (Jvm.Cond.fieldLinkNest "ChannelMachine$Machine" (283 : Nat) "ChannelMachine$Guard" "next" "LChannelMachine$Guard;" "ChannelMachine") ∈ x_nest := x_nest_at 583 (by decide +kernel) (by decide +kernel)
theorem kn_585 : (Jvm.Cond.fieldLinkNest "ChannelMachine$Machine" (279 : Nat) "ChannelMachine$Guard" "isOpen" "Z" "ChannelMachine") ∈ x_nest := x_nest_at 585 (by decide +kernel) (by decide +kernel)
theorem kp_21 : (Jvm.Cond.selects "ChannelMachine$Machine" ({ cls := "ChannelMachine$Machine", name := "start", desc := "(LChannelMachine$Task;)Z" } : Jvm.MethodName) ({ cls := "ChannelMachine$Machine", name := "start", desc := "(LChannelMachine$Task;)Z" } : Jvm.MethodName)) ∈ x_T := x_sel (q := (({ cls := "ChannelMachine$Machine", name := "start", desc := "(LChannelMachine$Task;)Z" } : Jvm.MethodName), 11)) 21 (by decide +kernel) (by decide +kernel)
theorem kp_44 : (Jvm.Cond.selects "ChannelMachine$Machine" ({ cls := "ChannelMachine$Machine", name := "pass", desc := "(LChannelMachine$Task;LChannelMachine$Guard;)V" } : Jvm.MethodName) ({ cls := "ChannelMachine$Machine", name := "pass", desc := "(LChannelMachine$Task;LChannelMachine$Guard;)V" } : Jvm.MethodName)) ∈ x_T := x_sel (q := (({ cls := "ChannelMachine$Machine", name := "pass", desc := "(LChannelMachine$Task;LChannelMachine$Guard;)V" } : Jvm.MethodName), 11)) 44 (by decide +kernel) (by decide +kernel)
theorem d_Machine_makeTasks_0 : decode prog_6_method_15_code 0 = .ok (.aload_n 1, 1) := by decide +kernel
theorem d_Machine_makeTasks_1 : decode prog_6_method_15_code 1 = .ok (.iconst 0, 1) := by decide +kernel
theorem d_Machine_makeTasks_2 : decode prog_6_method_15_code 2 = .ok (.putfield 144, 3) := by decide +kernel
theorem d_Machine_makeTasks_5 : decode prog_6_method_15_code 5 = .ok (.aload_n 2, 1) := by decide +kernel
theorem d_Machine_makeTasks_6 : decode prog_6_method_15_code 6 = .ok (.getfield 200, 3) := by decide +kernel
theorem d_Machine_makeTasks_9 : decode prog_6_method_15_code 9 = .ok (.astore_n 3, 1) := by decide +kernel
theorem d_Machine_makeTasks_10 : decode prog_6_method_15_code 10 = .ok (.aload_n 3, 1) := by decide +kernel
theorem d_Machine_makeTasks_11 : decode prog_6_method_15_code 11 = .ok (.ifnull 32, 3) := by decide +kernel
theorem d_Machine_makeTasks_14 : decode prog_6_method_15_code 14 = .ok (.aload_n 0, 1) := by decide +kernel
theorem d_Machine_makeTasks_15 : decode prog_6_method_15_code 15 = .ok (.aload_n 3, 1) := by decide +kernel
theorem d_Machine_makeTasks_16 : decode prog_6_method_15_code 16 = .ok (.getfield 230, 3) := by decide +kernel
theorem d_Machine_makeTasks_19 : decode prog_6_method_15_code 19 = .ok (.invokevirtual 72, 3) := by decide +kernel
theorem d_Machine_makeTasks_22 : decode prog_6_method_15_code 22 = .ok (.ifCond .eq 13, 3) := by decide +kernel
theorem d_Machine_makeTasks_25 : decode prog_6_method_15_code 25 = .ok (.aload_n 1, 1) := by decide +kernel
theorem d_Machine_makeTasks_26 : decode prog_6_method_15_code 26 = .ok (.dup, 1) := by decide +kernel
theorem d_Machine_makeTasks_27 : decode prog_6_method_15_code 27 = .ok (.getfield 144, 3) := by decide +kernel
theorem d_Machine_makeTasks_30 : decode prog_6_method_15_code 30 = .ok (.iconst 1, 1) := by decide +kernel
theorem d_Machine_makeTasks_31 : decode prog_6_method_15_code 31 = .ok (.iadd, 1) := by decide +kernel
theorem d_Machine_makeTasks_32 : decode prog_6_method_15_code 32 = .ok (.putfield 144, 3) := by decide +kernel
theorem d_Machine_makeTasks_35 : decode prog_6_method_15_code 35 = .ok (.aload_n 3, 1) := by decide +kernel
theorem d_Machine_makeTasks_36 : decode prog_6_method_15_code 36 = .ok (.getfield 233, 3) := by decide +kernel
theorem d_Machine_makeTasks_39 : decode prog_6_method_15_code 39 = .ok (.astore_n 3, 1) := by decide +kernel
theorem d_Machine_makeTasks_40 : decode prog_6_method_15_code 40 = .ok (.goto (-30), 3) := by decide +kernel
theorem d_Machine_makeTasks_43 : decode prog_6_method_15_code 43 = .ok (.aload_n 1, 1) := by decide +kernel
theorem d_Machine_makeTasks_44 : decode prog_6_method_15_code 44 = .ok (.getfield 144, 3) := by decide +kernel
theorem d_Machine_makeTasks_47 : decode prog_6_method_15_code 47 = .ok (.ifCond .ne 10, 3) := by decide +kernel
theorem d_Machine_makeTasks_50 : decode prog_6_method_15_code 50 = .ok (.aload_n 1, 1) := by decide +kernel
theorem d_Machine_makeTasks_51 : decode prog_6_method_15_code 51 = .ok (.invokevirtual 150, 3) := by decide +kernel
theorem d_Machine_makeTasks_54 : decode prog_6_method_15_code 54 = .ok (.goto 7, 3) := by decide +kernel
theorem d_Machine_makeTasks_57 : decode prog_6_method_15_code 57 = .ok (.aload_n 0, 1) := by decide +kernel
theorem d_Machine_makeTasks_58 : decode prog_6_method_15_code 58 = .ok (.invokevirtual 183, 3) := by decide +kernel
theorem d_Machine_makeTasks_61 : decode prog_6_method_15_code 61 = .ok (.return_, 1) := by decide +kernel
theorem d_Machine_choose_0 : decode prog_6_method_24_code 0 = .ok (.aload_n 2, 1) := by decide +kernel
theorem d_Machine_choose_1 : decode prog_6_method_24_code 1 = .ok (.getfield 272, 3) := by decide +kernel
theorem d_Machine_choose_4 : decode prog_6_method_24_code 4 = .ok (.astore_n 3, 1) := by decide +kernel
theorem d_Machine_choose_5 : decode prog_6_method_24_code 5 = .ok (.aload_n 3, 1) := by decide +kernel
theorem d_Machine_choose_6 : decode prog_6_method_24_code 6 = .ok (.ifnull 31, 3) := by decide +kernel
theorem d_Machine_choose_9 : decode prog_6_method_24_code 9 = .ok (.aload_n 3, 1) := by decide +kernel
theorem d_Machine_choose_10 : decode prog_6_method_24_code 10 = .ok (.aload_n 0, 1) := by decide +kernel
theorem d_Machine_choose_11 : decode prog_6_method_24_code 11 = .ok (.aload_n 3, 1) := by decide +kernel
theorem d_Machine_choose_12 : decode prog_6_method_24_code 12 = .ok (.getfield 276, 3) := by decide +kernel
theorem d_Machine_choose_15 : decode prog_6_method_24_code 15 = .ok (.invokevirtual 192, 3) := by decide +kernel
theorem d_Machine_choose_18 : decode prog_6_method_24_code 18 = .ok (.ifCond .eq 7, 3) := by decide +kernel
theorem d_Machine_choose_21 : decode prog_6_method_24_code 21 = .ok (.iconst 1, 1) := by decide +kernel
theorem d_Machine_choose_22 : decode prog_6_method_24_code 22 = .ok (.goto 4, 3) := by decide +kernel
theorem d_Machine_choose_25 : decode prog_6_method_24_code 25 = .ok (.iconst 0, 1) := by decide +kernel
theorem d_Machine_choose_26 : decode prog_6_method_24_code 26 = .ok (.putfield 279, 3) := by decide +kernel
theorem d_Machine_choose_29 : decode prog_6_method_24_code 29 = .ok (.aload_n 3, 1) := by decide +kernel
theorem d_Machine_choose_30 : decode prog_6_method_24_code 30 = .ok (.getfield 283, 3) := by decide +kernel
theorem d_Machine_choose_33 : decode prog_6_method_24_code 33 = .ok (.astore_n 3, 1) := by decide +kernel
theorem d_Machine_choose_34 : decode prog_6_method_24_code 34 = .ok (.goto (-29), 3) := by decide +kernel
theorem d_Machine_choose_37 : decode prog_6_method_24_code 37 = .ok (.aload_n 2, 1) := by decide +kernel
theorem d_Machine_choose_38 : decode prog_6_method_24_code 38 = .ok (.getfield 272, 3) := by decide +kernel
theorem d_Machine_choose_41 : decode prog_6_method_24_code 41 = .ok (.astore_n 3, 1) := by decide +kernel
theorem d_Machine_choose_42 : decode prog_6_method_24_code 42 = .ok (.aload_n 3, 1) := by decide +kernel
theorem d_Machine_choose_43 : decode prog_6_method_24_code 43 = .ok (.ifnull 36, 3) := by decide +kernel
theorem d_Machine_choose_46 : decode prog_6_method_24_code 46 = .ok (.aload_n 3, 1) := by decide +kernel
theorem d_Machine_choose_47 : decode prog_6_method_24_code 47 = .ok (.getfield 279, 3) := by decide +kernel
theorem d_Machine_choose_50 : decode prog_6_method_24_code 50 = .ok (.ifCond .eq 21, 3) := by decide +kernel
theorem d_Machine_choose_53 : decode prog_6_method_24_code 53 = .ok (.aload_n 0, 1) := by decide +kernel
theorem d_Machine_choose_54 : decode prog_6_method_24_code 54 = .ok (.aload_n 3, 1) := by decide +kernel
theorem d_Machine_choose_55 : decode prog_6_method_24_code 55 = .ok (.getfield 285, 3) := by decide +kernel
theorem d_Machine_choose_58 : decode prog_6_method_24_code 58 = .ok (.invokevirtual 252, 3) := by decide +kernel
theorem d_Machine_choose_61 : decode prog_6_method_24_code 61 = .ok (.ifCond .eq 10, 3) := by decide +kernel
theorem d_Machine_choose_64 : decode prog_6_method_24_code 64 = .ok (.aload_n 0, 1) := by decide +kernel
theorem d_Machine_choose_65 : decode prog_6_method_24_code 65 = .ok (.aload_n 1, 1) := by decide +kernel
theorem d_Machine_choose_66 : decode prog_6_method_24_code 66 = .ok (.aload_n 3, 1) := by decide +kernel
theorem d_Machine_choose_67 : decode prog_6_method_24_code 67 = .ok (.invokevirtual 286, 3) := by decide +kernel
theorem d_Machine_choose_70 : decode prog_6_method_24_code 70 = .ok (.return_, 1) := by decide +kernel
theorem d_Machine_choose_71 : decode prog_6_method_24_code 71 = .ok (.aload_n 3, 1) := by decide +kernel
theorem d_Machine_choose_72 : decode prog_6_method_24_code 72 = .ok (.getfield 283, 3) := by decide +kernel
theorem d_Machine_choose_75 : decode prog_6_method_24_code 75 = .ok (.astore_n 3, 1) := by decide +kernel
theorem d_Machine_choose_76 : decode prog_6_method_24_code 76 = .ok (.goto (-34), 3) := by decide +kernel
theorem d_Machine_choose_79 : decode prog_6_method_24_code 79 = .ok (.aload_n 2, 1) := by decide +kernel
theorem d_Machine_choose_80 : decode prog_6_method_24_code 80 = .ok (.getfield 272, 3) := by decide +kernel
theorem d_Machine_choose_83 : decode prog_6_method_24_code 83 = .ok (.astore_n 3, 1) := by decide +kernel
theorem d_Machine_choose_84 : decode prog_6_method_24_code 84 = .ok (.aload_n 3, 1) := by decide +kernel
theorem d_Machine_choose_85 : decode prog_6_method_24_code 85 = .ok (.ifnull 35, 3) := by decide +kernel
theorem d_Machine_choose_88 : decode prog_6_method_24_code 88 = .ok (.aload_n 3, 1) := by decide +kernel
theorem d_Machine_choose_89 : decode prog_6_method_24_code 89 = .ok (.getfield 279, 3) := by decide +kernel
theorem d_Machine_choose_92 : decode prog_6_method_24_code 92 = .ok (.ifCond .eq 20, 3) := by decide +kernel
theorem d_Machine_choose_95 : decode prog_6_method_24_code 95 = .ok (.aload_n 0, 1) := by decide +kernel
theorem d_Machine_choose_96 : decode prog_6_method_24_code 96 = .ok (.aload_n 1, 1) := by decide +kernel
theorem d_Machine_choose_97 : decode prog_6_method_24_code 97 = .ok (.aload_n 3, 1) := by decide +kernel
theorem d_Machine_choose_98 : decode prog_6_method_24_code 98 = .ok (.getfield 285, 3) := by decide +kernel
theorem d_Machine_choose_101 : decode prog_6_method_24_code 101 = .ok (.aload_n 3, 1) := by decide +kernel
theorem d_Machine_choose_102 : decode prog_6_method_24_code 102 = .ok (.getfield 290, 3) := by decide +kernel
theorem d_Machine_choose_105 : decode prog_6_method_24_code 105 = .ok (.aload_n 3, 1) := by decide +kernel
theorem d_Machine_choose_106 : decode prog_6_method_24_code 106 = .ok (.getfield 291, 3) := by decide +kernel
theorem d_Machine_choose_109 : decode prog_6_method_24_code 109 = .ok (.invokevirtual 260, 3) := by decide +kernel
theorem d_Machine_choose_112 : decode prog_6_method_24_code 112 = .ok (.aload_n 3, 1) := by decide +kernel
theorem d_Machine_choose_113 : decode prog_6_method_24_code 113 = .ok (.getfield 283, 3) := by decide +kernel
theorem d_Machine_choose_116 : decode prog_6_method_24_code 116 = .ok (.astore_n 3, 1) := by decide +kernel
theorem d_Machine_choose_117 : decode prog_6_method_24_code 117 = .ok (.goto (-33), 3) := by decide +kernel
theorem d_Machine_choose_120 : decode prog_6_method_24_code 120 = .ok (.aload_n 0, 1) := by decide +kernel
theorem d_Machine_choose_121 : decode prog_6_method_24_code 121 = .ok (.invokevirtual 183, 3) := by decide +kernel
theorem d_Machine_choose_124 : decode prog_6_method_24_code 124 = .ok (.return_, 1) := by decide +kernel
section XC
variable {p : Program} {l : Launch} {e : Env} {R : Room} {s : State} {m : MethodId} {args : Array Value} {below : List Frame} {meth : Method} {c : Code} {Q : State → Prop}
/-- a place that several ways reach: walked once -/
theorem x_cutG (Inv : Heap → List Loc → Array Slot → Prop) {pc1 : Nat} {rest1 : List Value} {k1 n1 : Nat} {H0 : Heap} {locs0 : List Loc} {k0 n0 : Nat} {g : JFrame}
    (h1 : ∀ H locs ls, Inv H locs ls → W p l e R s m args below meth c H locs k1 n1 Q (F0 m pc1 ls rest1))
    (h2 : (∀ H locs ls, Inv H locs ls → W p l e R s m args below meth c H locs k1 n1 Q (F0 m pc1 ls rest1)) → W p l e R s m args below meth c H0 locs0 k0 n0 Q g) : W p l e R s m args below meth c H0 locs0 k0 n0 Q g := h2 h1
end XC
/-- a guard that is open waits for a channel -/
def y_nr (Gs : Nat → List Nat) (f : Nat → Option va_E) (P : Nat) (i : Option Nat) : Prop := ∀ k g, (∀ j, i = some j → k < j) → (Gs P)[k]? = some g → (y_sl f g 5 = some (.int 0) ∨ ∃ c : Nat, c < 6 ∧ y_sl f g 1 = some (.int (Int32.ofNat c)))
theorem y_nr.zero {Gs : Nat → List Nat} {f : Nat → Option va_E} {P : Nat} : y_nr Gs f P (some 0) := fun k _ h _ => absurd (h 0 rfl) (Nat.not_lt_zero k)
theorem y_nr.no {Gs : Nat → List Nat} {f : Nat → Option va_E} {P : Nat} (h : (Gs P).head? = none) : y_nr Gs f P none := fun k g _ hk => by
  rw [List.head?_eq_none_iff] at h
  rw [h] at hk
  cases hk
theorem y_nr.up {Gs : Nat → List Nat} {f : Nat → Option va_E} {P i g : Nat} (h : y_nr Gs f P (some i)) (hg : (Gs P)[i]? = some g) (hn : y_sl f g 5 = some (.int 0) ∨ ∃ c : Nat, c < 6 ∧ y_sl f g 1 = some (.int (Int32.ofNat c))) : y_nr Gs f P (some (i + 1)) := fun k g' hk hg' => by
  by_cases e : k = i
  · subst e
    rw [hg] at hg'
    cases hg'
    exact hn
  · refine h k g' (fun j hj => ?_) hg'
    cases hj
    have := hk (i + 1) rfl
    omega
theorem y_nr.all {Gs : Nat → List Nat} {f : Nat → Option va_E} {P i : Nat} (h : y_nr Gs f P (some i)) (hg : (Gs P)[i]? = none) : y_nr Gs f P none := fun k g' hk hg' => by
  refine h k g' (fun j hj => ?_) hg'
  cases hj
  have h1 := List.getElem?_eq_none_iff.mp hg
  have h2 := (List.getElem?_eq_some_iff.mp hg').1
  omega
theorem y_nr.ch {Gs : Nat → List Nat} {f : Nat → Option va_E} {G : Nat → Nat} {g co : Nat} {ch va op : Int32} {fo nx : Option Nat} (hf : f g = some (.inr (9, y_Gf co ch va fo nx op))) (hk : y_GK G co ch fo) (hn : ¬ ch = -1) : y_sl f g 5 = some (.int 0) ∨ ∃ c : Nat, c < 6 ∧ y_sl f g 1 = some (.int (Int32.ofNat c)) := by
  rcases hk.2.1 with h | ⟨c, hc, h⟩
  · exact absurd h hn
  · exact Or.inr ⟨c, hc, by rw [y_sl_at hf, h]; rfl⟩
/-- the greater of two, for the room -/
def y_mx (a b : Nat) : Nat := max a b
theorem y_mx.l {a b : Nat} : a ≤ y_mx a b := Nat.le_max_left a b
theorem y_mx.r {a b : Nat} : b ≤ y_mx a b := Nat.le_max_right a b
theorem y_bd.mono {n n' : Nat × Nat × Nat × Nat} {a b c d : Nat} (h : y_bd n n' a b) (h1 : a ≤ c) (h2 : b ≤ d) : y_bd n n' c d := h.tr (y_bd.rf (a := 0) (b := 0)) (by omega) (by omega)
theorem y_bd.lin {n n' : Nat × Nat × Nat × Nat} {kq ks : Nat} (h : y_bd n n' kq ks) : n'.1 ≤ n.1 + kq ∧ n'.2.1 ≤ n.2.1 + ks ∧ n.2.2.1 ≤ n'.2.2.1 ∧ n.2.2.2 ≤ n'.2.2.2 ∧ n'.2.2.1 ≤ y_mx n.2.2.1 (2 * (n.1 + kq) + 12) ∧ n'.2.2.2 ≤ y_mx n.2.2.2 (2 * (n.2.1 + ks) + 12) := by
  obtain ⟨h1, h2, h3, h4⟩ := h
  unfold y_mx
  refine ⟨h1, h2, ?_, ?_, ?_, ?_⟩ <;> omega
set_option maxHeartbeats 4000000 in
set_option maxRecDepth 100000 in
theorem c_M_makeTasks (l : Launch) (dC : Nat → ClassId) (dI : Nat → Nat → Nat) (ar : Nat → ClassId) (N0 : Nat) (z : Nat → Nat) (ad : Nat → Nat) (I : Nat → Int32) (T : Int64) (A : Nat → Nat → Int32) (O : Nat → Option Nat) (pl : va_W) (G : Nat → Nat) (C Gs : Nat → List Nat) (qn sn cq cs : Nat) (tt pp : Nat) (sz w0 : Nat) (hmi : y_MI z ar G C Gs I O (y_L pl) (qn, sn, cq, cs)) (htt : G tt = 8) (hpp : G pp = 7) (hlen : (C pp).length ≤ 4) (hlim : qn ≤ 10000000) : Met l ({ cls := "ChannelMachine$Machine", name := "makeTasks", desc := "(LChannelMachine$Task;LChannelMachine$Process;)V" } : Jvm.MethodName) ((Jvm.Cond.code ({ cls := "ChannelMachine$Machine", name := "makeTasks", desc := "(LChannelMachine$Task;LChannelMachine$Process;)V" } : Jvm.MethodName) prog_6_method_15_code (4 : Nat) (Option.none : Option Jvm.ClassFile.FieldType)) :: x_T) ({ frames := 8, cells := (y_mx cq (2 * (qn + 4) + 12) - cq + (y_mx cs (2 * (sn + 0) + 12) - cs)) / 5 + 5, slots := 4 * (y_mx cq (2 * (qn + 4) + 12) - cq + (y_mx cs (2 * (sn + 0) + 12) - cs)) + 100, locals := 212 }) (y_Pc (dC, dI) ar N0 z (y_W ad ar I T A O pl) sz w0 [.ref (ad 4), .ref tt, .ref pp]) (va_Qv (fun (u : (Nat → Int32) × Int64 × (Nat → Nat → Int32) × (Nat → Option Nat) × va_W × (Nat × Nat × Nat × Nat)) => y_MI z ar G C Gs u.1 u.2.2.2.1 (y_L u.2.2.2.2.1) u.2.2.2.2.2 ∧ y_bd (qn, sn, cq, cs) u.2.2.2.2.2 4 0 ∧ m_fr [8, 12, 13, 14, 15] I u.1) (fun u t => va_P (dC, dI) y_cl (y_W ad ar u.1 u.2.1 u.2.2.1 u.2.2.2.1 u.2.2.2.2.1) t.heap ∧ va_D (va_A (y_W ad ar I T A O pl) sz) (y_W ad ar u.1 u.2.1 u.2.2.1 u.2.2.2.1 u.2.2.2.2.1) ∧ y_ac (cq + cs) sz w0 (u.2.2.2.2.2.2.2.1 + u.2.2.2.2.2.2.2.2) t.heap) (va_A (y_W ad ar I T A O pl) sz)) ((y_mx cq (2 * (qn + 4) + 12) - cq + (y_mx cs (2 * (sn + 0) + 12) - cs)) / 5 + 5) (4 * (y_mx cq (2 * (qn + 4) + 12) - cq + (y_mx cs (2 * (sn + 0) + 12) - cs)) + 100) (va_A (y_W ad ar I T A O pl) sz) := by
  refine Met.ofW (cc := prog_6_method_15_code) (maxL := 4) (ret := none) (by decide) rfl ?_
  intro p e s m args below meth c s₁ B hml hv
  obtain ⟨rfl, hsz, hN0, hP, hU, hZ, hD0, hw0⟩ := hv
  have hK := hU.2.1
  have hx := B.exec
  have hb := B.bytes
  have hr := B.returns
  have hts : ∀ w ∈ x_T, w.before ([.ref (ad 4), .ref tt, .ref pp] : List Value).toArray s = true := fun w h => atoms_spec (ws := (Jvm.Cond.code ({ cls := "ChannelMachine$Machine", name := "makeTasks", desc := "(LChannelMachine$Task;LChannelMachine$Process;)V" } : Jvm.MethodName) prog_6_method_15_code (4 : Nat) (Option.none : Option Jvm.ClassFile.FieldType)) :: x_T) B.pre w (List.mem_cons_of_mem _ h)
  have hown : s.vm.findClass "ChannelMachine$Machine" = some m.cls := findClass_of_methodNamed B.named
  have hlocks := B.notSynchronized
  subst hsz
  subst hw0
  have hD := hD0.self (sz := s.heap.size)
  have hAN := x_AN hD0 hN0
  generalize hAe : va_A (y_W ad ar I T A O pl) s.heap.size = Bq at hD hAN ⊢
  have hA : ∀ q : Nat, s.heap.size ≤ q → Bq q := fun q h => by rw [← hAe]; exact Or.inr h
  have hS : va_S Bq s.heap s.heap [] := va_S.rf
  have hl := lv_entry ([.ref (ad 4), .ref tt, .ref pp]) (n := 4) (Nat.le_of_ble_eq_true rfl)
  rw [lg_entry_eq]
  generalize (lg_sl ([.ref (ad 4), .ref tt, .ref pp]) ++ List.replicate (4 - (lg_sl ([.ref (ad 4), .ref tt, .ref pp])).length) Slot.unset).toArray = ls at hl ⊢
  have hl : lv_has ls 4 [(0, .ref (ad 4)), (1, .ref tt), (2, .ref pp)] := hl
  have hle := y_LS.le hmi.2.1.2
  have hcap := hmi.2.2.2.2.1
  dsimp only at hle hcap
  have hm1 := @y_mx.r cq (2 * (qn + 4) + 12)
  have hm2 := @y_mx.l cq (2 * (qn + 4) + 12)
  have hm3 := @y_mx.l cs (2 * (sn + 0) + 12)
  refine lv_aload_n hx hb d_Machine_makeTasks_0 rfl (lv_at hl 1 rfl) ?_
  refine lv_iconst (v := 0) hx hb d_Machine_makeTasks_1 (by decide) ?_
  obtain ⟨w1, m1, a1, b1, r1, v1, u1, hf1, hw1, hm1, ha1⟩ := hmi.1.2.1 tt htt
  refine d_pN (C := "ChannelMachine$Task") (F := F_Task) (N := 7) hx hb hts i_Task hown t_Task t_Task_ok n_Task hK hP hD hS hf1 4 rfl (by decide) (hU.1.2.1 _ kn_457) (fun _ h9 => h9) rfl (ty := .int) (v := .int 0) (by decide +kernel) rfl rfl (Nat.le_of_ble_eq_true rfl) d_Machine_makeTasks_2 (fun pl2 H locs hL hP hD hS => ?_)
  have hmi := y_MI.task hmi (t := tt) (w := w1) (m := m1) (a := a1) (b := b1) (r := 0) (v := v1) (u := u1) htt hw1 hm1 ha1
  have hfo1 := hf1
  have hf1 : y_L pl2 tt = some (.inr (8, y_Tf w1 m1 a1 b1 0 v1 u1)) := by rw [hL]; exact y_Lu_s
  have hmi : y_MI z ar G C Gs I O (y_L pl2) (qn, sn, cq, cs) := by rw [hL]; exact hmi
  clear hL
  refine lv_aload_n hx hb d_Machine_makeTasks_5 rfl (lv_at hl 2 rfl) ?_
  obtain ⟨j3, par3, nx3, tk3, co3, ch3, va3, hf3, hpk3⟩ := hmi.1.1 pp hpp
  have hpar3 := hpk3.2.1
  have hnx3 := hpk3.2.2.1
  obtain ⟨t3, rfl, ht3⟩ := hpk3.2.2.2.1
  refine d_gN (C := "ChannelMachine$Process") (F := F_Process) (N := 10) hx hb hts i_Process hown hK hP hf3 2 rfl (by decide) (hU.1.2.1 _ kn_397) (fun _ h9 => h9) (v := va_rf (C pp).head?) rfl d_Machine_makeTasks_6 ?_
  rcases hhy4 : (C pp).head? with _ | y4
  · refine W.eq (g2 := F0 m 9 ls [.null]) rfl ?_
    refine lv_astore_nN (lv' := [(3, .null), (0, .ref (ad 4)), (1, .ref tt), (2, .ref pp)]) hx hb d_Machine_makeTasks_9 rfl hl (by decide) rfl (fun ls hl => ?_)
    refine lv_aload_nN hx hb d_Machine_makeTasks_10 rfl (lv_at hl 0 rfl) ?_
    refine lv_ifnullN (tgt := 43) hx hb d_Machine_makeTasks_11 (by decide) ?_
    refine lv_aload_n hx hb d_Machine_makeTasks_43 rfl (lv_at hl 2 rfl) ?_
    refine d_gN (C := "ChannelMachine$Task") (F := F_Task) (N := 7) hx hb hts i_Task hown hK hP hf1 4 rfl (by decide) (hU.1.2.1 _ kn_457) (fun _ h9 => h9) (v := .int 0) rfl d_Machine_makeTasks_44 ?_
    refine lv_if_ne (tgt := 57) hx hb d_Machine_makeTasks_47 (by decide) (fun c5 => absurd rfl c5) (fun _ => ?_)
    refine lv_aload_n hx hb d_Machine_makeTasks_50 rfl (lv_at hl 2 rfl) ?_
    have hFc := y_free hD hS hA
    refine va_callv (va_runV (As := []) (rest := []) ⟨hx, hb, hml, hown, hts⟩ (c_T_goOn l dC dI ar N0 z ad I T A O pl2 G C Gs qn sn cq cs tt H.size (y_hs H) hmi htt) (cwV 0 hts (x_goodV k_777 k_778 k_779 k_18 k_780) rfl rfl rfl (by decide +kernel) ⟨Nat.le_of_ble_eq_true rfl, Nat.le_of_ble_eq_true rfl⟩) ⟨y_blind, (by obtain ⟨q9, hq9⟩ := y_L_at hf1; exact va_recv hK hP (ci := 8) (q0 := 20 + q9) rfl (by rw [y_W_pl]; exact hq9)), fun U9 hU9 hW9 => y_pre hU9 hW9 hP hD hU hZ hS hAN hN0⟩ rfl rfl hl.1 rfl (lv_room (Nat.le_of_ble_eq_true rfl)) d_Machine_makeTasks_51 ⟨(by show 0 + (0) ≤ (y_mx cq (2 * (qn + 4) + 12) - cq + (y_mx cs (2 * (sn + 0) + 12) - cs)) / 5 + 5; omega), (by show 0 + (0) ≤ 4 * (y_mx cq (2 * (qn + 4) + 12) - cq + (y_mx cs (2 * (sn + 0) + 12) - cs)) + 100; omega)⟩) hS (fun q _ h => hFc q h) hFc (fun u t H1 locs ht hvm hw hB hz1 hk1 hS => ?_)
    obtain ⟨I6, T6, A6, O6, pl6, q6, s6, cq6, cs6⟩ := u
    dsimp only at hw hB
    rw [ht] at hB
    obtain ⟨hP, hD1, hac6⟩ := hB
    have hD : va_D Bq (y_W ad ar I6 T6 A6 O6 pl6) := hD1.weaken (fun _ q _ h => hFc q.1 h)
    generalize H1 = H at hP hS hac6 ⊢
    have hae6 := hac6
    try unfold y_ac at hae6
    try dsimp only at hae6
    refine W.widen (k := 0) (n := 0) (by omega) (by omega) ?_
    obtain ⟨e1, e2, e3, e4, e5, hmi⟩ := hw
    cases e5
    rw [e1, e2, e3, e4] at hP hD
    rw [e1, e4] at hmi
    have hmi : y_MI z ar G C Gs I O (y_L pl6) (qn, sn, cq, cs) := hmi
    refine lv_goto (tgt := 61) hx hb d_Machine_makeTasks_54 (by decide) ?_
    have hbd9 : y_bd (qn, sn, cq, cs) (qn, sn, cq, cs) 4 0 := (y_bd.mono (y_bd.rf (a := 0) (b := 0)) (c := 4) (d := 0) (by omega) (by omega))
    have hb9 := hbd9.lin
    dsimp only at hb9
    refine y_know (fun hy91 hy92 hy93 hy94 => ?_)
    have hac9 : y_ac (cq + cs) s.heap.size (y_hs s.heap) (cq + cs) H := ⟨by omega, by omega⟩
    refine W.widen (k := (y_mx cq (2 * (qn + 4) + 12) - cq + (y_mx cs (2 * (sn + 0) + 12) - cs)) / 5 + 5) (n := 4 * (y_mx cq (2 * (qn + 4) + 12) - cq + (y_mx cs (2 * (sn + 0) + 12) - cs)) + 100) (by omega) (by omega) ?_
    exact W.vret hx hb hr (fun t ht hW => ⟨⟨(I, T, A, O, pl6, (qn, sn, cq, cs)), rfl, ⟨hmi, hbd9, m_fr.rf⟩, (by dsimp only; rw [ht]; exact ⟨hP, hD, hac9⟩)⟩, hS.F ht⟩) hS.2.2 d_Machine_makeTasks_61
  · have hy4 := hmi.1.head hpp hhy4
    refine W.eq (g2 := F0 m 9 ls [.ref y4]) rfl ?_
    refine lv_astore_n (lv' := [(3, .ref y4), (0, .ref (ad 4)), (1, .ref tt), (2, .ref pp)]) hx hb d_Machine_makeTasks_9 rfl hl (by decide) rfl (fun ls hl => ?_)
    refine W.widen (k := ((cq + cs) - (cq + cs)) / 5) (n := 4 * ((cq + cs) - (cq + cs))) (by omega) (by omega) ?_
    refine x_whileG (fun X => (X - (cq + cs)) / 5) (fun X => 4 * (X - (cq + cs))) (k := (cq + cs)) (fun n X H locs ls => ∃ (I1 : Nat → Int32) (T1 : Int64) (A1 : Nat → Nat → Int32) (O1 : Nat → Option Nat) (pl1 : va_W) (q1 s1 cq1 cs1 i1 p1 : Nat), X = cq1 + cs1 ∧ n = 4 - i1 ∧ (C pp)[i1]? = some p1 ∧ m_fr [8, 12, 13, 14, 15] I I1 ∧ y_MI z ar G C Gs I1 O1 (y_L pl1) (q1, s1, cq1, cs1) ∧ y_bd (qn, sn, cq, cs) (q1, s1, cq1, cs1) i1 0 ∧ va_P (dC, dI) y_cl (y_W ad ar I1 T1 A1 O1 pl1) H ∧ va_D Bq (y_W ad ar I1 T1 A1 O1 pl1) ∧ va_S Bq s.heap H locs ∧ lv_has ls 4 [(0, .ref (ad 4)), (1, .ref tt), (3, .ref p1)]) (fun n ih X H locs ls h9 => ?_) ⟨I, T, A, O, pl2, qn, sn, cq, cs, 0, y4, rfl, rfl, by rw [← List.head?_eq_getElem?]; exact hhy4, m_fr.rf, hmi, y_bd.rf, hP, hD, hS, lv_sub hl [1, 2, 0] rfl⟩
    obtain ⟨I1, T1, A1, O1, pl1, q1, s1, cq1, cs1, i1, p1, hX, hn9, hp1, hfr, hmi, hbd0, hP, hD, hS, hl⟩ := h9
    refine W.cs (cells' := (X - (cq + cs)) / 5) (slots' := 4 * (X - (cq + cs))) rfl rfl ?_
    subst hX
    have hle1 := y_LS.le hmi.2.1.2
    have hcap1 := hmi.2.2.2.2.1
    dsimp only at hle1 hcap1
    have hi1 := (List.getElem?_eq_some_iff.mp hp1).1
    have hb0 := (y_bd.mono hbd0 (c := 3) (d := 0) (by omega) (by omega)).lin
    have hb0b := (y_bd.mono hbd0 (c := 4) (d := 0) (by omega) (by omega)).lin
    dsimp only at hb0 hb0b
    have hp17 : G p1 = 7 := (hmi.1.2.2.2.2.1 pp i1 p1 hpp hp1).1
    refine lv_aload_n hx hb d_Machine_makeTasks_10 rfl (lv_at hl 2 rfl) ?_
    refine lv_ifnull hx hb d_Machine_makeTasks_11 ?_
    refine lv_aload_n hx hb d_Machine_makeTasks_14 rfl (lv_at hl 0 rfl) ?_
    refine lv_aload_n hx hb d_Machine_makeTasks_15 rfl (lv_at hl 2 rfl) ?_
    obtain ⟨j7, par7, nx7, tk7, co7, ch7, va7, hf7, hpk7⟩ := hmi.1.1 p1 hp17
    have hpar7 := hpk7.2.1
    have hnx7 := hpk7.2.2.1
    obtain ⟨t7, rfl, ht7⟩ := hpk7.2.2.2.1
    refine d_gN (C := "ChannelMachine$Process") (F := F_Process) (N := 10) hx hb hts i_Process hown hK hP hf7 5 rfl (by decide) (hU.1.2.1 _ kn_408) (fun _ h9 => h9) (v := .ref t7) rfl d_Machine_makeTasks_16 ?_
    have hgg8 := y_gg q1 cq1
    refine y_know (fun hya1 hya2 hya3 hya4 => ?_)
    have hFc := y_free hD hS hA
    refine va_calli (va_runV (As := [.ref t7]) (rest := []) ⟨hx, hb, hml, hown, hts⟩ (c_M_start l dC dI ar N0 z ad I1 T1 A1 O1 pl1 G C Gs q1 s1 cq1 cs1 t7 H.size (y_hs H) hmi ht7 (by omega)) (cwV 1 hts (x_goodV k_632 k_634 kp_21 k_3 k_635) rfl rfl rfl (by decide +kernel) ⟨Nat.le_of_ble_eq_true rfl, Nat.le_of_ble_eq_true rfl⟩) ⟨y_blind, va_recv hK hP (ci := 2) (q0 := 4) rfl (y_W_ob (by decide) (by decide)), fun U9 hU9 hW9 => y_pre hU9 hW9 hP hD hU hZ hS hAN hN0⟩ rfl rfl hl.1 rfl (lv_room (Nat.le_of_ble_eq_true rfl)) d_Machine_makeTasks_19 ⟨(by show (cq1 + cs1 - (cq + cs)) / 5 + (y_gc q1 cq1) ≤ (y_mx cq (2 * (qn + 4) + 12) - cq + (y_mx cs (2 * (sn + 0) + 12) - cs)) / 5 + 5; omega), (by show 4 * (cq1 + cs1 - (cq + cs)) + (y_gs q1 cq1) ≤ 4 * (y_mx cq (2 * (qn + 4) + 12) - cq + (y_mx cs (2 * (sn + 0) + 12) - cs)) + 100; omega)⟩) hS (fun q _ h => hFc q h) hFc (fun r_9 u t H1 locs ht hvm hw hB hz1 hk1 hS => ?_)
    obtain ⟨I10, T10, A10, O10, pl10, q10, s10, cq10, cs10⟩ := u
    dsimp only at hw hB
    rw [ht] at hB
    obtain ⟨hP, hD1, hac10⟩ := hB
    have hD : va_D Bq (y_W ad ar I10 T10 A10 O10 pl10) := hD1.weaken (fun _ q _ h => hFc q.1 h)
    generalize H1 = H at hP hS hac10 ⊢
    have hae10 := hac10
    try unfold y_ac at hae10
    try dsimp only at hae10
    obtain ⟨hmi, hbd10, fr10, hr9⟩ := hw
    unfold y_ac at hac10
    try dsimp only at hac10
    have hb10 := hbd10.lin
    dsimp only at hb10
    have hbo10 : y_bd (qn, sn, cq, cs) (q10, s10, cq10, cs10) 4 0 := (y_bd.mono (y_bd.tr hbd0 hbd10 (e := i1 + 1) (g := 0 + 0) (by omega) (by omega)) (c := 4) (d := 0) (by omega) (by omega))
    have hbo10 := hbo10.lin
    dsimp only at hbo10
    refine y_tight (k := (cq10 + cs10 - (cq + cs)) / 5) (n := 4 * (cq10 + cs10 - (cq + cs))) (by omega) (by omega) ?_
    rcases hr9 with rfl | rfl
    · refine lv_if_eq (tgt := 35) hx hb d_Machine_makeTasks_22 (by decide) (fun _ => ?_) (fun c11 => absurd (by decide) c11)
      refine lv_aload_n hx hb d_Machine_makeTasks_35 rfl (lv_at hl 2 rfl) ?_
      obtain ⟨j12, par12, nx12, tk12, co12, ch12, va12, hf12, hpk12⟩ := hmi.1.1 p1 hp17
      have hpar12 := hpk12.2.1
      have hnx12 := hpk12.2.2.1
      obtain ⟨t12, rfl, ht12⟩ := hpk12.2.2.2.1
      refine d_gN (C := "ChannelMachine$Process") (F := F_Process) (N := 10) hx hb hts i_Process hown hK hP hf12 4 rfl (by decide) (hU.1.2.1 _ kn_404) (fun _ h9 => h9) (v := va_rf nx12) rfl d_Machine_makeTasks_36 ?_
      rcases nx12 with _ | x13
      · refine W.eq (g2 := F0 m 39 ls [.null]) rfl ?_
        refine lv_astore_nN (lv' := [(3, .null), (0, .ref (ad 4)), (1, .ref tt)]) hx hb d_Machine_makeTasks_39 rfl hl (by decide) rfl (fun ls hl => ?_)
        refine lv_goto (tgt := 10) hx hb d_Machine_makeTasks_40 (by decide) ?_
        refine lv_aload_nN hx hb d_Machine_makeTasks_10 rfl (lv_at hl 0 rfl) ?_
        refine lv_ifnullN (tgt := 43) hx hb d_Machine_makeTasks_11 (by decide) ?_
        refine lv_aload_n hx hb d_Machine_makeTasks_43 rfl (lv_at hl 2 rfl) ?_
        obtain ⟨w14, m14, a14, b14, r14, v14, u14, hf14, hw14, hm14, ha14⟩ := hmi.1.2.1 tt htt
        refine d_gN (C := "ChannelMachine$Task") (F := F_Task) (N := 7) hx hb hts i_Task hown hK hP hf14 4 rfl (by decide) (hU.1.2.1 _ kn_457) (fun _ h9 => h9) (v := .int r14) rfl d_Machine_makeTasks_44 ?_
        refine lv_if_ne (tgt := 57) hx hb d_Machine_makeTasks_47 (by decide) (fun c15 => ?_) (fun c15 => ?_)
        · refine lv_aload_n hx hb d_Machine_makeTasks_57 rfl (lv_at hl 1 rfl) ?_
          have hFc := y_free hD hS hA
          refine va_callv (va_runV (As := []) (rest := []) ⟨hx, hb, hml, hown, hts⟩ (c_M_pause l dC dI ar N0 z ad I10 T10 A10 O10 pl10 G C Gs q10 s10 cq10 cs10 H.size (y_hs H) hmi) (cwV 0 hts (x_goodV k_787 k_789 kp_30 k_3 k_790) rfl rfl rfl (by decide +kernel) ⟨Nat.le_of_ble_eq_true rfl, Nat.le_of_ble_eq_true rfl⟩) ⟨y_blind, va_recv hK hP (ci := 2) (q0 := 4) rfl (y_W_ob (by decide) (by decide)), fun U9 hU9 hW9 => y_pre hU9 hW9 hP hD hU hZ hS hAN hN0⟩ rfl rfl hl.1 rfl (lv_room (Nat.le_of_ble_eq_true rfl)) d_Machine_makeTasks_58 ⟨(by show (cq10 + cs10 - (cq + cs)) / 5 + (0) ≤ (y_mx cq (2 * (qn + 4) + 12) - cq + (y_mx cs (2 * (sn + 0) + 12) - cs)) / 5 + 5; omega), (by show 4 * (cq10 + cs10 - (cq + cs)) + (0) ≤ 4 * (y_mx cq (2 * (qn + 4) + 12) - cq + (y_mx cs (2 * (sn + 0) + 12) - cs)) + 100; omega)⟩) hS (fun q _ h => hFc q h) hFc (fun u t H1 locs ht hvm hw hB hz1 hk1 hS => ?_)
          obtain ⟨I16, T16, A16, O16, pl16, q16, s16, cq16, cs16⟩ := u
          dsimp only at hw hB
          rw [ht] at hB
          obtain ⟨hP, hD1, hac16⟩ := hB
          have hD : va_D Bq (y_W ad ar I16 T16 A16 O16 pl16) := hD1.weaken (fun _ q _ h => hFc q.1 h)
          generalize H1 = H at hP hS hac16 ⊢
          have hae16 := hac16
          try unfold y_ac at hae16
          try dsimp only at hae16
          refine W.widen (k := (cq10 + cs10 - (cq + cs)) / 5) (n := 4 * (cq10 + cs10 - (cq + cs))) (by omega) (by omega) ?_
          obtain ⟨hmi, hbd16, fr16⟩ := hw
          have hb16 := hbd16.lin
          dsimp only at hb16
          unfold y_ac at hac16
          try dsimp only at hac16
          have hbd9 : y_bd (qn, sn, cq, cs) (q16, s16, cq16, cs16) 4 0 := (y_bd.mono (y_bd.tr (y_bd.tr hbd0 hbd10 (e := i1 + 1) (g := 0 + 0) (by omega) (by omega)) hbd16 (e := i1 + 1 + 0) (g := 0 + 0 + 0) (by omega) (by omega)) (c := 4) (d := 0) (by omega) (by omega))
          have hb9 := hbd9.lin
          dsimp only at hb9
          refine y_know (fun hy91 hy92 hy93 hy94 => ?_)
          have hac9 : y_ac (cq + cs) s.heap.size (y_hs s.heap) (cq16 + cs16) H := ⟨by omega, by omega⟩
          refine W.widen (k := (y_mx cq (2 * (qn + 4) + 12) - cq + (y_mx cs (2 * (sn + 0) + 12) - cs)) / 5 + 5) (n := 4 * (y_mx cq (2 * (qn + 4) + 12) - cq + (y_mx cs (2 * (sn + 0) + 12) - cs)) + 100) (by omega) (by omega) ?_
          exact W.vret hx hb hr (fun t ht hW => ⟨⟨(I16, T16, A16, O16, pl16, (q16, s16, cq16, cs16)), rfl, ⟨hmi, hbd9, ((hfr.tr fr10 (by decide)).tr fr16 (by decide))⟩, (by dsimp only; rw [ht]; exact ⟨hP, hD, hac9⟩)⟩, hS.F ht⟩) hS.2.2 d_Machine_makeTasks_61
        · refine lv_aload_n hx hb d_Machine_makeTasks_50 rfl (lv_at hl 2 rfl) ?_
          have hFc := y_free hD hS hA
          refine va_callv (va_runV (As := []) (rest := []) ⟨hx, hb, hml, hown, hts⟩ (c_T_goOn l dC dI ar N0 z ad I10 T10 A10 O10 pl10 G C Gs q10 s10 cq10 cs10 tt H.size (y_hs H) hmi htt) (cwV 0 hts (x_goodV k_777 k_778 k_779 k_18 k_780) rfl rfl rfl (by decide +kernel) ⟨Nat.le_of_ble_eq_true rfl, Nat.le_of_ble_eq_true rfl⟩) ⟨y_blind, (by obtain ⟨q9, hq9⟩ := y_L_at hf14; exact va_recv hK hP (ci := 8) (q0 := 20 + q9) rfl (by rw [y_W_pl]; exact hq9)), fun U9 hU9 hW9 => y_pre hU9 hW9 hP hD hU hZ hS hAN hN0⟩ rfl rfl hl.1 rfl (lv_room (Nat.le_of_ble_eq_true rfl)) d_Machine_makeTasks_51 ⟨(by show (cq10 + cs10 - (cq + cs)) / 5 + (0) ≤ (y_mx cq (2 * (qn + 4) + 12) - cq + (y_mx cs (2 * (sn + 0) + 12) - cs)) / 5 + 5; omega), (by show 4 * (cq10 + cs10 - (cq + cs)) + (0) ≤ 4 * (y_mx cq (2 * (qn + 4) + 12) - cq + (y_mx cs (2 * (sn + 0) + 12) - cs)) + 100; omega)⟩) hS (fun q _ h => hFc q h) hFc (fun u t H1 locs ht hvm hw hB hz1 hk1 hS => ?_)
          obtain ⟨I17, T17, A17, O17, pl17, q17, s17, cq17, cs17⟩ := u
          dsimp only at hw hB
          rw [ht] at hB
          obtain ⟨hP, hD1, hac17⟩ := hB
          have hD : va_D Bq (y_W ad ar I17 T17 A17 O17 pl17) := hD1.weaken (fun _ q _ h => hFc q.1 h)
          generalize H1 = H at hP hS hac17 ⊢
          have hae17 := hac17
          try unfold y_ac at hae17
          try dsimp only at hae17
          refine W.widen (k := (cq10 + cs10 - (cq + cs)) / 5) (n := 4 * (cq10 + cs10 - (cq + cs))) (by omega) (by omega) ?_
          obtain ⟨e1, e2, e3, e4, e5, hmi⟩ := hw
          cases e5
          rw [e1, e2, e3, e4] at hP hD
          rw [e1, e4] at hmi
          have hmi : y_MI z ar G C Gs I10 O10 (y_L pl17) (q10, s10, cq10, cs10) := hmi
          refine lv_goto (tgt := 61) hx hb d_Machine_makeTasks_54 (by decide) ?_
          have hbd9 : y_bd (qn, sn, cq, cs) (q10, s10, cq10, cs10) 4 0 := (y_bd.mono (y_bd.tr hbd0 hbd10 (e := i1 + 1) (g := 0 + 0) (by omega) (by omega)) (c := 4) (d := 0) (by omega) (by omega))
          have hb9 := hbd9.lin
          dsimp only at hb9
          refine y_know (fun hy91 hy92 hy93 hy94 => ?_)
          have hac9 : y_ac (cq + cs) s.heap.size (y_hs s.heap) (cq10 + cs10) H := ⟨by omega, by omega⟩
          refine W.widen (k := (y_mx cq (2 * (qn + 4) + 12) - cq + (y_mx cs (2 * (sn + 0) + 12) - cs)) / 5 + 5) (n := 4 * (y_mx cq (2 * (qn + 4) + 12) - cq + (y_mx cs (2 * (sn + 0) + 12) - cs)) + 100) (by omega) (by omega) ?_
          exact W.vret hx hb hr (fun t ht hW => ⟨⟨(I10, T10, A10, O10, pl17, (q10, s10, cq10, cs10)), rfl, ⟨hmi, hbd9, (hfr.tr fr10 (by decide))⟩, (by dsimp only; rw [ht]; exact ⟨hP, hD, hac9⟩)⟩, hS.F ht⟩) hS.2.2 d_Machine_makeTasks_61
      · have hx13 := hnx12 x13 rfl
        refine W.eq (g2 := F0 m 39 ls [.ref x13]) rfl ?_
        refine lv_astore_n (lv' := [(3, .ref x13), (0, .ref (ad 4)), (1, .ref tt)]) hx hb d_Machine_makeTasks_39 rfl hl (by decide) rfl (fun ls hl => ?_)
        refine lv_goto (tgt := 10) hx hb d_Machine_makeTasks_40 (by decide) ?_
        have hlk := (hmi.1.2.2.2.2.1 pp i1 p1 hpp hp1).2
        rw [y_sl_at hf12] at hlk
        have hlk : (C pp)[i1 + 1]? = some x13 := (y_rf_inj (a := some x13) (Option.some.inj hlk)).symm
        refine W.widen (k := (cq10 + cs10 - (cq + cs)) / 5) (n := 4 * (cq10 + cs10 - (cq + cs))) (by omega) (by omega) ?_
        exact ih (4 - (i1 + 1)) (by omega) (cq10 + cs10) H locs ls ⟨I10, T10, A10, O10, pl10, q10, s10, cq10, cs10, i1 + 1, x13, rfl, rfl, hlk, (hfr.tr fr10 (by decide)), hmi, (y_bd.mono (y_bd.tr hbd0 hbd10 (e := i1 + 1) (g := 0 + 0) (by omega) (by omega)) (c := i1 + 1) (d := 0) (by omega) (by omega)), hP, hD, hS, lv_sub hl [1, 2, 0] rfl⟩
    · refine lv_if_eq (tgt := 35) hx hb d_Machine_makeTasks_22 (by decide) (fun c18 => absurd c18 (by decide)) (fun _ => ?_)
      refine lv_aload_n hx hb d_Machine_makeTasks_25 rfl (lv_at hl 1 rfl) ?_
      refine lv_dup hx hb d_Machine_makeTasks_26 rfl ?_
      obtain ⟨w19, m19, a19, b19, r19, v19, u19, hf19, hw19, hm19, ha19⟩ := hmi.1.2.1 tt htt
      refine d_gN (C := "ChannelMachine$Task") (F := F_Task) (N := 7) hx hb hts i_Task hown hK hP hf19 4 rfl (by decide) (hU.1.2.1 _ kn_457) (fun _ h9 => h9) (v := .int r19) rfl d_Machine_makeTasks_27 ?_
      refine lv_iconst (v := 1) hx hb d_Machine_makeTasks_30 (by decide) ?_
      refine lv_iadd hx hb d_Machine_makeTasks_31 ?_
      refine d_pN (C := "ChannelMachine$Task") (F := F_Task) (N := 7) hx hb hts i_Task hown t_Task t_Task_ok n_Task hK hP hD hS hf19 4 rfl (by decide) (hU.1.2.1 _ kn_457) (fun _ h9 => h9) rfl (ty := .int) (v := .int (r19 + 1)) (by decide +kernel) rfl rfl (Nat.le_of_ble_eq_true rfl) d_Machine_makeTasks_32 (fun pl20 H locs hL hP hD hS => ?_)
      have hmi := y_MI.task hmi (t := tt) (w := w19) (m := m19) (a := a19) (b := b19) (r := (r19 + 1)) (v := v19) (u := u19) htt hw19 hm19 ha19
      have hfo19 := hf19
      have hf19 : y_L pl20 tt = some (.inr (8, y_Tf w19 m19 a19 b19 (r19 + 1) v19 u19)) := by rw [hL]; exact y_Lu_s
      have hmi : y_MI z ar G C Gs I10 O10 (y_L pl20) (q10, s10, cq10, cs10) := by rw [hL]; exact hmi
      clear hL
      refine lv_aload_n hx hb d_Machine_makeTasks_35 rfl (lv_at hl 2 rfl) ?_
      obtain ⟨j21, par21, nx21, tk21, co21, ch21, va21, hf21, hpk21⟩ := hmi.1.1 p1 hp17
      have hpar21 := hpk21.2.1
      have hnx21 := hpk21.2.2.1
      obtain ⟨t21, rfl, ht21⟩ := hpk21.2.2.2.1
      refine d_gN (C := "ChannelMachine$Process") (F := F_Process) (N := 10) hx hb hts i_Process hown hK hP hf21 4 rfl (by decide) (hU.1.2.1 _ kn_404) (fun _ h9 => h9) (v := va_rf nx21) rfl d_Machine_makeTasks_36 ?_
      rcases nx21 with _ | x22
      · refine W.eq (g2 := F0 m 39 ls [.null]) rfl ?_
        refine lv_astore_nN (lv' := [(3, .null), (0, .ref (ad 4)), (1, .ref tt)]) hx hb d_Machine_makeTasks_39 rfl hl (by decide) rfl (fun ls hl => ?_)
        refine lv_goto (tgt := 10) hx hb d_Machine_makeTasks_40 (by decide) ?_
        refine lv_aload_nN hx hb d_Machine_makeTasks_10 rfl (lv_at hl 0 rfl) ?_
        refine lv_ifnullN (tgt := 43) hx hb d_Machine_makeTasks_11 (by decide) ?_
        refine lv_aload_n hx hb d_Machine_makeTasks_43 rfl (lv_at hl 2 rfl) ?_
        refine d_gN (C := "ChannelMachine$Task") (F := F_Task) (N := 7) hx hb hts i_Task hown hK hP hf19 4 rfl (by decide) (hU.1.2.1 _ kn_457) (fun _ h9 => h9) (v := .int (r19 + 1)) rfl d_Machine_makeTasks_44 ?_
        refine lv_if_ne (tgt := 57) hx hb d_Machine_makeTasks_47 (by decide) (fun c23 => ?_) (fun c23 => ?_)
        · refine lv_aload_n hx hb d_Machine_makeTasks_57 rfl (lv_at hl 1 rfl) ?_
          have hFc := y_free hD hS hA
          refine va_callv (va_runV (As := []) (rest := []) ⟨hx, hb, hml, hown, hts⟩ (c_M_pause l dC dI ar N0 z ad I10 T10 A10 O10 pl20 G C Gs q10 s10 cq10 cs10 H.size (y_hs H) hmi) (cwV 0 hts (x_goodV k_787 k_789 kp_30 k_3 k_790) rfl rfl rfl (by decide +kernel) ⟨Nat.le_of_ble_eq_true rfl, Nat.le_of_ble_eq_true rfl⟩) ⟨y_blind, va_recv hK hP (ci := 2) (q0 := 4) rfl (y_W_ob (by decide) (by decide)), fun U9 hU9 hW9 => y_pre hU9 hW9 hP hD hU hZ hS hAN hN0⟩ rfl rfl hl.1 rfl (lv_room (Nat.le_of_ble_eq_true rfl)) d_Machine_makeTasks_58 ⟨(by show (cq10 + cs10 - (cq + cs)) / 5 + (0) ≤ (y_mx cq (2 * (qn + 4) + 12) - cq + (y_mx cs (2 * (sn + 0) + 12) - cs)) / 5 + 5; omega), (by show 4 * (cq10 + cs10 - (cq + cs)) + (0) ≤ 4 * (y_mx cq (2 * (qn + 4) + 12) - cq + (y_mx cs (2 * (sn + 0) + 12) - cs)) + 100; omega)⟩) hS (fun q _ h => hFc q h) hFc (fun u t H1 locs ht hvm hw hB hz1 hk1 hS => ?_)
          obtain ⟨I24, T24, A24, O24, pl24, q24, s24, cq24, cs24⟩ := u
          dsimp only at hw hB
          rw [ht] at hB
          obtain ⟨hP, hD1, hac24⟩ := hB
          have hD : va_D Bq (y_W ad ar I24 T24 A24 O24 pl24) := hD1.weaken (fun _ q _ h => hFc q.1 h)
          generalize H1 = H at hP hS hac24 ⊢
          have hae24 := hac24
          try unfold y_ac at hae24
          try dsimp only at hae24
          refine W.widen (k := (cq10 + cs10 - (cq + cs)) / 5) (n := 4 * (cq10 + cs10 - (cq + cs))) (by omega) (by omega) ?_
          obtain ⟨hmi, hbd24, fr24⟩ := hw
          have hb24 := hbd24.lin
          dsimp only at hb24
          unfold y_ac at hac24
          try dsimp only at hac24
          have hbd9 : y_bd (qn, sn, cq, cs) (q24, s24, cq24, cs24) 4 0 := (y_bd.mono (y_bd.tr (y_bd.tr hbd0 hbd10 (e := i1 + 1) (g := 0 + 0) (by omega) (by omega)) hbd24 (e := i1 + 1 + 0) (g := 0 + 0 + 0) (by omega) (by omega)) (c := 4) (d := 0) (by omega) (by omega))
          have hb9 := hbd9.lin
          dsimp only at hb9
          refine y_know (fun hy91 hy92 hy93 hy94 => ?_)
          have hac9 : y_ac (cq + cs) s.heap.size (y_hs s.heap) (cq24 + cs24) H := ⟨by omega, by omega⟩
          refine W.widen (k := (y_mx cq (2 * (qn + 4) + 12) - cq + (y_mx cs (2 * (sn + 0) + 12) - cs)) / 5 + 5) (n := 4 * (y_mx cq (2 * (qn + 4) + 12) - cq + (y_mx cs (2 * (sn + 0) + 12) - cs)) + 100) (by omega) (by omega) ?_
          exact W.vret hx hb hr (fun t ht hW => ⟨⟨(I24, T24, A24, O24, pl24, (q24, s24, cq24, cs24)), rfl, ⟨hmi, hbd9, ((hfr.tr fr10 (by decide)).tr fr24 (by decide))⟩, (by dsimp only; rw [ht]; exact ⟨hP, hD, hac9⟩)⟩, hS.F ht⟩) hS.2.2 d_Machine_makeTasks_61
        · refine lv_aload_n hx hb d_Machine_makeTasks_50 rfl (lv_at hl 2 rfl) ?_
          have hFc := y_free hD hS hA
          refine va_callv (va_runV (As := []) (rest := []) ⟨hx, hb, hml, hown, hts⟩ (c_T_goOn l dC dI ar N0 z ad I10 T10 A10 O10 pl20 G C Gs q10 s10 cq10 cs10 tt H.size (y_hs H) hmi htt) (cwV 0 hts (x_goodV k_777 k_778 k_779 k_18 k_780) rfl rfl rfl (by decide +kernel) ⟨Nat.le_of_ble_eq_true rfl, Nat.le_of_ble_eq_true rfl⟩) ⟨y_blind, (by obtain ⟨q9, hq9⟩ := y_L_at hf19; exact va_recv hK hP (ci := 8) (q0 := 20 + q9) rfl (by rw [y_W_pl]; exact hq9)), fun U9 hU9 hW9 => y_pre hU9 hW9 hP hD hU hZ hS hAN hN0⟩ rfl rfl hl.1 rfl (lv_room (Nat.le_of_ble_eq_true rfl)) d_Machine_makeTasks_51 ⟨(by show (cq10 + cs10 - (cq + cs)) / 5 + (0) ≤ (y_mx cq (2 * (qn + 4) + 12) - cq + (y_mx cs (2 * (sn + 0) + 12) - cs)) / 5 + 5; omega), (by show 4 * (cq10 + cs10 - (cq + cs)) + (0) ≤ 4 * (y_mx cq (2 * (qn + 4) + 12) - cq + (y_mx cs (2 * (sn + 0) + 12) - cs)) + 100; omega)⟩) hS (fun q _ h => hFc q h) hFc (fun u t H1 locs ht hvm hw hB hz1 hk1 hS => ?_)
          obtain ⟨I25, T25, A25, O25, pl25, q25, s25, cq25, cs25⟩ := u
          dsimp only at hw hB
          rw [ht] at hB
          obtain ⟨hP, hD1, hac25⟩ := hB
          have hD : va_D Bq (y_W ad ar I25 T25 A25 O25 pl25) := hD1.weaken (fun _ q _ h => hFc q.1 h)
          generalize H1 = H at hP hS hac25 ⊢
          have hae25 := hac25
          try unfold y_ac at hae25
          try dsimp only at hae25
          refine W.widen (k := (cq10 + cs10 - (cq + cs)) / 5) (n := 4 * (cq10 + cs10 - (cq + cs))) (by omega) (by omega) ?_
          obtain ⟨e1, e2, e3, e4, e5, hmi⟩ := hw
          cases e5
          rw [e1, e2, e3, e4] at hP hD
          rw [e1, e4] at hmi
          have hmi : y_MI z ar G C Gs I10 O10 (y_L pl25) (q10, s10, cq10, cs10) := hmi
          refine lv_goto (tgt := 61) hx hb d_Machine_makeTasks_54 (by decide) ?_
          have hbd9 : y_bd (qn, sn, cq, cs) (q10, s10, cq10, cs10) 4 0 := (y_bd.mono (y_bd.tr hbd0 hbd10 (e := i1 + 1) (g := 0 + 0) (by omega) (by omega)) (c := 4) (d := 0) (by omega) (by omega))
          have hb9 := hbd9.lin
          dsimp only at hb9
          refine y_know (fun hy91 hy92 hy93 hy94 => ?_)
          have hac9 : y_ac (cq + cs) s.heap.size (y_hs s.heap) (cq10 + cs10) H := ⟨by omega, by omega⟩
          refine W.widen (k := (y_mx cq (2 * (qn + 4) + 12) - cq + (y_mx cs (2 * (sn + 0) + 12) - cs)) / 5 + 5) (n := 4 * (y_mx cq (2 * (qn + 4) + 12) - cq + (y_mx cs (2 * (sn + 0) + 12) - cs)) + 100) (by omega) (by omega) ?_
          exact W.vret hx hb hr (fun t ht hW => ⟨⟨(I10, T10, A10, O10, pl25, (q10, s10, cq10, cs10)), rfl, ⟨hmi, hbd9, (hfr.tr fr10 (by decide))⟩, (by dsimp only; rw [ht]; exact ⟨hP, hD, hac9⟩)⟩, hS.F ht⟩) hS.2.2 d_Machine_makeTasks_61
      · have hx22 := hnx21 x22 rfl
        refine W.eq (g2 := F0 m 39 ls [.ref x22]) rfl ?_
        refine lv_astore_n (lv' := [(3, .ref x22), (0, .ref (ad 4)), (1, .ref tt)]) hx hb d_Machine_makeTasks_39 rfl hl (by decide) rfl (fun ls hl => ?_)
        refine lv_goto (tgt := 10) hx hb d_Machine_makeTasks_40 (by decide) ?_
        have hlk := (hmi.1.2.2.2.2.1 pp i1 p1 hpp hp1).2
        rw [y_sl_at hf21] at hlk
        have hlk : (C pp)[i1 + 1]? = some x22 := (y_rf_inj (a := some x22) (Option.some.inj hlk)).symm
        refine W.widen (k := (cq10 + cs10 - (cq + cs)) / 5) (n := 4 * (cq10 + cs10 - (cq + cs))) (by omega) (by omega) ?_
        exact ih (4 - (i1 + 1)) (by omega) (cq10 + cs10) H locs ls ⟨I10, T10, A10, O10, pl20, q10, s10, cq10, cs10, i1 + 1, x22, rfl, rfl, hlk, (hfr.tr fr10 (by decide)), hmi, (y_bd.mono (y_bd.tr hbd0 hbd10 (e := i1 + 1) (g := 0 + 0) (by omega) (by omega)) (c := i1 + 1) (d := 0) (by omega) (by omega)), hP, hD, hS, lv_sub hl [1, 2, 0] rfl⟩
set_option maxHeartbeats 4000000 in
set_option maxRecDepth 100000 in
theorem c_M_choose (l : Launch) (hst : l.stackTraces = false) (dC : Nat → ClassId) (dI : Nat → Nat → Nat) (ar : Nat → ClassId) (N0 : Nat) (z : Nat → Nat) (ad : Nat → Nat) (I : Nat → Int32) (T : Int64) (A : Nat → Nat → Int32) (O : Nat → Option Nat) (pl : va_W) (G : Nat → Nat) (C Gs : Nat → List Nat) (qn sn cq cs : Nat) (tt pp : Nat) (sz w0 : Nat) (hmi : y_MI z ar G C Gs I O (y_L pl) (qn, sn, cq, cs)) (htt : G tt = 8) (hpp : G pp = 7) (hlim : qn ≤ 20000000) : vx_Met l ({ cls := "ChannelMachine$Machine", name := "choose", desc := "(LChannelMachine$Task;LChannelMachine$Process;)V" } : Jvm.MethodName) ((Jvm.Cond.code ({ cls := "ChannelMachine$Machine", name := "choose", desc := "(LChannelMachine$Task;LChannelMachine$Process;)V" } : Jvm.MethodName) prog_6_method_24_code (4 : Nat) (Option.none : Option Jvm.ClassFile.FieldType)) :: x_T) ({ frames := 10, cells := y_gc qn cq + 1, slots := y_gs qn cq + 6, locals := 256 }) (y_Pc (dC, dI) ar N0 z (y_W ad ar I T A O pl) sz w0 [.ref (ad 4), .ref tt, .ref pp]) (va_Qv (fun (u : (Nat → Int32) × Int64 × (Nat → Nat → Int32) × (Nat → Option Nat) × va_W × (Nat × Nat × Nat × Nat)) => y_MI z ar G C Gs u.1 u.2.2.2.1 (y_L u.2.2.2.2.1) u.2.2.2.2.2 ∧ y_bd (qn, sn, cq, cs) u.2.2.2.2.2 1 0 ∧ m_fr [7, 8, 10, 11, 12, 13, 14, 15, 16, 17, 18, 19, 20, 21] I u.1) (fun u t => va_P (dC, dI) y_cl (y_W ad ar u.1 u.2.1 u.2.2.1 u.2.2.2.1 u.2.2.2.2.1) t.heap ∧ va_D (va_A (y_W ad ar I T A O pl) sz) (y_W ad ar u.1 u.2.1 u.2.2.1 u.2.2.2.1 u.2.2.2.2.1) ∧ y_ac (cq + cs) sz w0 (u.2.2.2.2.2.2.2.1 + u.2.2.2.2.2.2.2.2) t.heap) (va_A (y_W ad ar I T A O pl) sz)) (vx_X (fun (u : (Nat → Int32) × Int64 × (Nat → Nat → Int32) × (Nat → Option Nat) × va_W × (Nat × Nat × Nat × Nat)) => y_MI z ar G C Gs u.1 u.2.2.2.1 (y_L u.2.2.2.2.1) u.2.2.2.2.2 ∧ y_bd (qn, sn, cq, cs) u.2.2.2.2.2 1 0 ∧ m_fr [7, 8, 10, 11, 12, 13, 14, 15, 16, 17, 18, 19, 20, 21] I u.1 ∧ u.1 7 = 3) (fun E u t => va_P (dC, dI) y_cl (y_W ad ar u.1 u.2.1 u.2.2.1 u.2.2.2.1 u.2.2.2.2.1) t.heap ∧ va_D (va_A (y_W ad ar I T A O pl) sz) (y_W ad ar u.1 u.2.1 u.2.2.1 u.2.2.2.1 u.2.2.2.2.1) ∧ (E = "java/lang/IllegalStateException" ∨ E = "java/lang/ArithmeticException") ∧ y_ac (cq + cs) (sz + 1) (w0 + 6) (u.2.2.2.2.2.2.2.1 + u.2.2.2.2.2.2.2.2) t.heap) (va_A (y_W ad ar I T A O pl) sz)) (y_gc qn cq + 1) (y_gs qn cq + 6) (va_A (y_W ad ar I T A O pl) sz) := by
  refine vx_ofW (cc := prog_6_method_24_code) (maxL := 4) (ret := none) (by decide) rfl ?_
  intro p e s m args below meth c s₁ B hml htb hv
  obtain ⟨rfl, hsz, hN0, hP, hU, hZ, hD0, hw0⟩ := hv
  have hK := hU.2.1
  have hx := B.exec
  have hb := B.bytes
  have hr := B.returns
  have hts : ∀ w ∈ x_T, w.before ([.ref (ad 4), .ref tt, .ref pp] : List Value).toArray s = true := fun w h => atoms_spec (ws := (Jvm.Cond.code ({ cls := "ChannelMachine$Machine", name := "choose", desc := "(LChannelMachine$Task;LChannelMachine$Process;)V" } : Jvm.MethodName) prog_6_method_24_code (4 : Nat) (Option.none : Option Jvm.ClassFile.FieldType)) :: x_T) B.pre w (List.mem_cons_of_mem _ h)
  have hown : s.vm.findClass "ChannelMachine$Machine" = some m.cls := findClass_of_methodNamed B.named
  have hlocks := B.notSynchronized
  subst hsz
  subst hw0
  have hD := hD0.self (sz := s.heap.size)
  have hAN := x_AN hD0 hN0
  generalize hAe : va_A (y_W ad ar I T A O pl) s.heap.size = Bq at hD hAN ⊢
  have hA : ∀ q : Nat, s.heap.size ≤ q → Bq q := fun q h => by rw [← hAe]; exact Or.inr h
  have hS : va_S Bq s.heap s.heap [] := va_S.rf
  have hl := lv_entry ([.ref (ad 4), .ref tt, .ref pp]) (n := 4) (Nat.le_of_ble_eq_true rfl)
  rw [lg_entry_eq]
  generalize (lg_sl ([.ref (ad 4), .ref tt, .ref pp]) ++ List.replicate (4 - (lg_sl ([.ref (ad 4), .ref tt, .ref pp])).length) Slot.unset).toArray = ls at hl ⊢
  have hl : lv_has ls 4 [(0, .ref (ad 4)), (1, .ref tt), (2, .ref pp)] := hl
  have hle := y_LS.le hmi.2.1.2
  dsimp only at hle
  have hcap := hmi.2.2.2.2.1
  dsimp only at hcap
  have hgg := y_gg qn cq
  refine x_cutG (pc1 := 37) (rest1 := []) (k1 := 0) (n1 := 0) (fun H locs ls => ∃ (A1 : Nat → Nat → Int32) (pl1 : va_W), y_MI z ar G C Gs I O (y_L pl1) (qn, sn, cq, cs) ∧ va_P (dC, dI) y_cl (y_W ad ar I T A1 O pl1) H ∧ va_D Bq (y_W ad ar I T A1 O pl1) ∧ va_S Bq s.heap H locs ∧ lv_has ls 4 [(0, .ref (ad 4)), (1, .ref tt), (2, .ref pp)]) (fun H locs ls h9 => ?_) (fun tail => ?_)
  · clear hmi hP hD hS hl
    obtain ⟨A1, pl1, hmi, hP, hD, hS, hl⟩ := h9
    refine x_cutG (pc1 := 79) (rest1 := []) (k1 := 0) (n1 := 0) (fun H locs ls => y_nr Gs (y_L pl1) pp none ∧ va_P (dC, dI) y_cl (y_W ad ar I T A1 O pl1) H ∧ va_D Bq (y_W ad ar I T A1 O pl1) ∧ va_S Bq s.heap H locs ∧ lv_has ls 4 [(0, .ref (ad 4)), (1, .ref tt), (2, .ref pp)]) (fun H locs ls h9 => ?_) (fun tail => ?_)
    · clear hP hD hS hl
      obtain ⟨hnr, hP, hD, hS, hl⟩ := h9
      refine lv_aload_n hx hb d_Machine_choose_79 rfl (lv_at hl 2 rfl) ?_
      obtain ⟨j1, par1, nx1, tk1, co1, ch1, va1, hf1, hpk1⟩ := hmi.1.1 pp hpp
      have hpar1 := hpk1.2.1
      have hnx1 := hpk1.2.2.1
      obtain ⟨t1, rfl, ht1⟩ := hpk1.2.2.2.1
      refine d_gN (C := "ChannelMachine$Process") (F := F_Process) (N := 10) hx hb hts i_Process hown hK hP hf1 6 rfl (by decide) (hU.1.2.1 _ kn_412) (fun _ h9 => h9) (v := va_rf (Gs pp).head?) rfl d_Machine_choose_80 ?_
      rcases hhy3 : (Gs pp).head? with _ | y3
      · refine W.eq (g2 := F0 m 83 ls [.null]) rfl ?_
        refine lv_astore_nN (lv' := [(3, .null), (0, .ref (ad 4)), (1, .ref tt), (2, .ref pp)]) hx hb d_Machine_choose_83 rfl hl (by decide) rfl (fun ls hl => ?_)
        refine lv_aload_nN hx hb d_Machine_choose_84 rfl (lv_at hl 0 rfl) ?_
        refine lv_ifnullN (tgt := 120) hx hb d_Machine_choose_85 (by decide) ?_
        refine lv_aload_n hx hb d_Machine_choose_120 rfl (lv_at hl 1 rfl) ?_
        have hFc := y_free hD hS hA
        refine va_callv (va_runV (As := []) (rest := []) ⟨hx, hb, hml, hown, hts⟩ (c_M_pause l dC dI ar N0 z ad I T A1 O pl1 G C Gs qn sn cq cs H.size (y_hs H) hmi) (cwV 0 hts (x_goodV k_787 k_789 kp_30 k_3 k_790) rfl rfl rfl (by decide +kernel) ⟨Nat.le_of_ble_eq_true rfl, Nat.le_of_ble_eq_true rfl⟩) ⟨y_blind, va_recv hK hP (ci := 2) (q0 := 4) rfl (y_W_ob (by decide) (by decide)), fun U9 hU9 hW9 => y_pre hU9 hW9 hP hD hU hZ hS hAN hN0⟩ rfl rfl hl.1 rfl (lv_room (Nat.le_of_ble_eq_true rfl)) d_Machine_choose_121 ⟨(by show 0 + (0) ≤ y_gc qn cq + 1; omega), (by show 0 + (0) ≤ y_gs qn cq + 6; omega)⟩) hS (fun q _ h => hFc q h) hFc (fun u t H1 locs ht hvm hw hB hz1 hk1 hS => ?_)
        obtain ⟨I4, T4, A4, O4, pl4, q4, s4, cq4, cs4⟩ := u
        dsimp only at hw hB
        rw [ht] at hB
        obtain ⟨hP, hD1, hac4⟩ := hB
        have hD : va_D Bq (y_W ad ar I4 T4 A4 O4 pl4) := hD1.weaken (fun _ q _ h => hFc q.1 h)
        generalize H1 = H at hP hS hac4 ⊢
        have hae4 := hac4
        try unfold y_ac at hae4
        try dsimp only at hae4
        refine W.widen (k := 0) (n := 0) (by omega) (by omega) ?_
        obtain ⟨hmi, hbd4, fr4⟩ := hw
        have hb4 := hbd4
        unfold y_bd at hb4
        unfold y_ac at hac4
        dsimp only at hb4 hac4
        refine vx_ret ?_
        refine y_know (fun hy91 hy92 hy93 hy94 => ?_)
        have hac9 : y_ac (cq + cs) s.heap.size (y_hs s.heap) (cq4 + cs4) H := ⟨by omega, by omega⟩
        refine W.widen (k := y_gc qn cq + 1) (n := y_gs qn cq + 6) (by omega) (by omega) ?_
        exact W.vret hx hb hr (fun t ht hW => ⟨⟨(I4, T4, A4, O4, pl4, (q4, s4, cq4, cs4)), rfl, ⟨hmi, (y_bd.tr hbd4 (y_bd.rf (a := 0) (b := 0)) (e := 1) (g := 0) (by decide) (by decide)), (m_fr.rf.tr fr4 (by decide))⟩, (by dsimp only; rw [ht]; exact ⟨hP, hD, hac9⟩)⟩, hS.F ht⟩) hS.2.2 d_Machine_choose_124
      · have hgy3 : (Gs pp)[0]? = some y3 := by rw [← List.head?_eq_getElem?]; exact hhy3
        have hy3 : G y3 = 9 := (hmi.1.2.2.2.2.2 pp 0 y3 hpp hgy3).1
        refine W.eq (g2 := F0 m 83 ls [.ref y3]) rfl ?_
        refine lv_astore_n (lv' := [(3, .ref y3), (0, .ref (ad 4)), (1, .ref tt), (2, .ref pp)]) hx hb d_Machine_choose_83 rfl hl (by decide) rfl (fun ls hl => ?_)
        refine x_while (fun n H locs ls => ∃ (I1 : Nat → Int32) (O1 : Nat → Option Nat) (i1 g1 : Nat), n = (Gs pp).length - i1 ∧ (Gs pp)[i1]? = some g1 ∧ m_fr [7, 8, 10, 11, 12, 13, 14, 15, 16, 17, 18, 19, 20, 21] I I1 ∧ y_MI z ar G C Gs I1 O1 (y_L pl1) (qn, sn, cq, cs) ∧ va_P (dC, dI) y_cl (y_W ad ar I1 T A1 O1 pl1) H ∧ va_D Bq (y_W ad ar I1 T A1 O1 pl1) ∧ va_S Bq s.heap H locs ∧ lv_has ls 4 [(0, .ref (ad 4)), (1, .ref tt), (2, .ref pp), (3, .ref g1)]) (fun n ih H locs ls h9 => ?_) ⟨I, O, 0, y3, rfl, hgy3, m_fr.rf, hmi, hP, hD, hS, lv_sub hl [1, 2, 3, 0] rfl⟩
        clear hmi hP hD hS hl
        obtain ⟨I1, O1, i1, g1, hn9, hg1, hfr, hmi, hP, hD, hS, hl⟩ := h9
        have hi1 := (List.getElem?_eq_some_iff.mp hg1).1
        have hg19 : G g1 = 9 := (hmi.1.2.2.2.2.2 pp i1 g1 hpp hg1).1
        obtain ⟨co5, ch5, va5, fo5, nx5, op5, hf5, hgk5⟩ := hmi.1.2.2.1 g1 hg19
        have hco5 := hgk5.1
        obtain ⟨p5, rfl, hp5⟩ := hgk5.2.2
        have hnr1 := hnr i1 g1 (fun _ h9 => nomatch h9) hg1
        refine lv_aload_n hx hb d_Machine_choose_84 rfl (lv_at hl 3 rfl) ?_
        refine lv_ifnull hx hb d_Machine_choose_85 ?_
        refine lv_aload_n hx hb d_Machine_choose_88 rfl (lv_at hl 3 rfl) ?_
        refine d_gN (C := "ChannelMachine$Guard") (F := F_Guard) (N := 6) hx hb hts i_Guard hown hK hP hf5 5 rfl (by decide) (hU.1.2.1 _ kn_585) (fun _ h9 => h9) (v := .int op5) rfl d_Machine_choose_89 ?_
        refine lv_if_eq (tgt := 112) hx hb d_Machine_choose_92 (by decide) (fun c6 => ?_) (fun c6 => ?_)
        · refine lv_aload_n hx hb d_Machine_choose_112 rfl (lv_at hl 3 rfl) ?_
          refine d_gN (C := "ChannelMachine$Guard") (F := F_Guard) (N := 6) hx hb hts i_Guard hown hK hP hf5 4 rfl (by decide) (hU.1.2.1 _ kn_583) (fun _ h9 => h9) (v := va_rf nx5) rfl d_Machine_choose_113 ?_
          rcases nx5 with _ | y8
          · have hlky8 := (hmi.1.2.2.2.2.2 pp i1 g1 hpp hg1).2
            rw [y_sl_at hf5] at hlky8
            have hlky8 : (Gs pp)[i1 + 1]? = none := (y_rf_inj (a := none) (Option.some.inj hlky8)).symm
            refine W.eq (g2 := F0 m 116 ls [.null]) rfl ?_
            refine lv_astore_nN (lv' := [(3, .null), (0, .ref (ad 4)), (1, .ref tt), (2, .ref pp)]) hx hb d_Machine_choose_116 rfl hl (by decide) rfl (fun ls hl => ?_)
            refine lv_goto (tgt := 84) hx hb d_Machine_choose_117 (by decide) ?_
            refine lv_aload_nN hx hb d_Machine_choose_84 rfl (lv_at hl 0 rfl) ?_
            refine lv_ifnullN (tgt := 120) hx hb d_Machine_choose_85 (by decide) ?_
            refine lv_aload_n hx hb d_Machine_choose_120 rfl (lv_at hl 1 rfl) ?_
            have hFc := y_free hD hS hA
            refine va_callv (va_runV (As := []) (rest := []) ⟨hx, hb, hml, hown, hts⟩ (c_M_pause l dC dI ar N0 z ad I1 T A1 O1 pl1 G C Gs qn sn cq cs H.size (y_hs H) hmi) (cwV 0 hts (x_goodV k_787 k_789 kp_30 k_3 k_790) rfl rfl rfl (by decide +kernel) ⟨Nat.le_of_ble_eq_true rfl, Nat.le_of_ble_eq_true rfl⟩) ⟨y_blind, va_recv hK hP (ci := 2) (q0 := 4) rfl (y_W_ob (by decide) (by decide)), fun U9 hU9 hW9 => y_pre hU9 hW9 hP hD hU hZ hS hAN hN0⟩ rfl rfl hl.1 rfl (lv_room (Nat.le_of_ble_eq_true rfl)) d_Machine_choose_121 ⟨(by show 0 + (0) ≤ y_gc qn cq + 1; omega), (by show 0 + (0) ≤ y_gs qn cq + 6; omega)⟩) hS (fun q _ h => hFc q h) hFc (fun u t H1 locs ht hvm hw hB hz1 hk1 hS => ?_)
            obtain ⟨I9, T9, A9, O9, pl9, q9, s9, cq9, cs9⟩ := u
            dsimp only at hw hB
            rw [ht] at hB
            obtain ⟨hP, hD1, hac9⟩ := hB
            have hD : va_D Bq (y_W ad ar I9 T9 A9 O9 pl9) := hD1.weaken (fun _ q _ h => hFc q.1 h)
            generalize H1 = H at hP hS hac9 ⊢
            have hae9 := hac9
            try unfold y_ac at hae9
            try dsimp only at hae9
            refine W.widen (k := 0) (n := 0) (by omega) (by omega) ?_
            obtain ⟨hmi, hbd9, fr9⟩ := hw
            have hb9 := hbd9
            unfold y_bd at hb9
            unfold y_ac at hac9
            dsimp only at hb9 hac9
            refine vx_ret ?_
            refine y_know (fun hy91 hy92 hy93 hy94 => ?_)
            have hac9 : y_ac (cq + cs) s.heap.size (y_hs s.heap) (cq9 + cs9) H := ⟨by omega, by omega⟩
            refine W.widen (k := y_gc qn cq + 1) (n := y_gs qn cq + 6) (by omega) (by omega) ?_
            exact W.vret hx hb hr (fun t ht hW => ⟨⟨(I9, T9, A9, O9, pl9, (q9, s9, cq9, cs9)), rfl, ⟨hmi, (y_bd.tr hbd9 (y_bd.rf (a := 0) (b := 0)) (e := 1) (g := 0) (by decide) (by decide)), (hfr.tr fr9 (by decide))⟩, (by dsimp only; rw [ht]; exact ⟨hP, hD, hac9⟩)⟩, hS.F ht⟩) hS.2.2 d_Machine_choose_124
          · have hlky8 := (hmi.1.2.2.2.2.2 pp i1 g1 hpp hg1).2
            rw [y_sl_at hf5] at hlky8
            have hlky8 : (Gs pp)[i1 + 1]? = some y8 := (y_rf_inj (a := some y8) (Option.some.inj hlky8)).symm
            have hy8 : G y8 = 9 := (hmi.1.2.2.2.2.2 pp (i1 + 1) y8 hpp hlky8).1
            refine W.eq (g2 := F0 m 116 ls [.ref y8]) rfl ?_
            refine lv_astore_n (lv' := [(3, .ref y8), (0, .ref (ad 4)), (1, .ref tt), (2, .ref pp)]) hx hb d_Machine_choose_116 rfl hl (by decide) rfl (fun ls hl => ?_)
            refine lv_goto (tgt := 84) hx hb d_Machine_choose_117 (by decide) ?_
            exact ih ((Gs pp).length - (i1 + 1)) (by omega) H locs ls ⟨I1, O1, i1 + 1, y8, rfl, hlky8, hfr, hmi, hP, hD, hS, lv_sub hl [1, 2, 3, 0] rfl⟩
        · rcases hnr1 with h9 | ⟨c9, hc9, hfc9⟩
          · rw [y_sl_at hf5] at h9; exact absurd (Value.int.inj (Option.some.inj h9)) c6
          have hfx9 : (Int32.ofNat c9) = ch5 := by rw [y_sl_at hf5] at hfc9; exact (Value.int.inj (Option.some.inj hfc9)).symm
          subst hfx9
          refine lv_aload_n hx hb d_Machine_choose_95 rfl (lv_at hl 0 rfl) ?_
          refine lv_aload_n hx hb d_Machine_choose_96 rfl (lv_at hl 1 rfl) ?_
          refine lv_aload_n hx hb d_Machine_choose_97 rfl (lv_at hl 3 rfl) ?_
          refine d_gN (C := "ChannelMachine$Guard") (F := F_Guard) (N := 6) hx hb hts i_Guard hown hK hP hf5 1 rfl (by decide) (hU.1.2.1 _ kn_574) (fun _ h9 => h9) (v := .int (Int32.ofNat c9)) rfl d_Machine_choose_98 ?_
          refine lv_aload_n hx hb d_Machine_choose_101 rfl (lv_at hl 3 rfl) ?_
          refine d_gN (C := "ChannelMachine$Guard") (F := F_Guard) (N := 6) hx hb hts i_Guard hown hK hP hf5 2 rfl (by decide) (hU.1.2.1 _ kn_577) (fun _ h9 => h9) (v := .int va5) rfl d_Machine_choose_102 ?_
          refine lv_aload_n hx hb d_Machine_choose_105 rfl (lv_at hl 3 rfl) ?_
          refine d_gN (C := "ChannelMachine$Guard") (F := F_Guard) (N := 6) hx hb hts i_Guard hown hK hP hf5 3 rfl (by decide) (hU.1.2.1 _ kn_580) (fun _ h9 => h9) (v := .ref p5) rfl d_Machine_choose_106 ?_
          refine y_know (fun hya1 hya2 hya3 hya4 => ?_)
          have hFc := y_free hD hS hA
          refine vx_callv (vx_runV (As := [.ref tt, .int (Int32.ofNat c9), .int va5, .ref p5]) (rest := []) ⟨hx, hb, hml, hown, hts⟩ (c_M_awaitS l hst dC dI ar N0 z ad I1 T A1 O1 pl1 G C Gs qn sn cq cs tt c9 (va5) p5 H.size (y_hs H) hmi htt (by omega) hp5) (cwV 4 hts (x_goodV k_867 k_869 kp_42 k_3 k_870) rfl rfl rfl (by decide +kernel) ⟨Nat.le_of_ble_eq_true rfl, Nat.le_of_ble_eq_true rfl⟩) ⟨y_blind, va_recv hK hP (ci := 2) (q0 := 4) rfl (y_W_ob (by decide) (by decide)), fun U9 hU9 hW9 => y_pre hU9 hW9 hP hD hU hZ hS hAN hN0⟩ rfl rfl hl.1 rfl (lv_room (Nat.le_of_ble_eq_true rfl)) d_Machine_choose_109 ⟨(by show 0 + (1) ≤ y_gc qn cq + 1; omega), (by show 0 + (6) ≤ y_gs qn cq + 6; omega)⟩) hS (fun q _ h => hFc q h) hFc (fun q h1 h2 => hFc q h2) (fun E ce q9 u t H1 locs ht hvm hpx hbx hz1 hk1 hS hce hcv hcl => ?_) (fun u t H1 locs ht hvm hw hB hz1 hk1 hS => ?_)
          · obtain ⟨I10, T10, A10, O10, pl10, q10, s10, cq10, cs10⟩ := u
            dsimp only at hpx hbx
            rw [ht] at hbx
            obtain ⟨hP, hD1, hac10⟩ := hbx
            have hD : va_D Bq (y_W ad ar I10 T10 A10 O10 pl10) := hD1.weaken (fun _ q _ h => hFc q.1 h)
            generalize H1 = H at hP hS hac10 hce ⊢
            obtain ⟨hE, hac10⟩ := hac10
            obtain ⟨hmi, hbd10, fr10, h73⟩ := hpx
            have hb10 := hbd10
            unfold y_bd at hb10
            dsimp only at hb10
            unfold y_ac at hac10
            try dsimp only at hac10
            refine y_knowx (fun hy91 hy92 hy93 hy94 => ?_)
            have hac9 : y_ac (cq + cs) (s.heap.size + 1) (y_hs s.heap + 6) (cq10 + cs10) H := ⟨by omega, by omega⟩
            exact vx_out (fun x hx9 => (htb x hx9).elim) hlocks hce hcv hcl (fun t ht hvm => ⟨(I10, T10, A10, O10, pl10, (q10, s10, cq10, cs10)), ⟨hmi, (y_bd.tr hbd10 (y_bd.rf (a := 0) (b := 0)) (e := 1) (g := 0) (by decide) (by decide)), (hfr.tr fr10 (by decide)), h73⟩, (by dsimp only; rw [ht]; exact ⟨hP, hD, hE, hac9⟩), hS.F ht⟩) hS.2.2 (by show 0 + (1) ≤ y_gc qn cq + 1; omega) (by show 0 + (6) ≤ y_gs qn cq + 6; omega)
          · obtain ⟨I11, T11, A11, O11, pl11, q11, s11, cq11, cs11⟩ := u
            dsimp only at hw hB
            rw [ht] at hB
            obtain ⟨hP, hD1, hac11⟩ := hB
            have hD : va_D Bq (y_W ad ar I11 T11 A11 O11 pl11) := hD1.weaken (fun _ q _ h => hFc q.1 h)
            generalize H1 = H at hP hS hac11 ⊢
            have hae11 := hac11
            try unfold y_ac at hae11
            try dsimp only at hae11
            obtain ⟨e2, e3, e4, e5, hmi, fr11⟩ := hw
            cases e5
            rw [e2, e3, e4] at hP hD
            rw [e4] at hmi
            unfold y_ac at hac11
            try dsimp only at hac11
            refine y_tight (k := 0) (n := 0) (by omega) (by omega) ?_
            have hP : va_P (dC, dI) y_cl (y_W ad ar I11 T A1 O11 pl1) H := hP
            have hD : va_D Bq (y_W ad ar I11 T A1 O11 pl1) := hD
            have hmi : y_MI z ar G C Gs I11 O11 (y_L pl1) (qn, sn, cq, cs) := hmi
            refine lv_aload_n hx hb d_Machine_choose_112 rfl (lv_at hl 3 rfl) ?_
            refine d_gN (C := "ChannelMachine$Guard") (F := F_Guard) (N := 6) hx hb hts i_Guard hown hK hP hf5 4 rfl (by decide) (hU.1.2.1 _ kn_583) (fun _ h9 => h9) (v := va_rf nx5) rfl d_Machine_choose_113 ?_
            rcases nx5 with _ | y13
            · have hlky13 := (hmi.1.2.2.2.2.2 pp i1 g1 hpp hg1).2
              rw [y_sl_at hf5] at hlky13
              have hlky13 : (Gs pp)[i1 + 1]? = none := (y_rf_inj (a := none) (Option.some.inj hlky13)).symm
              refine W.eq (g2 := F0 m 116 ls [.null]) rfl ?_
              refine lv_astore_nN (lv' := [(3, .null), (0, .ref (ad 4)), (1, .ref tt), (2, .ref pp)]) hx hb d_Machine_choose_116 rfl hl (by decide) rfl (fun ls hl => ?_)
              refine lv_goto (tgt := 84) hx hb d_Machine_choose_117 (by decide) ?_
              refine lv_aload_nN hx hb d_Machine_choose_84 rfl (lv_at hl 0 rfl) ?_
              refine lv_ifnullN (tgt := 120) hx hb d_Machine_choose_85 (by decide) ?_
              refine lv_aload_n hx hb d_Machine_choose_120 rfl (lv_at hl 1 rfl) ?_
              have hFc := y_free hD hS hA
              refine va_callv (va_runV (As := []) (rest := []) ⟨hx, hb, hml, hown, hts⟩ (c_M_pause l dC dI ar N0 z ad I11 T A1 O11 pl1 G C Gs qn sn cq cs H.size (y_hs H) hmi) (cwV 0 hts (x_goodV k_787 k_789 kp_30 k_3 k_790) rfl rfl rfl (by decide +kernel) ⟨Nat.le_of_ble_eq_true rfl, Nat.le_of_ble_eq_true rfl⟩) ⟨y_blind, va_recv hK hP (ci := 2) (q0 := 4) rfl (y_W_ob (by decide) (by decide)), fun U9 hU9 hW9 => y_pre hU9 hW9 hP hD hU hZ hS hAN hN0⟩ rfl rfl hl.1 rfl (lv_room (Nat.le_of_ble_eq_true rfl)) d_Machine_choose_121 ⟨(by show 0 + (0) ≤ y_gc qn cq + 1; omega), (by show 0 + (0) ≤ y_gs qn cq + 6; omega)⟩) hS (fun q _ h => hFc q h) hFc (fun u t H1 locs ht hvm hw hB hz1 hk1 hS => ?_)
              obtain ⟨I14, T14, A14, O14, pl14, q14, s14, cq14, cs14⟩ := u
              dsimp only at hw hB
              rw [ht] at hB
              obtain ⟨hP, hD1, hac14⟩ := hB
              have hD : va_D Bq (y_W ad ar I14 T14 A14 O14 pl14) := hD1.weaken (fun _ q _ h => hFc q.1 h)
              generalize H1 = H at hP hS hac14 ⊢
              have hae14 := hac14
              try unfold y_ac at hae14
              try dsimp only at hae14
              refine W.widen (k := 0) (n := 0) (by omega) (by omega) ?_
              obtain ⟨hmi, hbd14, fr14⟩ := hw
              have hb14 := hbd14
              unfold y_bd at hb14
              unfold y_ac at hac14
              dsimp only at hb14 hac14
              refine vx_ret ?_
              refine y_know (fun hy91 hy92 hy93 hy94 => ?_)
              have hac9 : y_ac (cq + cs) s.heap.size (y_hs s.heap) (cq14 + cs14) H := ⟨by omega, by omega⟩
              refine W.widen (k := y_gc qn cq + 1) (n := y_gs qn cq + 6) (by omega) (by omega) ?_
              exact W.vret hx hb hr (fun t ht hW => ⟨⟨(I14, T14, A14, O14, pl14, (q14, s14, cq14, cs14)), rfl, ⟨hmi, (y_bd.tr hbd14 (y_bd.rf (a := 0) (b := 0)) (e := 1) (g := 0) (by decide) (by decide)), ((hfr.tr fr11 (by decide)).tr fr14 (by decide))⟩, (by dsimp only; rw [ht]; exact ⟨hP, hD, hac9⟩)⟩, hS.F ht⟩) hS.2.2 d_Machine_choose_124
            · have hlky13 := (hmi.1.2.2.2.2.2 pp i1 g1 hpp hg1).2
              rw [y_sl_at hf5] at hlky13
              have hlky13 : (Gs pp)[i1 + 1]? = some y13 := (y_rf_inj (a := some y13) (Option.some.inj hlky13)).symm
              have hy13 : G y13 = 9 := (hmi.1.2.2.2.2.2 pp (i1 + 1) y13 hpp hlky13).1
              refine W.eq (g2 := F0 m 116 ls [.ref y13]) rfl ?_
              refine lv_astore_n (lv' := [(3, .ref y13), (0, .ref (ad 4)), (1, .ref tt), (2, .ref pp)]) hx hb d_Machine_choose_116 rfl hl (by decide) rfl (fun ls hl => ?_)
              refine lv_goto (tgt := 84) hx hb d_Machine_choose_117 (by decide) ?_
              exact ih ((Gs pp).length - (i1 + 1)) (by omega) H locs ls ⟨I11, O11, i1 + 1, y13, rfl, hlky13, (hfr.tr fr11 (by decide)), hmi, hP, hD, hS, lv_sub hl [1, 2, 3, 0] rfl⟩
    · refine lv_aload_n hx hb d_Machine_choose_37 rfl (lv_at hl 2 rfl) ?_
      obtain ⟨j15, par15, nx15, tk15, co15, ch15, va15, hf15, hpk15⟩ := hmi.1.1 pp hpp
      have hpar15 := hpk15.2.1
      have hnx15 := hpk15.2.2.1
      obtain ⟨t15, rfl, ht15⟩ := hpk15.2.2.2.1
      refine d_gN (C := "ChannelMachine$Process") (F := F_Process) (N := 10) hx hb hts i_Process hown hK hP hf15 6 rfl (by decide) (hU.1.2.1 _ kn_412) (fun _ h9 => h9) (v := va_rf (Gs pp).head?) rfl d_Machine_choose_38 ?_
      rcases hhy17 : (Gs pp).head? with _ | y17
      · refine W.eq (g2 := F0 m 41 ls [.null]) rfl ?_
        refine lv_astore_nN (lv' := [(3, .null), (0, .ref (ad 4)), (1, .ref tt), (2, .ref pp)]) hx hb d_Machine_choose_41 rfl hl (by decide) rfl (fun ls hl => ?_)
        refine lv_aload_nN hx hb d_Machine_choose_42 rfl (lv_at hl 0 rfl) ?_
        refine lv_ifnullN (tgt := 79) hx hb d_Machine_choose_43 (by decide) ?_
        exact tail H locs ls ⟨y_nr.no hhy17, hP, hD, hS, lv_sub hl [1, 2, 3] rfl⟩
      · have hgy17 : (Gs pp)[0]? = some y17 := by rw [← List.head?_eq_getElem?]; exact hhy17
        have hy17 : G y17 = 9 := (hmi.1.2.2.2.2.2 pp 0 y17 hpp hgy17).1
        refine W.eq (g2 := F0 m 41 ls [.ref y17]) rfl ?_
        refine lv_astore_n (lv' := [(3, .ref y17), (0, .ref (ad 4)), (1, .ref tt), (2, .ref pp)]) hx hb d_Machine_choose_41 rfl hl (by decide) rfl (fun ls hl => ?_)
        refine x_while (fun n H locs ls => ∃ i1 g1 : Nat, n = (Gs pp).length - i1 ∧ (Gs pp)[i1]? = some g1 ∧ y_nr Gs (y_L pl1) pp (some i1) ∧ va_P (dC, dI) y_cl (y_W ad ar I T A1 O pl1) H ∧ va_D Bq (y_W ad ar I T A1 O pl1) ∧ va_S Bq s.heap H locs ∧ lv_has ls 4 [(0, .ref (ad 4)), (1, .ref tt), (2, .ref pp), (3, .ref g1)]) (fun n ih H locs ls h9 => ?_) ⟨0, y17, rfl, hgy17, y_nr.zero, hP, hD, hS, lv_sub hl [1, 2, 3, 0] rfl⟩
        clear hP hD hS hl
        obtain ⟨i1, g1, hn9, hg1, hnr0, hP, hD, hS, hl⟩ := h9
        have hi1 := (List.getElem?_eq_some_iff.mp hg1).1
        have hg19 : G g1 = 9 := (hmi.1.2.2.2.2.2 pp i1 g1 hpp hg1).1
        refine lv_aload_n hx hb d_Machine_choose_42 rfl (lv_at hl 3 rfl) ?_
        refine lv_ifnull hx hb d_Machine_choose_43 ?_
        refine lv_aload_n hx hb d_Machine_choose_46 rfl (lv_at hl 3 rfl) ?_
        obtain ⟨co18, ch18, va18, fo18, nx18, op18, hf18, hgk18⟩ := hmi.1.2.2.1 g1 hg19
        have hco18 := hgk18.1
        obtain ⟨p18, rfl, hp18⟩ := hgk18.2.2
        refine d_gN (C := "ChannelMachine$Guard") (F := F_Guard) (N := 6) hx hb hts i_Guard hown hK hP hf18 5 rfl (by decide) (hU.1.2.1 _ kn_585) (fun _ h9 => h9) (v := .int op18) rfl d_Machine_choose_47 ?_
        refine lv_if_eq (tgt := 71) hx hb d_Machine_choose_50 (by decide) (fun c19 => ?_) (fun c19 => ?_)
        · have hnr1 := hnr0.up hg1 (Or.inl (by rw [y_sl_at hf18, c19]; rfl))
          refine lv_aload_n hx hb d_Machine_choose_71 rfl (lv_at hl 3 rfl) ?_
          refine d_gN (C := "ChannelMachine$Guard") (F := F_Guard) (N := 6) hx hb hts i_Guard hown hK hP hf18 4 rfl (by decide) (hU.1.2.1 _ kn_583) (fun _ h9 => h9) (v := va_rf nx18) rfl d_Machine_choose_72 ?_
          rcases nx18 with _ | y21
          · have hlky21 := (hmi.1.2.2.2.2.2 pp i1 g1 hpp hg1).2
            rw [y_sl_at hf18] at hlky21
            have hlky21 : (Gs pp)[i1 + 1]? = none := (y_rf_inj (a := none) (Option.some.inj hlky21)).symm
            refine W.eq (g2 := F0 m 75 ls [.null]) rfl ?_
            refine lv_astore_nN (lv' := [(3, .null), (0, .ref (ad 4)), (1, .ref tt), (2, .ref pp)]) hx hb d_Machine_choose_75 rfl hl (by decide) rfl (fun ls hl => ?_)
            refine lv_goto (tgt := 42) hx hb d_Machine_choose_76 (by decide) ?_
            refine lv_aload_nN hx hb d_Machine_choose_42 rfl (lv_at hl 0 rfl) ?_
            refine lv_ifnullN (tgt := 79) hx hb d_Machine_choose_43 (by decide) ?_
            exact tail H locs ls ⟨hnr1.all hlky21, hP, hD, hS, lv_sub hl [1, 2, 3] rfl⟩
          · have hlky21 := (hmi.1.2.2.2.2.2 pp i1 g1 hpp hg1).2
            rw [y_sl_at hf18] at hlky21
            have hlky21 : (Gs pp)[i1 + 1]? = some y21 := (y_rf_inj (a := some y21) (Option.some.inj hlky21)).symm
            have hy21 : G y21 = 9 := (hmi.1.2.2.2.2.2 pp (i1 + 1) y21 hpp hlky21).1
            refine W.eq (g2 := F0 m 75 ls [.ref y21]) rfl ?_
            refine lv_astore_n (lv' := [(3, .ref y21), (0, .ref (ad 4)), (1, .ref tt), (2, .ref pp)]) hx hb d_Machine_choose_75 rfl hl (by decide) rfl (fun ls hl => ?_)
            refine lv_goto (tgt := 42) hx hb d_Machine_choose_76 (by decide) ?_
            exact ih ((Gs pp).length - (i1 + 1)) (by omega) H locs ls ⟨i1 + 1, y21, rfl, hlky21, hnr1, hP, hD, hS, lv_sub hl [1, 2, 3, 0] rfl⟩
        · refine lv_aload_n hx hb d_Machine_choose_53 rfl (lv_at hl 0 rfl) ?_
          refine lv_aload_n hx hb d_Machine_choose_54 rfl (lv_at hl 3 rfl) ?_
          refine d_gN (C := "ChannelMachine$Guard") (F := F_Guard) (N := 6) hx hb hts i_Guard hown hK hP hf18 1 rfl (by decide) (hU.1.2.1 _ kn_574) (fun _ h9 => h9) (v := .int ch18) rfl d_Machine_choose_55 ?_
          have hFc := y_free hD hS hA
          refine va_calli (va_runV (As := [.int ch18]) (rest := []) ⟨hx, hb, hml, hown, hts⟩ (c_M_isReady l dC dI ar N0 z ad I T A1 O pl1 G C Gs qn sn cq cs (ch18) H.size (y_hs H) hmi hgk18.2.1) (cwV 1 hts (x_goodV k_854 k_856 kp_40 k_3 k_857) rfl rfl rfl (by decide +kernel) ⟨Nat.le_of_ble_eq_true rfl, Nat.le_of_ble_eq_true rfl⟩) ⟨y_blind, va_recv hK hP (ci := 2) (q0 := 4) rfl (y_W_ob (by decide) (by decide)), fun U9 hU9 hW9 => y_pre hU9 hW9 hP hD hU hZ hS hAN hN0⟩ rfl rfl hl.1 rfl (lv_room (Nat.le_of_ble_eq_true rfl)) d_Machine_choose_58 ⟨(by show 0 + (0) ≤ y_gc qn cq + 1; omega), (by show 0 + (0) ≤ y_gs qn cq + 6; omega)⟩) hS (fun q _ h => hFc q h) hFc (fun r_22 u t H1 locs ht hvm hw hB hz1 hk1 hS => ?_)
          obtain ⟨I23, T23, A23, O23, pl23, q23, s23, cq23, cs23⟩ := u
          dsimp only at hw hB
          rw [ht] at hB
          obtain ⟨hP, hD1, hac23⟩ := hB
          have hD : va_D Bq (y_W ad ar I23 T23 A23 O23 pl23) := hD1.weaken (fun _ q _ h => hFc q.1 h)
          generalize H1 = H at hP hS hac23 ⊢
          have hae23 := hac23
          try unfold y_ac at hae23
          try dsimp only at hae23
          refine W.widen (k := 0) (n := 0) (by omega) (by omega) ?_
          obtain ⟨h9, hw⟩ := hw
          cases h9
          rcases hw with rfl | ⟨rfl, hnr⟩
          · refine lv_if_eq (tgt := 71) hx hb d_Machine_choose_61 (by decide) (fun c24 => absurd c24 (by decide)) (fun _ => ?_)
            refine lv_aload_n hx hb d_Machine_choose_64 rfl (lv_at hl 0 rfl) ?_
            refine lv_aload_n hx hb d_Machine_choose_65 rfl (lv_at hl 1 rfl) ?_
            refine lv_aload_n hx hb d_Machine_choose_66 rfl (lv_at hl 3 rfl) ?_
            have hgg25 := y_gg qn cq
            refine y_know (fun hya1 hya2 hya3 hya4 => ?_)
            have hFc := y_free hD hS hA
            refine va_callv (va_runV (As := [.ref tt, .ref g1]) (rest := []) ⟨hx, hb, hml, hown, hts⟩ (c_M_pass l dC dI ar N0 z ad I T A1 O pl1 G C Gs qn sn cq cs tt g1 H.size (y_hs H) hmi htt hg19 (by omega)) (cwV 2 hts (x_goodV k_875 k_877 kp_44 k_3 k_878) rfl rfl rfl (by decide +kernel) ⟨Nat.le_of_ble_eq_true rfl, Nat.le_of_ble_eq_true rfl⟩) ⟨y_blind, va_recv hK hP (ci := 2) (q0 := 4) rfl (y_W_ob (by decide) (by decide)), fun U9 hU9 hW9 => y_pre hU9 hW9 hP hD hU hZ hS hAN hN0⟩ rfl rfl hl.1 rfl (lv_room (Nat.le_of_ble_eq_true rfl)) d_Machine_choose_67 ⟨(by show 0 + (y_gc qn cq) ≤ y_gc qn cq + 1; omega), (by show 0 + (y_gs qn cq) ≤ y_gs qn cq + 6; omega)⟩) hS (fun q _ h => hFc q h) hFc (fun u t H1 locs ht hvm hw hB hz1 hk1 hS => ?_)
            obtain ⟨I26, T26, A26, O26, pl26, q26, s26, cq26, cs26⟩ := u
            dsimp only at hw hB
            rw [ht] at hB
            obtain ⟨hP, hD1, hac26⟩ := hB
            have hD : va_D Bq (y_W ad ar I26 T26 A26 O26 pl26) := hD1.weaken (fun _ q _ h => hFc q.1 h)
            generalize H1 = H at hP hS hac26 ⊢
            have hae26 := hac26
            try unfold y_ac at hae26
            try dsimp only at hae26
            obtain ⟨hmi, hbd26, fr26⟩ := hw
            unfold y_ac at hac26
            have hb26 := hbd26
            unfold y_bd at hb26
            dsimp only at hb26 hac26
            refine vx_ret ?_
            refine y_know (fun hy91 hy92 hy93 hy94 => ?_)
            have hac9 : y_ac (cq + cs) s.heap.size (y_hs s.heap) (cq26 + cs26) H := ⟨by omega, by omega⟩
            refine W.widen (k := y_gc qn cq + 1) (n := y_gs qn cq + 6) (by omega) (by omega) ?_
            exact W.vret hx hb hr (fun t ht hW => ⟨⟨(I26, T26, A26, O26, pl26, (q26, s26, cq26, cs26)), rfl, ⟨hmi, (y_bd.tr hbd26 (y_bd.rf (a := 0) (b := 0)) (e := 1) (g := 0) (by decide) (by decide)), (m_fr.rf.tr fr26 (by decide))⟩, (by dsimp only; rw [ht]; exact ⟨hP, hD, hac9⟩)⟩, hS.F ht⟩) hS.2.2 d_Machine_choose_70
          · refine lv_if_eq (tgt := 71) hx hb d_Machine_choose_61 (by decide) (fun _ => ?_) (fun c27 => absurd (by decide) c27)
            have hnr1 := hnr0.up hg1 (y_nr.ch (Gs := Gs) hf18 hgk18 hnr)
            refine lv_aload_n hx hb d_Machine_choose_71 rfl (lv_at hl 3 rfl) ?_
            refine d_gN (C := "ChannelMachine$Guard") (F := F_Guard) (N := 6) hx hb hts i_Guard hown hK hP hf18 4 rfl (by decide) (hU.1.2.1 _ kn_583) (fun _ h9 => h9) (v := va_rf nx18) rfl d_Machine_choose_72 ?_
            rcases nx18 with _ | y29
            · have hlky29 := (hmi.1.2.2.2.2.2 pp i1 g1 hpp hg1).2
              rw [y_sl_at hf18] at hlky29
              have hlky29 : (Gs pp)[i1 + 1]? = none := (y_rf_inj (a := none) (Option.some.inj hlky29)).symm
              refine W.eq (g2 := F0 m 75 ls [.null]) rfl ?_
              refine lv_astore_nN (lv' := [(3, .null), (0, .ref (ad 4)), (1, .ref tt), (2, .ref pp)]) hx hb d_Machine_choose_75 rfl hl (by decide) rfl (fun ls hl => ?_)
              refine lv_goto (tgt := 42) hx hb d_Machine_choose_76 (by decide) ?_
              refine lv_aload_nN hx hb d_Machine_choose_42 rfl (lv_at hl 0 rfl) ?_
              refine lv_ifnullN (tgt := 79) hx hb d_Machine_choose_43 (by decide) ?_
              exact tail H locs ls ⟨hnr1.all hlky29, hP, hD, hS, lv_sub hl [1, 2, 3] rfl⟩
            · have hlky29 := (hmi.1.2.2.2.2.2 pp i1 g1 hpp hg1).2
              rw [y_sl_at hf18] at hlky29
              have hlky29 : (Gs pp)[i1 + 1]? = some y29 := (y_rf_inj (a := some y29) (Option.some.inj hlky29)).symm
              have hy29 : G y29 = 9 := (hmi.1.2.2.2.2.2 pp (i1 + 1) y29 hpp hlky29).1
              refine W.eq (g2 := F0 m 75 ls [.ref y29]) rfl ?_
              refine lv_astore_n (lv' := [(3, .ref y29), (0, .ref (ad 4)), (1, .ref tt), (2, .ref pp)]) hx hb d_Machine_choose_75 rfl hl (by decide) rfl (fun ls hl => ?_)
              refine lv_goto (tgt := 42) hx hb d_Machine_choose_76 (by decide) ?_
              exact ih ((Gs pp).length - (i1 + 1)) (by omega) H locs ls ⟨i1 + 1, y29, rfl, hlky29, hnr1, hP, hD, hS, lv_sub hl [1, 2, 3, 0] rfl⟩
  · refine lv_aload_n hx hb d_Machine_choose_0 rfl (lv_at hl 2 rfl) ?_
    obtain ⟨j30, par30, nx30, tk30, co30, ch30, va30, hf30, hpk30⟩ := hmi.1.1 pp hpp
    have hpar30 := hpk30.2.1
    have hnx30 := hpk30.2.2.1
    obtain ⟨t30, rfl, ht30⟩ := hpk30.2.2.2.1
    refine d_gN (C := "ChannelMachine$Process") (F := F_Process) (N := 10) hx hb hts i_Process hown hK hP hf30 6 rfl (by decide) (hU.1.2.1 _ kn_412) (fun _ h9 => h9) (v := va_rf (Gs pp).head?) rfl d_Machine_choose_1 ?_
    rcases hhy32 : (Gs pp).head? with _ | y32
    · refine W.eq (g2 := F0 m 4 ls [.null]) rfl ?_
      refine lv_astore_nN (lv' := [(3, .null), (0, .ref (ad 4)), (1, .ref tt), (2, .ref pp)]) hx hb d_Machine_choose_4 rfl hl (by decide) rfl (fun ls hl => ?_)
      refine lv_aload_nN hx hb d_Machine_choose_5 rfl (lv_at hl 0 rfl) ?_
      refine lv_ifnullN (tgt := 37) hx hb d_Machine_choose_6 (by decide) ?_
      exact tail _ _ ls ⟨A, pl, hmi, hP, hD, hS, lv_sub hl [1, 2, 3] rfl⟩
    · have hgy32 : (Gs pp)[0]? = some y32 := by rw [← List.head?_eq_getElem?]; exact hhy32
      have hy32 : G y32 = 9 := (hmi.1.2.2.2.2.2 pp 0 y32 hpp hgy32).1
      refine W.eq (g2 := F0 m 4 ls [.ref y32]) rfl ?_
      refine lv_astore_n (lv' := [(3, .ref y32), (0, .ref (ad 4)), (1, .ref tt), (2, .ref pp)]) hx hb d_Machine_choose_4 rfl hl (by decide) rfl (fun ls hl => ?_)
      refine x_while (fun n H locs ls => ∃ (A1 : Nat → Nat → Int32) (pl1 : va_W) (i1 g1 : Nat), n = (Gs pp).length - i1 ∧ (Gs pp)[i1]? = some g1 ∧ y_MI z ar G C Gs I O (y_L pl1) (qn, sn, cq, cs) ∧ va_P (dC, dI) y_cl (y_W ad ar I T A1 O pl1) H ∧ va_D Bq (y_W ad ar I T A1 O pl1) ∧ va_S Bq s.heap H locs ∧ lv_has ls 4 [(0, .ref (ad 4)), (1, .ref tt), (2, .ref pp), (3, .ref g1)]) (fun n ih H locs ls h9 => ?_) ⟨A, pl, 0, y32, rfl, hgy32, hmi, hP, hD, hS, lv_sub hl [1, 2, 3, 0] rfl⟩
      clear hmi hP hD hS hl
      obtain ⟨A1, pl1, i1, g1, hn9, hg1, hmi, hP, hD, hS, hl⟩ := h9
      have hi1 := (List.getElem?_eq_some_iff.mp hg1).1
      have hg19 : G g1 = 9 := (hmi.1.2.2.2.2.2 pp i1 g1 hpp hg1).1
      refine lv_aload_n hx hb d_Machine_choose_5 rfl (lv_at hl 3 rfl) ?_
      refine lv_ifnull hx hb d_Machine_choose_6 ?_
      refine lv_aload_n hx hb d_Machine_choose_9 rfl (lv_at hl 3 rfl) ?_
      refine lv_aload_n hx hb d_Machine_choose_10 rfl (lv_at hl 0 rfl) ?_
      refine lv_aload_n hx hb d_Machine_choose_11 rfl (lv_at hl 3 rfl) ?_
      obtain ⟨co33, ch33, va33, fo33, nx33, op33, hf33, hgk33⟩ := hmi.1.2.2.1 g1 hg19
      have hco33 := hgk33.1
      obtain ⟨p33, rfl, hp33⟩ := hgk33.2.2
      refine d_gN (C := "ChannelMachine$Guard") (F := F_Guard) (N := 6) hx hb hts i_Guard hown hK hP hf33 0 rfl (by decide) (hU.1.2.1 _ kn_571) (fun _ h9 => h9) (v := .ref co33) rfl d_Machine_choose_12 ?_
      refine y_know (fun hya1 hya2 hya3 hya4 => ?_)
      have hFc := y_free hD hS hA
      refine vx_calli (vx_runV (As := [.ref co33]) (rest := [.ref g1]) ⟨hx, hb, hml, hown, hts⟩ (c_M_evaluate l hst dC dI ar N0 z ad I T A1 O pl1 G C Gs qn sn cq cs co33 H.size (y_hs H) hmi hco33) (cwV 1 hts (x_goodV k_791 k_793 kp_31 k_3 k_794) rfl rfl rfl (by decide +kernel) ⟨Nat.le_of_ble_eq_true rfl, Nat.le_of_ble_eq_true rfl⟩) ⟨y_blind, va_recv hK hP (ci := 2) (q0 := 4) rfl (y_W_ob (by decide) (by decide)), fun U9 hU9 hW9 => y_pre hU9 hW9 hP hD hU hZ hS hAN hN0⟩ rfl rfl hl.1 rfl (lv_room (Nat.le_of_ble_eq_true rfl)) d_Machine_choose_15 ⟨(by show 0 + (1) ≤ y_gc qn cq + 1; omega), (by show 0 + (6) ≤ y_gs qn cq + 6; omega)⟩) hS (fun q _ h => hFc q h) hFc (fun q h1 h2 => hFc q h2) (fun E ce q9 u t H1 locs ht hvm hpx hbx hz1 hk1 hS hce hcv hcl => ?_) (fun r_34 u t H1 locs ht hvm hw hB hz1 hk1 hS => ?_)
      · obtain ⟨I35, T35, A35, O35, pl35, q35, s35, cq35, cs35⟩ := u
        dsimp only at hpx hbx
        rw [ht] at hbx
        obtain ⟨hP, hD1, hac35⟩ := hbx
        have hD : va_D Bq (y_W ad ar I35 T35 A35 O35 pl35) := hD1.weaken (fun _ q _ h => hFc q.1 h)
        generalize H1 = H at hP hS hac35 hce ⊢
        obtain ⟨hE, hac35⟩ := hac35
        obtain ⟨hmi, hbd35, fr35, h73⟩ := hpx
        have hb35 := hbd35
        unfold y_bd at hb35
        dsimp only at hb35
        unfold y_ac at hac35
        try dsimp only at hac35
        refine y_knowx (fun hy91 hy92 hy93 hy94 => ?_)
        have hac9 : y_ac (cq + cs) (s.heap.size + 1) (y_hs s.heap + 6) (cq35 + cs35) H := ⟨by omega, by omega⟩
        exact vx_out (fun x hx9 => (htb x hx9).elim) hlocks hce hcv hcl (fun t ht hvm => ⟨(I35, T35, A35, O35, pl35, (q35, s35, cq35, cs35)), ⟨hmi, (y_bd.tr hbd35 (y_bd.rf (a := 0) (b := 0)) (e := 1) (g := 0) (by decide) (by decide)), (m_fr.rf.tr fr35 (by decide)), h73⟩, (by dsimp only; rw [ht]; exact ⟨hP, hD, hE, hac9⟩), hS.F ht⟩) hS.2.2 (by show 0 + (1) ≤ y_gc qn cq + 1; omega) (by show 0 + (6) ≤ y_gs qn cq + 6; omega)
      · obtain ⟨I36, T36, A36, O36, pl36, q36, s36, cq36, cs36⟩ := u
        dsimp only at hw hB
        rw [ht] at hB
        obtain ⟨hP, hD1, hac36⟩ := hB
        have hD : va_D Bq (y_W ad ar I36 T36 A36 O36 pl36) := hD1.weaken (fun _ q _ h => hFc q.1 h)
        generalize H1 = H at hP hS hac36 ⊢
        have hae36 := hac36
        try unfold y_ac at hae36
        try dsimp only at hae36
        obtain ⟨e1, e2, e3, e4, e5⟩ := hw
        cases e5
        rw [e1, e2, e3, e4] at hP hD
        unfold y_ac at hac36
        try dsimp only at hac36
        refine y_tight (k := 0) (n := 0) (by omega) (by omega) ?_
        refine lv_if_eq (tgt := 25) hx hb d_Machine_choose_18 (by decide) (fun c37 => ?_) (fun c37 => ?_)
        · refine lv_iconst (v := 0) hx hb d_Machine_choose_25 (by decide) ?_
          refine d_pN (C := "ChannelMachine$Guard") (F := F_Guard) (N := 6) hx hb hts i_Guard hown t_Guard t_Guard_ok n_Guard hK hP hD hS hf33 5 rfl (by decide) (hU.1.2.1 _ kn_585) (fun _ h9 => h9) rfl (ty := .boolean) (v := .int 0) (by decide +kernel) rfl rfl (Nat.le_of_ble_eq_true rfl) d_Machine_choose_26 (fun pl38 H locs hL hP hD hS => ?_)
          have hmi := y_MI.guard hmi (op' := 0) hg19 hf33
          have hmi : y_MI z ar G C Gs I O (y_L pl38) (qn, sn, cq, cs) := by rw [hL]; exact hmi
          clear hL
          refine lv_aload_n hx hb d_Machine_choose_29 rfl (lv_at hl 3 rfl) ?_
          obtain ⟨co39, ch39, va39, fo39, nx39, op39, hf39, hgk39⟩ := hmi.1.2.2.1 g1 hg19
          have hco39 := hgk39.1
          obtain ⟨p39, rfl, hp39⟩ := hgk39.2.2
          refine d_gN (C := "ChannelMachine$Guard") (F := F_Guard) (N := 6) hx hb hts i_Guard hown hK hP hf39 4 rfl (by decide) (hU.1.2.1 _ kn_583) (fun _ h9 => h9) (v := va_rf nx39) rfl d_Machine_choose_30 ?_
          rcases nx39 with _ | y41
          · have hlky41 := (hmi.1.2.2.2.2.2 pp i1 g1 hpp hg1).2
            rw [y_sl_at hf39] at hlky41
            have hlky41 : (Gs pp)[i1 + 1]? = none := (y_rf_inj (a := none) (Option.some.inj hlky41)).symm
            refine W.eq (g2 := F0 m 33 ls [.null]) rfl ?_
            refine lv_astore_nN (lv' := [(3, .null), (0, .ref (ad 4)), (1, .ref tt), (2, .ref pp)]) hx hb d_Machine_choose_33 rfl hl (by decide) rfl (fun ls hl => ?_)
            refine lv_goto (tgt := 5) hx hb d_Machine_choose_34 (by decide) ?_
            refine lv_aload_nN hx hb d_Machine_choose_5 rfl (lv_at hl 0 rfl) ?_
            refine lv_ifnullN (tgt := 37) hx hb d_Machine_choose_6 (by decide) ?_
            exact tail H locs ls ⟨A36, pl38, hmi, hP, hD, hS, lv_sub hl [1, 2, 3] rfl⟩
          · have hlky41 := (hmi.1.2.2.2.2.2 pp i1 g1 hpp hg1).2
            rw [y_sl_at hf39] at hlky41
            have hlky41 : (Gs pp)[i1 + 1]? = some y41 := (y_rf_inj (a := some y41) (Option.some.inj hlky41)).symm
            have hy41 : G y41 = 9 := (hmi.1.2.2.2.2.2 pp (i1 + 1) y41 hpp hlky41).1
            refine W.eq (g2 := F0 m 33 ls [.ref y41]) rfl ?_
            refine lv_astore_n (lv' := [(3, .ref y41), (0, .ref (ad 4)), (1, .ref tt), (2, .ref pp)]) hx hb d_Machine_choose_33 rfl hl (by decide) rfl (fun ls hl => ?_)
            refine lv_goto (tgt := 5) hx hb d_Machine_choose_34 (by decide) ?_
            exact ih ((Gs pp).length - (i1 + 1)) (by omega) H locs ls ⟨A36, pl38, i1 + 1, y41, rfl, hlky41, hmi, hP, hD, hS, lv_sub hl [1, 2, 3, 0] rfl⟩
        · refine lv_iconst (v := 1) hx hb d_Machine_choose_21 (by decide) ?_
          refine lv_goto (tgt := 26) hx hb d_Machine_choose_22 (by decide) ?_
          refine d_pN (C := "ChannelMachine$Guard") (F := F_Guard) (N := 6) hx hb hts i_Guard hown t_Guard t_Guard_ok n_Guard hK hP hD hS hf33 5 rfl (by decide) (hU.1.2.1 _ kn_585) (fun _ h9 => h9) rfl (ty := .boolean) (v := .int 1) (by decide +kernel) rfl rfl (Nat.le_of_ble_eq_true rfl) d_Machine_choose_26 (fun pl42 H locs hL hP hD hS => ?_)
          have hmi := y_MI.guard hmi (op' := 1) hg19 hf33
          have hmi : y_MI z ar G C Gs I O (y_L pl42) (qn, sn, cq, cs) := by rw [hL]; exact hmi
          clear hL
          refine lv_aload_n hx hb d_Machine_choose_29 rfl (lv_at hl 3 rfl) ?_
          obtain ⟨co43, ch43, va43, fo43, nx43, op43, hf43, hgk43⟩ := hmi.1.2.2.1 g1 hg19
          have hco43 := hgk43.1
          obtain ⟨p43, rfl, hp43⟩ := hgk43.2.2
          refine d_gN (C := "ChannelMachine$Guard") (F := F_Guard) (N := 6) hx hb hts i_Guard hown hK hP hf43 4 rfl (by decide) (hU.1.2.1 _ kn_583) (fun _ h9 => h9) (v := va_rf nx43) rfl d_Machine_choose_30 ?_
          rcases nx43 with _ | y45
          · have hlky45 := (hmi.1.2.2.2.2.2 pp i1 g1 hpp hg1).2
            rw [y_sl_at hf43] at hlky45
            have hlky45 : (Gs pp)[i1 + 1]? = none := (y_rf_inj (a := none) (Option.some.inj hlky45)).symm
            refine W.eq (g2 := F0 m 33 ls [.null]) rfl ?_
            refine lv_astore_nN (lv' := [(3, .null), (0, .ref (ad 4)), (1, .ref tt), (2, .ref pp)]) hx hb d_Machine_choose_33 rfl hl (by decide) rfl (fun ls hl => ?_)
            refine lv_goto (tgt := 5) hx hb d_Machine_choose_34 (by decide) ?_
            refine lv_aload_nN hx hb d_Machine_choose_5 rfl (lv_at hl 0 rfl) ?_
            refine lv_ifnullN (tgt := 37) hx hb d_Machine_choose_6 (by decide) ?_
            exact tail H locs ls ⟨A36, pl42, hmi, hP, hD, hS, lv_sub hl [1, 2, 3] rfl⟩
          · have hlky45 := (hmi.1.2.2.2.2.2 pp i1 g1 hpp hg1).2
            rw [y_sl_at hf43] at hlky45
            have hlky45 : (Gs pp)[i1 + 1]? = some y45 := (y_rf_inj (a := some y45) (Option.some.inj hlky45)).symm
            have hy45 : G y45 = 9 := (hmi.1.2.2.2.2.2 pp (i1 + 1) y45 hpp hlky45).1
            refine W.eq (g2 := F0 m 33 ls [.ref y45]) rfl ?_
            refine lv_astore_n (lv' := [(3, .ref y45), (0, .ref (ad 4)), (1, .ref tt), (2, .ref pp)]) hx hb d_Machine_choose_33 rfl hl (by decide) rfl (fun ls hl => ?_)
            refine lv_goto (tgt := 5) hx hb d_Machine_choose_34 (by decide) ?_
            exact ih ((Gs pp).length - (i1 + 1)) (by omega) H locs ls ⟨A36, pl42, i1 + 1, y45, rfl, hlky45, hmi, hP, hD, hS, lv_sub hl [1, 2, 3, 0] rfl⟩
