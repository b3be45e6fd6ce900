-- ===== 24.law =====
/-! THE LAW of p1, from its entry, by program; the rows before and behind whole_start are the skeleton's, with the launch's own flag handed through -/
/-! THE CLAIM OUT OF ONE WALK OF THE LAW'S BODY. Your part is whole_start (and what it stands on); all else here is the same for every law, but numbers. -/
def R_law : String := "ChannelMachineLaw"
def lw_P (b : Addr) (xs : List Int32) (args : Array Value) (s : State) : Prop := args = #[.ref b] ∧ s.IntsAt b xs ∧ xs.length ≤ 3 ∧ (Jvm.Cond.and given_1 narrow_1).before args s = true
def lw_Q (_ : Array Value) (s : State) (o : Outcome) (t : State) : Prop := o = .returned (some (.int 1)) ∧ Framed s o t [] 600002 7302232
def lw_Z (below : List Frame) (a : Array Value) (s : State) : State → Prop := fun t => ∃ o, t.status = .running ∧ Ended t below o ∧ lw_Q a s o t
/-- the law's own end, with 1 on the stack, nothing written that was there before, its room as the claim has it -/
theorem lw_ret {p : Program} {l : Launch} {e : Env} {s : State} {m : MethodId} {below : List Frame} {meth : Method} {c : Code} {b : Nat} (hx : p.tables.exec = Jvm.exec) (hb : c.code = code) (hr : meth.sig.returnType = ret) (hlocks : meth.locks = false) {pc : Nat} {H : Heap} {ls : Array Slot} (hdg : decode code pc = .ok (.ireturn, 1)) : W p l e room_1 s m #[Value.ref b] below meth c H [] 600002 7302232 (lw_Z below #[Value.ref b] s) (F0 m pc ls [.int 1]) := by
  intro T hT X
  obtain ⟨fs, hret, hrun, hended, hW, hframe⟩ := X.leave (v := some (.int 1)) (hlocks := hlocks) (fun h => by rw [hr] at h; cases h)
  have hmeth' : T.vm.method? m = some meth := X.method'
  refine ⟨T.setFrames fs, ?_, .returned (some (.int 1)), hrun, hended, rfl, ⟨_, rfl⟩, hW, hframe⟩
  jvm_step X.here [X.here.top, hx, hb, hdg, hmeth', hr, ret, narrow_b1]
  (try refine ⟨rfl, ?_⟩); (try refine ⟨rfl, ?_⟩)
  first | (intro acts; rw [hret _ acts rfl rfl rfl]) | rw [hret _ _ rfl rfl rfl]
  exact Steps.refl _
/-- what holds at the law's entry: the machine, the code, the tables' words (any of lw_tbl by 'hts w (by decide +kernel)'), the script of L ints xs at the cell b, what the Statement gives of the start (any of its parts by flat_of_before) -/
def lw_At (p : Program) (s : State) (m : MethodId) (meth : Method) (c : Code) (b L : Nat) (xs : Nat → Int32) : Prop :=
  p.tables.exec = Jvm.exec ∧ c.code = code ∧ meth.sig.returnType = ret ∧ c.maxLocals = 7 ∧ s.vm.findClass R_law = some m.cls ∧ (∀ w ∈ lw_tbl, w.before #[Value.ref b] s = true) ∧ va_X b L xs s s.heap ∧ b < s.heap.size ∧ meth.locks = false ∧ (Jvm.Cond.and given_1 narrow_1).before #[Value.ref b] s = true
set_option maxHeartbeats 4000000 in
set_option maxRecDepth 100000 in
theorem whole_start {p : Program} {e : Env} {s : State} {m : MethodId} {below : List Frame} {meth : Method} {c : Code} (l : Launch) (hst : l.stackTraces = false) {b L : Nat} {xs : Nat → Int32} (hL : L ≤ 3) (C0 : lw_At p s m meth c b L xs) : W p l e room_1 s m #[Value.ref b] below meth c s.heap [] 0 0 (lw_Z below #[Value.ref b] s) (entryFrame m ([Value.ref b] : List Value).toArray 7) := by
  obtain ⟨hx, hb, hr, hml, hown, hts0, hX, hbl, hlocks, hgv⟩ := C0
  have hown : s.vm.findClass "ChannelMachineLaw" = some m.cls := hown
  have hts : ∀ w ∈ x_T, w.before #[Value.ref b] s = true := fun w h => hts0 w (x_T_in w h)
  obtain ⟨dC, dI, ar, z, hU, hZ⟩ := x_start (fun w h => hts0 w (List.mem_append_right _ h)) hts hgv
  obtain ⟨N0, hNe⟩ : ∃ N0 : Nat, N0 = s.heap.size := ⟨_, rfl⟩
  rw [← hNe] at hZ
  obtain ⟨A, hAe⟩ : ∃ A : Nat → Prop, A = fun q => N0 ≤ q := ⟨_, rfl⟩
  have hN0 : N0 ≤ s.heap.size := Nat.le_of_eq hNe
  have hA : ∀ q : Nat, s.heap.size ≤ q → A q := fun q h => by rw [hAe]; exact Nat.le_trans hN0 h
  have hAN : ∀ q, A q → N0 ≤ q := fun q h => by rw [hAe] at h; exact h
  have hbA : ¬ A b := fun h => by have := hAN b h; omega
  have hK := hU.1
  have hS : va_S A s.heap s.heap [] := va_S.rf
  have hP : va_P (dC, dI) x_cl [] s.heap := fun k q h => by simp at h
  have hD : va_D A [] := ⟨fun i j p q h => by simp at h, fun k q h => by simp at h⟩
  have hl := lv_entry ([.ref b]) (n := 7) (Nat.le_of_ble_eq_true rfl)
  rw [lg_entry_eq]
  generalize (lg_sl ([.ref b]) ++ List.replicate (7 - (lg_sl ([.ref b])).length) Slot.unset).toArray = ls at hl ⊢
  have hl : lv_has ls 7 [(0, .ref b)] := hl
  refine va_new (ci := 5) (fs := [.null, .null, .int 0]) (C := "ChannelMachine") (T := F_CM) (N := 3) hx hb hts i_CM t_CM t_CM_ok hown (hts _ k_29) (hts _ k_30) (hts _ k_1) hK hP hD hS hA rfl (fun j hj => by rcases (show j = 0 ∨ j = 1 ∨ j = 2 by omega) with rfl | rfl | rfl <;> rfl) (Nat.le_of_ble_eq_true rfl) (Nat.le_of_ble_eq_true rfl) d_La_law_0 (fun q1 H hP hD hS => ?_)
  have hP : va_P (dC, dI) x_cl [(q1, .inr (5, [.null, .null, .int 0]))] H := hP
  have hD : va_D A [(q1, .inr (5, [.null, .null, .int 0]))] := hD
  refine W.widen (k := 1) (n := 3) (Nat.le_of_ble_eq_true rfl) (Nat.le_of_ble_eq_true rfl) ?_
  refine lv_dup hx hb d_La_law_3 rfl ?_
  have hPc := hP.sub (ws' := [(q1, .inr (5, [.null, .null, .int 0]))]) [0] rfl
  have hDc := hD.sub (ws' := [(q1, .inr (5, [.null, .null, .int 0]))]) [0] (by decide) rfl
  have hFc := va_free (wc := [(q1, .inr (5, [.null, .null, .int 0]))]) hD hS hA [0] rfl
  refine va_callv (va_runI (As := []) (rest := [.ref q1]) ⟨hx, hb, hml, hown, hts⟩ (c_CM_init l dC dI ar N0 z q1 H.size) (cwI 0 hts (x_good k_33) rfl rfl rfl (hts _ k_1) (hts _ k_31) (hts _ k_32) rfl (by decide +kernel) ⟨Nat.le_of_ble_eq_true rfl, Nat.le_of_ble_eq_true rfl⟩) ⟨x_blind, fun U hU9 hW => x_pre hU9 hW hPc hDc hU hZ hS hAN hN0⟩ rfl rfl hl.1 rfl (lv_room (Nat.le_of_ble_eq_true rfl)) d_La_law_4 ⟨Nat.le_of_ble_eq_true rfl, Nat.le_of_ble_eq_true rfl⟩) hS (fun q _ h => hFc q h) hFc (fun u t H1 locs ht hvm hw hB hz1 hk1 hS => ?_)
  obtain ⟨q2, q3, q4, q5, q6, q7, q8, q9, q10, q11, q12, q13, q14, q15, q16, q17, q18, q19, q20, hP1, hD1⟩ := hB
  rw [ht] at hP1
  obtain ⟨hP, hD⟩ := va_join (wr := []) (w1 := [(q1, .inr (5, [.ref q2, .ref q5, .int (-1)])), (q2, .inr (3, [.ref q3, .ref q4, .int 0, .int 0, .int 0, .int 0, .int 0, .int 0, .null])), (q3, .inl (ar 1, 72, .inl (fun _ => 0))), (q4, .inl (ar 0, 72, .inl (fun _ => 0))), (q5, .inr (2, [.ref q6, .ref q7, .ref q8, .ref q10, .ref q12, .ref q13, .ref q14, .int 0, .int 0, .int 0, .long 0])), (q6, .inl (ar 0, 6, .inl (fun _ => 0))), (q7, .inl (ar 4, 6, .inr (.inr (.inr (.inr (va_up (va_up (va_up (va_up (va_up (va_up (fun _ => none) (Int32.toNatClampNeg 0) (some q15)) (Int32.toNatClampNeg 1) (some q16)) (Int32.toNatClampNeg 2) (some q17)) (Int32.toNatClampNeg 3) (some q18)) (Int32.toNatClampNeg 4) (some q19)) (Int32.toNatClampNeg 5) (some q20))))))), (q8, .inr (4, [.ref q9, .int 0])), (q9, .inl (ar 0, 8, .inl (fun _ => 0))), (q10, .inr (4, [.ref q11, .int 0])), (q11, .inl (ar 0, 8, .inl (fun _ => 0))), (q12, .inr (0, [.ref (z 0), .int 0, .int 0])), (q13, .inr (0, [.ref (z 0), .int 0, .int 0])), (q14, .inl (ar 0, 72, .inl (fun _ => 0))), (q15, .inr (1, [.null, .null, .int (-1), .null])), (q16, .inr (1, [.null, .null, .int (-1), .null])), (q17, .inr (1, [.null, .null, .int (-1), .null])), (q18, .inr (1, [.null, .null, .int (-1), .null])), (q19, .inr (1, [.null, .null, .int (-1), .null])), (q20, .inr (1, [.null, .null, .int (-1), .null]))]) hP hD [0] [] rfl rfl (by decide) (by decide) hk1 hFc hP1 hD1
  generalize H1 = H at hP hS ⊢
  have hP : va_P (dC, dI) x_cl [(q1, .inr (5, [.ref q2, .ref q5, .int (-1)])), (q2, .inr (3, [.ref q3, .ref q4, .int 0, .int 0, .int 0, .int 0, .int 0, .int 0, .null])), (q3, .inl (ar 1, 72, .inl (fun _ => 0))), (q4, .inl (ar 0, 72, .inl (fun _ => 0))), (q5, .inr (2, [.ref q6, .ref q7, .ref q8, .ref q10, .ref q12, .ref q13, .ref q14, .int 0, .int 0, .int 0, .long 0])), (q6, .inl (ar 0, 6, .inl (fun _ => 0))), (q7, .inl (ar 4, 6, .inr (.inr (.inr (.inr (va_up (va_up (va_up (va_up (va_up (va_up (fun _ => none) (Int32.toNatClampNeg 0) (some q15)) (Int32.toNatClampNeg 1) (some q16)) (Int32.toNatClampNeg 2) (some q17)) (Int32.toNatClampNeg 3) (some q18)) (Int32.toNatClampNeg 4) (some q19)) (Int32.toNatClampNeg 5) (some q20))))))), (q8, .inr (4, [.ref q9, .int 0])), (q9, .inl (ar 0, 8, .inl (fun _ => 0))), (q10, .inr (4, [.ref q11, .int 0])), (q11, .inl (ar 0, 8, .inl (fun _ => 0))), (q12, .inr (0, [.ref (z 0), .int 0, .int 0])), (q13, .inr (0, [.ref (z 0), .int 0, .int 0])), (q14, .inl (ar 0, 72, .inl (fun _ => 0))), (q15, .inr (1, [.null, .null, .int (-1), .null])), (q16, .inr (1, [.null, .null, .int (-1), .null])), (q17, .inr (1, [.null, .null, .int (-1), .null])), (q18, .inr (1, [.null, .null, .int (-1), .null])), (q19, .inr (1, [.null, .null, .int (-1), .null])), (q20, .inr (1, [.null, .null, .int (-1), .null]))] H := hP
  have hD : va_D A [(q1, .inr (5, [.ref q2, .ref q5, .int (-1)])), (q2, .inr (3, [.ref q3, .ref q4, .int 0, .int 0, .int 0, .int 0, .int 0, .int 0, .null])), (q3, .inl (ar 1, 72, .inl (fun _ => 0))), (q4, .inl (ar 0, 72, .inl (fun _ => 0))), (q5, .inr (2, [.ref q6, .ref q7, .ref q8, .ref q10, .ref q12, .ref q13, .ref q14, .int 0, .int 0, .int 0, .long 0])), (q6, .inl (ar 0, 6, .inl (fun _ => 0))), (q7, .inl (ar 4, 6, .inr (.inr (.inr (.inr (va_up (va_up (va_up (va_up (va_up (va_up (fun _ => none) (Int32.toNatClampNeg 0) (some q15)) (Int32.toNatClampNeg 1) (some q16)) (Int32.toNatClampNeg 2) (some q17)) (Int32.toNatClampNeg 3) (some q18)) (Int32.toNatClampNeg 4) (some q19)) (Int32.toNatClampNeg 5) (some q20))))))), (q8, .inr (4, [.ref q9, .int 0])), (q9, .inl (ar 0, 8, .inl (fun _ => 0))), (q10, .inr (4, [.ref q11, .int 0])), (q11, .inl (ar 0, 8, .inl (fun _ => 0))), (q12, .inr (0, [.ref (z 0), .int 0, .int 0])), (q13, .inr (0, [.ref (z 0), .int 0, .int 0])), (q14, .inl (ar 0, 72, .inl (fun _ => 0))), (q15, .inr (1, [.null, .null, .int (-1), .null])), (q16, .inr (1, [.null, .null, .int (-1), .null])), (q17, .inr (1, [.null, .null, .int (-1), .null])), (q18, .inr (1, [.null, .null, .int (-1), .null])), (q19, .inr (1, [.null, .null, .int (-1), .null])), (q20, .inr (1, [.null, .null, .int (-1), .null]))] := hD
  refine W.widen (k := 20) (n := 301) (Nat.le_of_ble_eq_true rfl) (Nat.le_of_ble_eq_true rfl) ?_
  refine lv_astore_n (lv' := [(1, .ref q1), (0, .ref b)]) hx hb d_La_law_7 rfl hl (by decide) rfl (fun ls hl => ?_)
  refine va_new (ci := 6) (fs := [.null, .null, .null, .null, .int 0, .int 0, .int 0, .int 0, .int 0, .int 0, .int 0, .null, .null, .null, .null, .null, .null, .null, .int 0, .null, .null, .null, .null, .null, .null, .null, .null, .null, .null, .int 0, .int 0, .int 0, .int 0, .int 0, .long 0, .null, .null, .null, .null, .null, .null, .null, .int 0, .int 0, .int 0]) (C := "ChannelMachineModel") (T := F_Mo) (N := 45) hx hb hts i_Mo t_Mo t_Mo_ok hown (hts _ k_961) (hts _ k_962) (hts _ k_9) hK hP hD hS hA rfl (fun j hj => by rcases (show j = 0 ∨ j = 1 ∨ j = 2 ∨ j = 3 ∨ j = 4 ∨ j = 5 ∨ j = 6 ∨ j = 7 ∨ j = 8 ∨ j = 9 ∨ j = 10 ∨ j = 11 ∨ j = 12 ∨ j = 13 ∨ j = 14 ∨ j = 15 ∨ j = 16 ∨ j = 17 ∨ j = 18 ∨ j = 19 ∨ j = 20 ∨ j = 21 ∨ j = 22 ∨ j = 23 ∨ j = 24 ∨ j = 25 ∨ j = 26 ∨ j = 27 ∨ j = 28 ∨ j = 29 ∨ j = 30 ∨ j = 31 ∨ j = 32 ∨ j = 33 ∨ j = 34 ∨ j = 35 ∨ j = 36 ∨ j = 37 ∨ j = 38 ∨ j = 39 ∨ j = 40 ∨ j = 41 ∨ j = 42 ∨ j = 43 ∨ j = 44 by omega) with rfl | rfl | rfl | rfl | rfl | rfl | rfl | rfl | rfl | rfl | rfl | rfl | rfl | rfl | rfl | rfl | rfl | rfl | rfl | rfl | rfl | rfl | rfl | rfl | rfl | rfl | rfl | rfl | rfl | rfl | rfl | rfl | rfl | rfl | rfl | rfl | rfl | rfl | rfl | rfl | rfl | rfl | rfl | rfl | rfl <;> rfl) (Nat.le_of_ble_eq_true rfl) (Nat.le_of_ble_eq_true rfl) d_La_law_8 (fun q21 H hP hD hS => ?_)
  have hP : va_P (dC, dI) x_cl [(q1, .inr (5, [.ref q2, .ref q5, .int (-1)])), (q2, .inr (3, [.ref q3, .ref q4, .int 0, .int 0, .int 0, .int 0, .int 0, .int 0, .null])), (q3, .inl (ar 1, 72, .inl (fun _ => 0))), (q4, .inl (ar 0, 72, .inl (fun _ => 0))), (q5, .inr (2, [.ref q6, .ref q7, .ref q8, .ref q10, .ref q12, .ref q13, .ref q14, .int 0, .int 0, .int 0, .long 0])), (q6, .inl (ar 0, 6, .inl (fun _ => 0))), (q7, .inl (ar 4, 6, .inr (.inr (.inr (.inr (va_up (va_up (va_up (va_up (va_up (va_up (fun _ => none) (Int32.toNatClampNeg 0) (some q15)) (Int32.toNatClampNeg 1) (some q16)) (Int32.toNatClampNeg 2) (some q17)) (Int32.toNatClampNeg 3) (some q18)) (Int32.toNatClampNeg 4) (some q19)) (Int32.toNatClampNeg 5) (some q20))))))), (q8, .inr (4, [.ref q9, .int 0])), (q9, .inl (ar 0, 8, .inl (fun _ => 0))), (q10, .inr (4, [.ref q11, .int 0])), (q11, .inl (ar 0, 8, .inl (fun _ => 0))), (q12, .inr (0, [.ref (z 0), .int 0, .int 0])), (q13, .inr (0, [.ref (z 0), .int 0, .int 0])), (q14, .inl (ar 0, 72, .inl (fun _ => 0))), (q15, .inr (1, [.null, .null, .int (-1), .null])), (q16, .inr (1, [.null, .null, .int (-1), .null])), (q17, .inr (1, [.null, .null, .int (-1), .null])), (q18, .inr (1, [.null, .null, .int (-1), .null])), (q19, .inr (1, [.null, .null, .int (-1), .null])), (q20, .inr (1, [.null, .null, .int (-1), .null])), (q21, .inr (6, [.null, .null, .null, .null, .int 0, .int 0, .int 0, .int 0, .int 0, .int 0, .int 0, .null, .null, .null, .null, .null, .null, .null, .int 0, .null, .null, .null, .null, .null, .null, .null, .null, .null, .null, .int 0, .int 0, .int 0, .int 0, .int 0, .long 0, .null, .null, .null, .null, .null, .null, .null, .int 0, .int 0, .int 0]))] H := hP
  have hD : va_D A [(q1, .inr (5, [.ref q2, .ref q5, .int (-1)])), (q2, .inr (3, [.ref q3, .ref q4, .int 0, .int 0, .int 0, .int 0, .int 0, .int 0, .null])), (q3, .inl (ar 1, 72, .inl (fun _ => 0))), (q4, .inl (ar 0, 72, .inl (fun _ => 0))), (q5, .inr (2, [.ref q6, .ref q7, .ref q8, .ref q10, .ref q12, .ref q13, .ref q14, .int 0, .int 0, .int 0, .long 0])), (q6, .inl (ar 0, 6, .inl (fun _ => 0))), (q7, .inl (ar 4, 6, .inr (.inr (.inr (.inr (va_up (va_up (va_up (va_up (va_up (va_up (fun _ => none) (Int32.toNatClampNeg 0) (some q15)) (Int32.toNatClampNeg 1) (some q16)) (Int32.toNatClampNeg 2) (some q17)) (Int32.toNatClampNeg 3) (some q18)) (Int32.toNatClampNeg 4) (some q19)) (Int32.toNatClampNeg 5) (some q20))))))), (q8, .inr (4, [.ref q9, .int 0])), (q9, .inl (ar 0, 8, .inl (fun _ => 0))), (q10, .inr (4, [.ref q11, .int 0])), (q11, .inl (ar 0, 8, .inl (fun _ => 0))), (q12, .inr (0, [.ref (z 0), .int 0, .int 0])), (q13, .inr (0, [.ref (z 0), .int 0, .int 0])), (q14, .inl (ar 0, 72, .inl (fun _ => 0))), (q15, .inr (1, [.null, .null, .int (-1), .null])), (q16, .inr (1, [.null, .null, .int (-1), .null])), (q17, .inr (1, [.null, .null, .int (-1), .null])), (q18, .inr (1, [.null, .null, .int (-1), .null])), (q19, .inr (1, [.null, .null, .int (-1), .null])), (q20, .inr (1, [.null, .null, .int (-1), .null])), (q21, .inr (6, [.null, .null, .null, .null, .int 0, .int 0, .int 0, .int 0, .int 0, .int 0, .int 0, .null, .null, .null, .null, .null, .null, .null, .int 0, .null, .null, .null, .null, .null, .null, .null, .null, .null, .null, .int 0, .int 0, .int 0, .int 0, .int 0, .long 0, .null, .null, .null, .null, .null, .null, .null, .int 0, .int 0, .int 0]))] := hD
  refine W.widen (k := 21) (n := 346) (Nat.le_of_ble_eq_true rfl) (Nat.le_of_ble_eq_true rfl) ?_
  refine lv_dup hx hb d_La_law_11 rfl ?_
  have hPc := hP.sub (ws' := [(q21, .inr (6, [.null, .null, .null, .null, .int 0, .int 0, .int 0, .int 0, .int 0, .int 0, .int 0, .null, .null, .null, .null, .null, .null, .null, .int 0, .null, .null, .null, .null, .null, .null, .null, .null, .null, .null, .int 0, .int 0, .int 0, .int 0, .int 0, .long 0, .null, .null, .null, .null, .null, .null, .null, .int 0, .int 0, .int 0]))]) [20] rfl
  have hDc := hD.sub (ws' := [(q21, .inr (6, [.null, .null, .null, .null, .int 0, .int 0, .int 0, .int 0, .int 0, .int 0, .int 0, .null, .null, .null, .null, .null, .null, .null, .int 0, .null, .null, .null, .null, .null, .null, .null, .null, .null, .null, .int 0, .int 0, .int 0, .int 0, .int 0, .long 0, .null, .null, .null, .null, .null, .null, .null, .int 0, .int 0, .int 0]))]) [20] (by decide) rfl
  have hFc := va_free (wc := [(q21, .inr (6, [.null, .null, .null, .null, .int 0, .int 0, .int 0, .int 0, .int 0, .int 0, .int 0, .null, .null, .null, .null, .null, .null, .null, .int 0, .null, .null, .null, .null, .null, .null, .null, .null, .null, .null, .int 0, .int 0, .int 0, .int 0, .int 0, .long 0, .null, .null, .null, .null, .null, .null, .null, .int 0, .int 0, .int 0]))]) hD hS hA [20] rfl
  refine va_callv (va_runI (As := []) (rest := [.ref q21]) ⟨hx, hb, hml, hown, hts⟩ (c_Mo_init l dC dI ar N0 z q21 H.size) (cwI 0 hts (x_good k_965) rfl rfl rfl (hts _ k_9) (hts _ k_963) (hts _ k_964) rfl (by decide +kernel) ⟨Nat.le_of_ble_eq_true rfl, Nat.le_of_ble_eq_true rfl⟩) ⟨x_blind, fun U hU9 hW => x_pre hU9 hW hPc hDc hU hZ hS hAN hN0⟩ rfl rfl hl.1 rfl (lv_room (Nat.le_of_ble_eq_true rfl)) d_La_law_12 ⟨Nat.le_of_ble_eq_true rfl, Nat.le_of_ble_eq_true rfl⟩) hS (fun q _ h => hFc q h) hFc (fun u t H1 locs ht hvm hw hB hz1 hk1 hS => ?_)
  obtain ⟨q22, q23, q24, q25, q26, q27, q28, q29, q30, q31, q32, q33, q34, q35, q36, q37, q38, q39, q40, q41, q42, q43, q44, q45, q46, q47, q48, q49, hP1, hD1⟩ := hB
  rw [ht] at hP1
  obtain ⟨hP, hD⟩ := va_join (wr := [(q1, .inr (5, [.ref q2, .ref q5, .int (-1)])), (q2, .inr (3, [.ref q3, .ref q4, .int 0, .int 0, .int 0, .int 0, .int 0, .int 0, .null])), (q3, .inl (ar 1, 72, .inl (fun _ => 0))), (q4, .inl (ar 0, 72, .inl (fun _ => 0))), (q5, .inr (2, [.ref q6, .ref q7, .ref q8, .ref q10, .ref q12, .ref q13, .ref q14, .int 0, .int 0, .int 0, .long 0])), (q6, .inl (ar 0, 6, .inl (fun _ => 0))), (q7, .inl (ar 4, 6, .inr (.inr (.inr (.inr (va_up (va_up (va_up (va_up (va_up (va_up (fun _ => none) (Int32.toNatClampNeg 0) (some q15)) (Int32.toNatClampNeg 1) (some q16)) (Int32.toNatClampNeg 2) (some q17)) (Int32.toNatClampNeg 3) (some q18)) (Int32.toNatClampNeg 4) (some q19)) (Int32.toNatClampNeg 5) (some q20))))))), (q8, .inr (4, [.ref q9, .int 0])), (q9, .inl (ar 0, 8, .inl (fun _ => 0))), (q10, .inr (4, [.ref q11, .int 0])), (q11, .inl (ar 0, 8, .inl (fun _ => 0))), (q12, .inr (0, [.ref (z 0), .int 0, .int 0])), (q13, .inr (0, [.ref (z 0), .int 0, .int 0])), (q14, .inl (ar 0, 72, .inl (fun _ => 0))), (q15, .inr (1, [.null, .null, .int (-1), .null])), (q16, .inr (1, [.null, .null, .int (-1), .null])), (q17, .inr (1, [.null, .null, .int (-1), .null])), (q18, .inr (1, [.null, .null, .int (-1), .null])), (q19, .inr (1, [.null, .null, .int (-1), .null])), (q20, .inr (1, [.null, .null, .int (-1), .null]))]) (w1 := [(q21, .inr (6, [.ref q22, .ref q23, .ref q24, .ref q25, .int 0, .int (-1), .int 0, .int 0, .int 0, .int 0, .int 0, .ref q26, .ref q27, .ref q28, .ref q29, .ref q30, .ref q31, .ref q32, .int 0, .ref q33, .ref q34, .ref q35, .ref q36, .ref q37, .ref q38, .ref q39, .ref q40, .ref q41, .ref q42, .int 0, .int (-1), .int 0, .int 0, .int 0, .long 0, .ref q43, .ref q44, .ref q45, .ref q46, .ref q47, .ref q48, .ref q49, .int 0, .int 0, .int 0])), (q22, .inl (ar 0, 72, .inl (fun _ => 0))), (q23, .inl (ar 0, 1200, .inl (fun _ => 0))), (q24, .inl (ar 0, 1200, .inl (fun _ => 0))), (q25, .inl (ar 0, 6, .inl (fun _ => 0))), (q26, .inl (ar 0, 80, .inl (fun _ => 0))), (q27, .inl (ar 0, 80, .inl (fun _ => 0))), (q28, .inl (ar 0, 80, .inl (fun _ => 0))), (q29, .inl (ar 0, 320, .inl (fun _ => 0))), (q30, .inl (ar 0, 40, .inl (fun _ => 0))), (q31, .inl (ar 0, 40, .inl (fun _ => 0))), (q32, .inl (ar 0, 8, .inl (fun _ => 0))), (q33, .inl (ar 3, 8, .inl (fun _ => 0))), (q34, .inl (ar 0, 90, .inl (fun _ => 0))), (q35, .inl (ar 0, 90, .inl (fun _ => 0))), (q36, .inl (ar 0, 90, .inl (fun _ => 0))), (q37, .inl (ar 0, 90, .inl (fun _ => 0))), (q38, .inl (ar 0, 90, .inl (fun _ => 0))), (q39, .inl (ar 0, 80, .inl (fun _ => 0))), (q40, .inl (ar 2, 90, .inr (.inl (fun _ => 0)))), (q41, .inl (ar 3, 90, .inl (fun _ => 0))), (q42, .inl (ar 3, 90, .inl (fun _ => 0))), (q43, .inl (ar 0, 6, .inl (fun _ => 0))), (q44, .inl (ar 0, 6, .inl (fun _ => 0))), (q45, .inl (ar 0, 6, .inl (fun _ => 0))), (q46, .inl (ar 0, 6, .inl (fun _ => 0))), (q47, .inl (ar 0, 6, .inl (fun _ => 0))), (q48, .inl (ar 0, 8, .inl (fun _ => 0))), (q49, .inl (ar 0, 8, .inl (fun _ => 0)))]) hP hD [20] [0, 1, 2, 3, 4, 5, 6, 7, 8, 9, 10, 11, 12, 13, 14, 15, 16, 17, 18, 19] rfl rfl (by decide) (by decide) hk1 hFc hP1 hD1
  generalize H1 = H at hP hS ⊢
  have hP : va_P (dC, dI) x_cl [(q1, .inr (5, [.ref q2, .ref q5, .int (-1)])), (q2, .inr (3, [.ref q3, .ref q4, .int 0, .int 0, .int 0, .int 0, .int 0, .int 0, .null])), (q3, .inl (ar 1, 72, .inl (fun _ => 0))), (q4, .inl (ar 0, 72, .inl (fun _ => 0))), (q5, .inr (2, [.ref q6, .ref q7, .ref q8, .ref q10, .ref q12, .ref q13, .ref q14, .int 0, .int 0, .int 0, .long 0])), (q6, .inl (ar 0, 6, .inl (fun _ => 0))), (q7, .inl (ar 4, 6, .inr (.inr (.inr (.inr (va_up (va_up (va_up (va_up (va_up (va_up (fun _ => none) (Int32.toNatClampNeg 0) (some q15)) (Int32.toNatClampNeg 1) (some q16)) (Int32.toNatClampNeg 2) (some q17)) (Int32.toNatClampNeg 3) (some q18)) (Int32.toNatClampNeg 4) (some q19)) (Int32.toNatClampNeg 5) (some q20))))))), (q8, .inr (4, [.ref q9, .int 0])), (q9, .inl (ar 0, 8, .inl (fun _ => 0))), (q10, .inr (4, [.ref q11, .int 0])), (q11, .inl (ar 0, 8, .inl (fun _ => 0))), (q12, .inr (0, [.ref (z 0), .int 0, .int 0])), (q13, .inr (0, [.ref (z 0), .int 0, .int 0])), (q14, .inl (ar 0, 72, .inl (fun _ => 0))), (q15, .inr (1, [.null, .null, .int (-1), .null])), (q16, .inr (1, [.null, .null, .int (-1), .null])), (q17, .inr (1, [.null, .null, .int (-1), .null])), (q18, .inr (1, [.null, .null, .int (-1), .null])), (q19, .inr (1, [.null, .null, .int (-1), .null])), (q20, .inr (1, [.null, .null, .int (-1), .null])), (q21, .inr (6, [.ref q22, .ref q23, .ref q24, .ref q25, .int 0, .int (-1), .int 0, .int 0, .int 0, .int 0, .int 0, .ref q26, .ref q27, .ref q28, .ref q29, .ref q30, .ref q31, .ref q32, .int 0, .ref q33, .ref q34, .ref q35, .ref q36, .ref q37, .ref q38, .ref q39, .ref q40, .ref q41, .ref q42, .int 0, .int (-1), .int 0, .int 0, .int 0, .long 0, .ref q43, .ref q44, .ref q45, .ref q46, .ref q47, .ref q48, .ref q49, .int 0, .int 0, .int 0])), (q22, .inl (ar 0, 72, .inl (fun _ => 0))), (q23, .inl (ar 0, 1200, .inl (fun _ => 0))), (q24, .inl (ar 0, 1200, .inl (fun _ => 0))), (q25, .inl (ar 0, 6, .inl (fun _ => 0))), (q26, .inl (ar 0, 80, .inl (fun _ => 0))), (q27, .inl (ar 0, 80, .inl (fun _ => 0))), (q28, .inl (ar 0, 80, .inl (fun _ => 0))), (q29, .inl (ar 0, 320, .inl (fun _ => 0))), (q30, .inl (ar 0, 40, .inl (fun _ => 0))), (q31, .inl (ar 0, 40, .inl (fun _ => 0))), (q32, .inl (ar 0, 8, .inl (fun _ => 0))), (q33, .inl (ar 3, 8, .inl (fun _ => 0))), (q34, .inl (ar 0, 90, .inl (fun _ => 0))), (q35, .inl (ar 0, 90, .inl (fun _ => 0))), (q36, .inl (ar 0, 90, .inl (fun _ => 0))), (q37, .inl (ar 0, 90, .inl (fun _ => 0))), (q38, .inl (ar 0, 90, .inl (fun _ => 0))), (q39, .inl (ar 0, 80, .inl (fun _ => 0))), (q40, .inl (ar 2, 90, .inr (.inl (fun _ => 0)))), (q41, .inl (ar 3, 90, .inl (fun _ => 0))), (q42, .inl (ar 3, 90, .inl (fun _ => 0))), (q43, .inl (ar 0, 6, .inl (fun _ => 0))), (q44, .inl (ar 0, 6, .inl (fun _ => 0))), (q45, .inl (ar 0, 6, .inl (fun _ => 0))), (q46, .inl (ar 0, 6, .inl (fun _ => 0))), (q47, .inl (ar 0, 6, .inl (fun _ => 0))), (q48, .inl (ar 0, 8, .inl (fun _ => 0))), (q49, .inl (ar 0, 8, .inl (fun _ => 0)))] H := hP
  have hD : va_D A [(q1, .inr (5, [.ref q2, .ref q5, .int (-1)])), (q2, .inr (3, [.ref q3, .ref q4, .int 0, .int 0, .int 0, .int 0, .int 0, .int 0, .null])), (q3, .inl (ar 1, 72, .inl (fun _ => 0))), (q4, .inl (ar 0, 72, .inl (fun _ => 0))), (q5, .inr (2, [.ref q6, .ref q7, .ref q8, .ref q10, .ref q12, .ref q13, .ref q14, .int 0, .int 0, .int 0, .long 0])), (q6, .inl (ar 0, 6, .inl (fun _ => 0))), (q7, .inl (ar 4, 6, .inr (.inr (.inr (.inr (va_up (va_up (va_up (va_up (va_up (va_up (fun _ => none) (Int32.toNatClampNeg 0) (some q15)) (Int32.toNatClampNeg 1) (some q16)) (Int32.toNatClampNeg 2) (some q17)) (Int32.toNatClampNeg 3) (some q18)) (Int32.toNatClampNeg 4) (some q19)) (Int32.toNatClampNeg 5) (some q20))))))), (q8, .inr (4, [.ref q9, .int 0])), (q9, .inl (ar 0, 8, .inl (fun _ => 0))), (q10, .inr (4, [.ref q11, .int 0])), (q11, .inl (ar 0, 8, .inl (fun _ => 0))), (q12, .inr (0, [.ref (z 0), .int 0, .int 0])), (q13, .inr (0, [.ref (z 0), .int 0, .int 0])), (q14, .inl (ar 0, 72, .inl (fun _ => 0))), (q15, .inr (1, [.null, .null, .int (-1), .null])), (q16, .inr (1, [.null, .null, .int (-1), .null])), (q17, .inr (1, [.null, .null, .int (-1), .null])), (q18, .inr (1, [.null, .null, .int (-1), .null])), (q19, .inr (1, [.null, .null, .int (-1), .null])), (q20, .inr (1, [.null, .null, .int (-1), .null])), (q21, .inr (6, [.ref q22, .ref q23, .ref q24, .ref q25, .int 0, .int (-1), .int 0, .int 0, .int 0, .int 0, .int 0, .ref q26, .ref q27, .ref q28, .ref q29, .ref q30, .ref q31, .ref q32, .int 0, .ref q33, .ref q34, .ref q35, .ref q36, .ref q37, .ref q38, .ref q39, .ref q40, .ref q41, .ref q42, .int 0, .int (-1), .int 0, .int 0, .int 0, .long 0, .ref q43, .ref q44, .ref q45, .ref q46, .ref q47, .ref q48, .ref q49, .int 0, .int 0, .int 0])), (q22, .inl (ar 0, 72, .inl (fun _ => 0))), (q23, .inl (ar 0, 1200, .inl (fun _ => 0))), (q24, .inl (ar 0, 1200, .inl (fun _ => 0))), (q25, .inl (ar 0, 6, .inl (fun _ => 0))), (q26, .inl (ar 0, 80, .inl (fun _ => 0))), (q27, .inl (ar 0, 80, .inl (fun _ => 0))), (q28, .inl (ar 0, 80, .inl (fun _ => 0))), (q29, .inl (ar 0, 320, .inl (fun _ => 0))), (q30, .inl (ar 0, 40, .inl (fun _ => 0))), (q31, .inl (ar 0, 40, .inl (fun _ => 0))), (q32, .inl (ar 0, 8, .inl (fun _ => 0))), (q33, .inl (ar 3, 8, .inl (fun _ => 0))), (q34, .inl (ar 0, 90, .inl (fun _ => 0))), (q35, .inl (ar 0, 90, .inl (fun _ => 0))), (q36, .inl (ar 0, 90, .inl (fun _ => 0))), (q37, .inl (ar 0, 90, .inl (fun _ => 0))), (q38, .inl (ar 0, 90, .inl (fun _ => 0))), (q39, .inl (ar 0, 80, .inl (fun _ => 0))), (q40, .inl (ar 2, 90, .inr (.inl (fun _ => 0)))), (q41, .inl (ar 3, 90, .inl (fun _ => 0))), (q42, .inl (ar 3, 90, .inl (fun _ => 0))), (q43, .inl (ar 0, 6, .inl (fun _ => 0))), (q44, .inl (ar 0, 6, .inl (fun _ => 0))), (q45, .inl (ar 0, 6, .inl (fun _ => 0))), (q46, .inl (ar 0, 6, .inl (fun _ => 0))), (q47, .inl (ar 0, 6, .inl (fun _ => 0))), (q48, .inl (ar 0, 8, .inl (fun _ => 0))), (q49, .inl (ar 0, 8, .inl (fun _ => 0)))] := hD
  refine W.widen (k := 49) (n := 4326) (Nat.le_of_ble_eq_true rfl) (Nat.le_of_ble_eq_true rfl) ?_
  refine lv_astore_n (lv' := [(2, .ref q21), (1, .ref q1), (0, .ref b)]) hx hb d_La_law_15 rfl hl (by decide) rfl (fun ls hl => ?_)
  refine lv_iconst (v := 1) hx hb d_La_law_16 (by decide) ?_
  refine x_newa (D := (dC, dI)) (ar := ar) (atype := .long) hx hb (hts _ k_1104) (ty := .long) rfl hK hP hD hS hA (N' := 1) (a0 := (1, .inr (.inl (fun _ => 0)))) (fun _ => rfl) (by decide) (by decide) (by decide) (Nat.le_of_ble_eq_true rfl) (Nat.le_of_ble_eq_true rfl) 2 rfl (by decide) d_La_law_17 (fun q50 H hP hD hS => ?_)
  have hP : va_P (dC, dI) x_cl [(q1, .inr (5, [.ref q2, .ref q5, .int (-1)])), (q2, .inr (3, [.ref q3, .ref q4, .int 0, .int 0, .int 0, .int 0, .int 0, .int 0, .null])), (q3, .inl (ar 1, 72, .inl (fun _ => 0))), (q4, .inl (ar 0, 72, .inl (fun _ => 0))), (q5, .inr (2, [.ref q6, .ref q7, .ref q8, .ref q10, .ref q12, .ref q13, .ref q14, .int 0, .int 0, .int 0, .long 0])), (q6, .inl (ar 0, 6, .inl (fun _ => 0))), (q7, .inl (ar 4, 6, .inr (.inr (.inr (.inr (va_up (va_up (va_up (va_up (va_up (va_up (fun _ => none) (Int32.toNatClampNeg 0) (some q15)) (Int32.toNatClampNeg 1) (some q16)) (Int32.toNatClampNeg 2) (some q17)) (Int32.toNatClampNeg 3) (some q18)) (Int32.toNatClampNeg 4) (some q19)) (Int32.toNatClampNeg 5) (some q20))))))), (q8, .inr (4, [.ref q9, .int 0])), (q9, .inl (ar 0, 8, .inl (fun _ => 0))), (q10, .inr (4, [.ref q11, .int 0])), (q11, .inl (ar 0, 8, .inl (fun _ => 0))), (q12, .inr (0, [.ref (z 0), .int 0, .int 0])), (q13, .inr (0, [.ref (z 0), .int 0, .int 0])), (q14, .inl (ar 0, 72, .inl (fun _ => 0))), (q15, .inr (1, [.null, .null, .int (-1), .null])), (q16, .inr (1, [.null, .null, .int (-1), .null])), (q17, .inr (1, [.null, .null, .int (-1), .null])), (q18, .inr (1, [.null, .null, .int (-1), .null])), (q19, .inr (1, [.null, .null, .int (-1), .null])), (q20, .inr (1, [.null, .null, .int (-1), .null])), (q21, .inr (6, [.ref q22, .ref q23, .ref q24, .ref q25, .int 0, .int (-1), .int 0, .int 0, .int 0, .int 0, .int 0, .ref q26, .ref q27, .ref q28, .ref q29, .ref q30, .ref q31, .ref q32, .int 0, .ref q33, .ref q34, .ref q35, .ref q36, .ref q37, .ref q38, .ref q39, .ref q40, .ref q41, .ref q42, .int 0, .int (-1), .int 0, .int 0, .int 0, .long 0, .ref q43, .ref q44, .ref q45, .ref q46, .ref q47, .ref q48, .ref q49, .int 0, .int 0, .int 0])), (q22, .inl (ar 0, 72, .inl (fun _ => 0))), (q23, .inl (ar 0, 1200, .inl (fun _ => 0))), (q24, .inl (ar 0, 1200, .inl (fun _ => 0))), (q25, .inl (ar 0, 6, .inl (fun _ => 0))), (q26, .inl (ar 0, 80, .inl (fun _ => 0))), (q27, .inl (ar 0, 80, .inl (fun _ => 0))), (q28, .inl (ar 0, 80, .inl (fun _ => 0))), (q29, .inl (ar 0, 320, .inl (fun _ => 0))), (q30, .inl (ar 0, 40, .inl (fun _ => 0))), (q31, .inl (ar 0, 40, .inl (fun _ => 0))), (q32, .inl (ar 0, 8, .inl (fun _ => 0))), (q33, .inl (ar 3, 8, .inl (fun _ => 0))), (q34, .inl (ar 0, 90, .inl (fun _ => 0))), (q35, .inl (ar 0, 90, .inl (fun _ => 0))), (q36, .inl (ar 0, 90, .inl (fun _ => 0))), (q37, .inl (ar 0, 90, .inl (fun _ => 0))), (q38, .inl (ar 0, 90, .inl (fun _ => 0))), (q39, .inl (ar 0, 80, .inl (fun _ => 0))), (q40, .inl (ar 2, 90, .inr (.inl (fun _ => 0)))), (q41, .inl (ar 3, 90, .inl (fun _ => 0))), (q42, .inl (ar 3, 90, .inl (fun _ => 0))), (q43, .inl (ar 0, 6, .inl (fun _ => 0))), (q44, .inl (ar 0, 6, .inl (fun _ => 0))), (q45, .inl (ar 0, 6, .inl (fun _ => 0))), (q46, .inl (ar 0, 6, .inl (fun _ => 0))), (q47, .inl (ar 0, 6, .inl (fun _ => 0))), (q48, .inl (ar 0, 8, .inl (fun _ => 0))), (q49, .inl (ar 0, 8, .inl (fun _ => 0))), (q50, .inl (ar 2, 1, .inr (.inl (fun _ => 0))))] H := hP
  have hD : va_D A [(q1, .inr (5, [.ref q2, .ref q5, .int (-1)])), (q2, .inr (3, [.ref q3, .ref q4, .int 0, .int 0, .int 0, .int 0, .int 0, .int 0, .null])), (q3, .inl (ar 1, 72, .inl (fun _ => 0))), (q4, .inl (ar 0, 72, .inl (fun _ => 0))), (q5, .inr (2, [.ref q6, .ref q7, .ref q8, .ref q10, .ref q12, .ref q13, .ref q14, .int 0, .int 0, .int 0, .long 0])), (q6, .inl (ar 0, 6, .inl (fun _ => 0))), (q7, .inl (ar 4, 6, .inr (.inr (.inr (.inr (va_up (va_up (va_up (va_up (va_up (va_up (fun _ => none) (Int32.toNatClampNeg 0) (some q15)) (Int32.toNatClampNeg 1) (some q16)) (Int32.toNatClampNeg 2) (some q17)) (Int32.toNatClampNeg 3) (some q18)) (Int32.toNatClampNeg 4) (some q19)) (Int32.toNatClampNeg 5) (some q20))))))), (q8, .inr (4, [.ref q9, .int 0])), (q9, .inl (ar 0, 8, .inl (fun _ => 0))), (q10, .inr (4, [.ref q11, .int 0])), (q11, .inl (ar 0, 8, .inl (fun _ => 0))), (q12, .inr (0, [.ref (z 0), .int 0, .int 0])), (q13, .inr (0, [.ref (z 0), .int 0, .int 0])), (q14, .inl (ar 0, 72, .inl (fun _ => 0))), (q15, .inr (1, [.null, .null, .int (-1), .null])), (q16, .inr (1, [.null, .null, .int (-1), .null])), (q17, .inr (1, [.null, .null, .int (-1), .null])), (q18, .inr (1, [.null, .null, .int (-1), .null])), (q19, .inr (1, [.null, .null, .int (-1), .null])), (q20, .inr (1, [.null, .null, .int (-1), .null])), (q21, .inr (6, [.ref q22, .ref q23, .ref q24, .ref q25, .int 0, .int (-1), .int 0, .int 0, .int 0, .int 0, .int 0, .ref q26, .ref q27, .ref q28, .ref q29, .ref q30, .ref q31, .ref q32, .int 0, .ref q33, .ref q34, .ref q35, .ref q36, .ref q37, .ref q38, .ref q39, .ref q40, .ref q41, .ref q42, .int 0, .int (-1), .int 0, .int 0, .int 0, .long 0, .ref q43, .ref q44, .ref q45, .ref q46, .ref q47, .ref q48, .ref q49, .int 0, .int 0, .int 0])), (q22, .inl (ar 0, 72, .inl (fun _ => 0))), (q23, .inl (ar 0, 1200, .inl (fun _ => 0))), (q24, .inl (ar 0, 1200, .inl (fun _ => 0))), (q25, .inl (ar 0, 6, .inl (fun _ => 0))), (q26, .inl (ar 0, 80, .inl (fun _ => 0))), (q27, .inl (ar 0, 80, .inl (fun _ => 0))), (q28, .inl (ar 0, 80, .inl (fun _ => 0))), (q29, .inl (ar 0, 320, .inl (fun _ => 0))), (q30, .inl (ar 0, 40, .inl (fun _ => 0))), (q31, .inl (ar 0, 40, .inl (fun _ => 0))), (q32, .inl (ar 0, 8, .inl (fun _ => 0))), (q33, .inl (ar 3, 8, .inl (fun _ => 0))), (q34, .inl (ar 0, 90, .inl (fun _ => 0))), (q35, .inl (ar 0, 90, .inl (fun _ => 0))), (q36, .inl (ar 0, 90, .inl (fun _ => 0))), (q37, .inl (ar 0, 90, .inl (fun _ => 0))), (q38, .inl (ar 0, 90, .inl (fun _ => 0))), (q39, .inl (ar 0, 80, .inl (fun _ => 0))), (q40, .inl (ar 2, 90, .inr (.inl (fun _ => 0)))), (q41, .inl (ar 3, 90, .inl (fun _ => 0))), (q42, .inl (ar 3, 90, .inl (fun _ => 0))), (q43, .inl (ar 0, 6, .inl (fun _ => 0))), (q44, .inl (ar 0, 6, .inl (fun _ => 0))), (q45, .inl (ar 0, 6, .inl (fun _ => 0))), (q46, .inl (ar 0, 6, .inl (fun _ => 0))), (q47, .inl (ar 0, 6, .inl (fun _ => 0))), (q48, .inl (ar 0, 8, .inl (fun _ => 0))), (q49, .inl (ar 0, 8, .inl (fun _ => 0))), (q50, .inl (ar 2, 1, .inr (.inl (fun _ => 0))))] := hD
  refine W.widen (k := 50) (n := 4327) (Nat.le_of_ble_eq_true rfl) (Nat.le_of_ble_eq_true rfl) ?_
  refine lv_astore_n (lv' := [(3, .ref q50), (2, .ref q21), (1, .ref q1), (0, .ref b)]) hx hb d_La_law_19 rfl hl (by decide) rfl (fun ls hl => ?_)
  refine lv_iconst (v := 0) hx hb d_La_law_20 (by decide) ?_
  refine lv_istore (lv' := [(4, .int 0), (3, .ref q50), (2, .ref q21), (1, .ref q1), (0, .ref b)]) hx hb d_La_law_21 hl (by decide) rfl (fun ls hl => ?_)
  have hP := hP.sub (ws' := [(q50, .inl (ar 2, 1, .inr (.inl (fun _ => 0)))), (q1, .inr (5, [.ref q2, .ref q5, .int (-1)])), (q5, .inr (2, [.ref q6, .ref q7, .ref q8, .ref q10, .ref q12, .ref q13, .ref q14, .int 0, .int 0, .int 0, .long 0])), (q6, .inl (ar 0, 6, .inl (fun _ => 0))), (q7, .inl (ar 4, 6, .inr (.inr (.inr (.inr (va_up (va_up (va_up (va_up (va_up (va_up (fun _ => none) (Int32.toNatClampNeg 0) (some q15)) (Int32.toNatClampNeg 1) (some q16)) (Int32.toNatClampNeg 2) (some q17)) (Int32.toNatClampNeg 3) (some q18)) (Int32.toNatClampNeg 4) (some q19)) (Int32.toNatClampNeg 5) (some q20))))))), (q15, .inr (1, [.null, .null, .int (-1), .null])), (q16, .inr (1, [.null, .null, .int (-1), .null])), (q17, .inr (1, [.null, .null, .int (-1), .null])), (q18, .inr (1, [.null, .null, .int (-1), .null])), (q19, .inr (1, [.null, .null, .int (-1), .null])), (q20, .inr (1, [.null, .null, .int (-1), .null])), (q8, .inr (4, [.ref q9, .int 0])), (q10, .inr (4, [.ref q11, .int 0])), (q12, .inr (0, [.ref (z 0), .int 0, .int 0])), (q13, .inr (0, [.ref (z 0), .int 0, .int 0])), (q2, .inr (3, [.ref q3, .ref q4, .int 0, .int 0, .int 0, .int 0, .int 0, .int 0, .null])), (q3, .inl (ar 1, 72, .inl (fun _ => 0))), (q21, .inr (6, [.ref q22, .ref q23, .ref q24, .ref q25, .int 0, .int (-1), .int 0, .int 0, .int 0, .int 0, .int 0, .ref q26, .ref q27, .ref q28, .ref q29, .ref q30, .ref q31, .ref q32, .int 0, .ref q33, .ref q34, .ref q35, .ref q36, .ref q37, .ref q38, .ref q39, .ref q40, .ref q41, .ref q42, .int 0, .int (-1), .int 0, .int 0, .int 0, .long 0, .ref q43, .ref q44, .ref q45, .ref q46, .ref q47, .ref q48, .ref q49, .int 0, .int 0, .int 0])), (q25, .inl (ar 0, 6, .inl (fun _ => 0))), (q22, .inl (ar 0, 72, .inl (fun _ => 0)))]) [49, 0, 4, 5, 6, 14, 15, 16, 17, 18, 19, 7, 9, 11, 12, 1, 2, 20, 24, 21] rfl
  have hD := hD.sub (ws' := [(q50, .inl (ar 2, 1, .inr (.inl (fun _ => 0)))), (q1, .inr (5, [.ref q2, .ref q5, .int (-1)])), (q5, .inr (2, [.ref q6, .ref q7, .ref q8, .ref q10, .ref q12, .ref q13, .ref q14, .int 0, .int 0, .int 0, .long 0])), (q6, .inl (ar 0, 6, .inl (fun _ => 0))), (q7, .inl (ar 4, 6, .inr (.inr (.inr (.inr (va_up (va_up (va_up (va_up (va_up (va_up (fun _ => none) (Int32.toNatClampNeg 0) (some q15)) (Int32.toNatClampNeg 1) (some q16)) (Int32.toNatClampNeg 2) (some q17)) (Int32.toNatClampNeg 3) (some q18)) (Int32.toNatClampNeg 4) (some q19)) (Int32.toNatClampNeg 5) (some q20))))))), (q15, .inr (1, [.null, .null, .int (-1), .null])), (q16, .inr (1, [.null, .null, .int (-1), .null])), (q17, .inr (1, [.null, .null, .int (-1), .null])), (q18, .inr (1, [.null, .null, .int (-1), .null])), (q19, .inr (1, [.null, .null, .int (-1), .null])), (q20, .inr (1, [.null, .null, .int (-1), .null])), (q8, .inr (4, [.ref q9, .int 0])), (q10, .inr (4, [.ref q11, .int 0])), (q12, .inr (0, [.ref (z 0), .int 0, .int 0])), (q13, .inr (0, [.ref (z 0), .int 0, .int 0])), (q2, .inr (3, [.ref q3, .ref q4, .int 0, .int 0, .int 0, .int 0, .int 0, .int 0, .null])), (q3, .inl (ar 1, 72, .inl (fun _ => 0))), (q21, .inr (6, [.ref q22, .ref q23, .ref q24, .ref q25, .int 0, .int (-1), .int 0, .int 0, .int 0, .int 0, .int 0, .ref q26, .ref q27, .ref q28, .ref q29, .ref q30, .ref q31, .ref q32, .int 0, .ref q33, .ref q34, .ref q35, .ref q36, .ref q37, .ref q38, .ref q39, .ref q40, .ref q41, .ref q42, .int 0, .int (-1), .int 0, .int 0, .int 0, .long 0, .ref q43, .ref q44, .ref q45, .ref q46, .ref q47, .ref q48, .ref q49, .int 0, .int 0, .int 0])), (q25, .inl (ar 0, 6, .inl (fun _ => 0))), (q22, .inl (ar 0, 72, .inl (fun _ => 0)))]) [49, 0, 4, 5, 6, 14, 15, 16, 17, 18, 19, 7, 9, 11, 12, 1, 2, 20, 24, 21] (by decide) rfl
  obtain ⟨fs, g, hP, hD, hfs, g_status, g_place, g_acts, g_time, g_given, g_boxed, g_variables, g_text, g_size, g0, g1, g2, g3, g4, g5⟩ : ∃ (fs : List Value) (g : Nat → Option Nat), va_P (dC, dI) x_cl [(q50, .inl (ar 2, 1, .inr (.inl (fun _ => 0)))), (q1, .inr (5, [.ref q2, .ref q5, .int (-1)])), (q5, .inr (2, [.ref q6, .ref q7, .ref q8, .ref q10, .ref q12, .ref q13, .ref q14, .int 0, .int 0, .int 0, .long 0])), (q6, .inl (ar 0, 6, .inl (fun _ => 0))), (q7, .inl (ar 4, 6, .inr (.inr (.inr (.inr g))))), (q15, .inr (1, [.null, .null, .int (-1), .null])), (q16, .inr (1, [.null, .null, .int (-1), .null])), (q17, .inr (1, [.null, .null, .int (-1), .null])), (q18, .inr (1, [.null, .null, .int (-1), .null])), (q19, .inr (1, [.null, .null, .int (-1), .null])), (q20, .inr (1, [.null, .null, .int (-1), .null])), (q8, .inr (4, [.ref q9, .int 0])), (q10, .inr (4, [.ref q11, .int 0])), (q12, .inr (0, [.ref (z 0), .int 0, .int 0])), (q13, .inr (0, [.ref (z 0), .int 0, .int 0])), (q2, .inr (3, [.ref q3, .ref q4, .int 0, .int 0, .int 0, .int 0, .int 0, .int 0, .null])), (q3, .inl (ar 1, 72, .inl (fun _ => 0))), (q21, .inr (6, fs)), (q25, .inl (ar 0, 6, .inl (fun _ => 0))), (q22, .inl (ar 0, 72, .inl (fun _ => 0)))] H ∧ va_D A [(q50, .inl (ar 2, 1, .inr (.inl (fun _ => 0)))), (q1, .inr (5, [.ref q2, .ref q5, .int (-1)])), (q5, .inr (2, [.ref q6, .ref q7, .ref q8, .ref q10, .ref q12, .ref q13, .ref q14, .int 0, .int 0, .int 0, .long 0])), (q6, .inl (ar 0, 6, .inl (fun _ => 0))), (q7, .inl (ar 4, 6, .inr (.inr (.inr (.inr g))))), (q15, .inr (1, [.null, .null, .int (-1), .null])), (q16, .inr (1, [.null, .null, .int (-1), .null])), (q17, .inr (1, [.null, .null, .int (-1), .null])), (q18, .inr (1, [.null, .null, .int (-1), .null])), (q19, .inr (1, [.null, .null, .int (-1), .null])), (q20, .inr (1, [.null, .null, .int (-1), .null])), (q8, .inr (4, [.ref q9, .int 0])), (q10, .inr (4, [.ref q11, .int 0])), (q12, .inr (0, [.ref (z 0), .int 0, .int 0])), (q13, .inr (0, [.ref (z 0), .int 0, .int 0])), (q2, .inr (3, [.ref q3, .ref q4, .int 0, .int 0, .int 0, .int 0, .int 0, .int 0, .null])), (q3, .inl (ar 1, 72, .inl (fun _ => 0))), (q21, .inr (6, fs)), (q25, .inl (ar 0, 6, .inl (fun _ => 0))), (q22, .inl (ar 0, 72, .inl (fun _ => 0)))] ∧ fs.length = 45 ∧ fs[9]? = some (.int 0) ∧ fs[5]? = some (.int (-1)) ∧ fs[32]? = some (.int 0) ∧ fs[34]? = some (.long 0) ∧ fs[42]? = some (.int 0) ∧ fs[43]? = some (.int 0) ∧ fs[3]? = some (.ref q25) ∧ fs[0]? = some (.ref q22) ∧ fs[4]? = some (.int 0) ∧ g 0 = some q15 ∧ g 1 = some q16 ∧ g 2 = some q17 ∧ g 3 = some q18 ∧ g 4 = some q19 ∧ g 5 = some q20 := ⟨_, _, hP, hD, rfl, rfl, rfl, rfl, rfl, rfl, rfl, rfl, rfl, rfl, by rfl, by rfl, by rfl, by rfl, by rfl, by rfl⟩
  rcases (show L = 0 ∨ L = 1 ∨ L = 2 ∨ L = 3 by omega) with rfl | rfl | rfl | rfl
  · refine lv_iload hx hb d_La_law_23 (lv_at hl 0 rfl) ?_
    refine lv_aload_n hx hb d_La_law_25 rfl (lv_at hl 4 rfl) ?_
    refine va_slen hx hb hX hbl hbA hS d_La_law_26 ?_
    refine lv_iconst (v := 3) hx hb d_La_law_27 (by decide) ?_
    refine lv_isub hx hb d_La_law_28 ?_
    refine W.eq (g2 := F0 m 29 ls [.int (-3), .int 0]) (by rw [show (Int32.ofNat 0 - 3 : Int32) = (-3) from by decide]) ?_
    refine lv_icmp_gt (tgt := 567) hx hb d_La_law_29 (by decide) (fun _ => ?_) (fun c51 => absurd (by decide) c51)
    refine lv_iconst (v := 1) hx hb d_La_law_567 (by decide) ?_
    refine va_forget (fun q h => by rw [← hNe]; exact hAN _ (hS.2.2 q h)) ?_
    refine W.widen (k := 600002) (n := 7302232) (Nat.le_of_ble_eq_true rfl) (Nat.le_of_ble_eq_true rfl) ?_
    exact lw_ret hx hb hr hlocks d_La_law_568
  · refine lv_iload hx hb d_La_law_23 (lv_at hl 0 rfl) ?_
    refine lv_aload_n hx hb d_La_law_25 rfl (lv_at hl 4 rfl) ?_
    refine va_slen hx hb hX hbl hbA hS d_La_law_26 ?_
    refine lv_iconst (v := 3) hx hb d_La_law_27 (by decide) ?_
    refine lv_isub hx hb d_La_law_28 ?_
    refine W.eq (g2 := F0 m 29 ls [.int (-2), .int 0]) (by rw [show (Int32.ofNat 1 - 3 : Int32) = (-2) from by decide]) ?_
    refine lv_icmp_gt (tgt := 567) hx hb d_La_law_29 (by decide) (fun _ => ?_) (fun c52 => absurd (by decide) c52)
    refine lv_iconst (v := 1) hx hb d_La_law_567 (by decide) ?_
    refine va_forget (fun q h => by rw [← hNe]; exact hAN _ (hS.2.2 q h)) ?_
    refine W.widen (k := 600002) (n := 7302232) (Nat.le_of_ble_eq_true rfl) (Nat.le_of_ble_eq_true rfl) ?_
    exact lw_ret hx hb hr hlocks d_La_law_568
  · refine lv_iload hx hb d_La_law_23 (lv_at hl 0 rfl) ?_
    refine lv_aload_n hx hb d_La_law_25 rfl (lv_at hl 4 rfl) ?_
    refine va_slen hx hb hX hbl hbA hS d_La_law_26 ?_
    refine lv_iconst (v := 3) hx hb d_La_law_27 (by decide) ?_
    refine lv_isub hx hb d_La_law_28 ?_
    refine W.eq (g2 := F0 m 29 ls [.int (-1), .int 0]) (by rw [show (Int32.ofNat 2 - 3 : Int32) = (-1) from by decide]) ?_
    refine lv_icmp_gt (tgt := 567) hx hb d_La_law_29 (by decide) (fun _ => ?_) (fun c53 => absurd (by decide) c53)
    refine lv_iconst (v := 1) hx hb d_La_law_567 (by decide) ?_
    refine va_forget (fun q h => by rw [← hNe]; exact hAN _ (hS.2.2 q h)) ?_
    refine W.widen (k := 600002) (n := 7302232) (Nat.le_of_ble_eq_true rfl) (Nat.le_of_ble_eq_true rfl) ?_
    exact lw_ret hx hb hr hlocks d_La_law_568
  · refine lv_iload hx hb d_La_law_23 (lv_at hl 0 rfl) ?_
    refine lv_aload_n hx hb d_La_law_25 rfl (lv_at hl 4 rfl) ?_
    refine va_slen hx hb hX hbl hbA hS d_La_law_26 ?_
    refine lv_iconst (v := 3) hx hb d_La_law_27 (by decide) ?_
    refine lv_isub hx hb d_La_law_28 ?_
    refine W.eq (g2 := F0 m 29 ls [.int 0, .int 0]) (by rw [show (Int32.ofNat 3 - 3 : Int32) = 0 from by decide]) ?_
    refine lv_icmp_gt (tgt := 567) hx hb d_La_law_29 (by decide) (fun c54 => absurd c54 (by decide)) (fun _ => ?_)
    refine lv_aload_n hx hb d_La_law_32 rfl (lv_at hl 4 rfl) ?_
    refine lv_iload hx hb d_La_law_33 (lv_at hl 0 rfl) ?_
    refine va_sld hx hb hX hbl hbA hS (i := 0) (by unfold vp_in; decide) d_La_law_35 ?_
    refine W.eq (g2 := F0 m 36 ls [.int (xs 0)]) (by rw [show Int32.toNatClampNeg (0 : Int32) = 0 from by decide]) ?_
    refine lv_bipush (v := 15) hx hb d_La_law_36 (by decide) ?_
    refine lv_iand hx hb d_La_law_38 ?_
    refine lv_topi (fun sw _ => ?_)
    rcases x_9 sw with h9 | rfl | rfl | rfl | rfl | rfl | rfl | rfl | rfl | rfl
    · refine lv_tableOut (tgt := 561) hx hb d_La_law_39 h9 (by decide) ?_
      refine lv_iinc (v := 3) (lv' := [(4, .int 3), (3, .ref q50), (2, .ref q21), (1, .ref q1), (0, .ref b)]) hx hb d_La_law_561 hl (k := 0) rfl (by decide) (by decide) rfl (fun ls hl => ?_)
      refine lv_goto (tgt := 23) hx hb d_La_law_564 (by decide) ?_
      refine lv_iload hx hb d_La_law_23 (lv_at hl 0 rfl) ?_
      refine lv_aload_n hx hb d_La_law_25 rfl (lv_at hl 4 rfl) ?_
      refine va_slen hx hb hX hbl hbA hS d_La_law_26 ?_
      refine lv_iconst (v := 3) hx hb d_La_law_27 (by decide) ?_
      refine lv_isub hx hb d_La_law_28 ?_
      refine W.eq (g2 := F0 m 29 ls [.int 0, .int 3]) (by rw [show (Int32.ofNat 3 - 3 : Int32) = 0 from by decide]) ?_
      refine lv_icmp_gt (tgt := 567) hx hb d_La_law_29 (by decide) (fun _ => ?_) (fun c55 => absurd (by decide) c55)
      refine lv_iconst (v := 1) hx hb d_La_law_567 (by decide) ?_
      refine va_forget (fun q h => by rw [← hNe]; exact hAN _ (hS.2.2 q h)) ?_
      refine W.widen (k := 600002) (n := 7302232) (Nat.le_of_ble_eq_true rfl) (Nat.le_of_ble_eq_true rfl) ?_
      exact lw_ret hx hb hr hlocks d_La_law_568
    · refine lv_tableIn (tgt := 88) hx hb d_La_law_39 (by decide) (by decide) (off := 49) rfl (by decide) ?_
      obtain ⟨eg, heg⟩ : ∃ eg : Int64, eg = (Int32.toInt64 (xs 1) <<< (Int32.toInt64 32 &&& 63)) ||| (Int32.toInt64 (xs 2) &&& 4294967295) := ⟨_, rfl⟩
      refine lv_aload_n hx hb d_La_law_88 rfl (lv_at hl 3 rfl) ?_
      refine lv_aload_n hx hb d_La_law_89 rfl (lv_at hl 4 rfl) ?_
      refine lv_iload hx hb d_La_law_90 (lv_at hl 0 rfl) ?_
      refine lv_iconst (v := 1) hx hb d_La_law_92 (by decide) ?_
      refine lv_iadd hx hb d_La_law_93 ?_
      refine W.eq (g2 := F0 m 94 ls [.int 1, .ref b, .ref q1]) rfl ?_
      refine va_sld hx hb hX hbl hbA hS (i := 1) (by unfold vp_in; decide) d_La_law_94 ?_
      refine W.eq (g2 := F0 m 95 ls [.int (xs 1), .ref q1]) (by rw [show Int32.toNatClampNeg (1 : Int32) = 1 from by decide]) ?_
      refine lv_i2l (v := (Int32.toInt64 (xs 1))) hx hb d_La_law_95 rfl ?_
      refine lv_bipush (v := 32) hx hb d_La_law_96 (by decide) ?_
      refine lv_lshl hx hb d_La_law_98 rfl ?_
      refine lv_aload_n hx hb d_La_law_99 rfl (lv_at hl 4 rfl) ?_
      refine lv_iload hx hb d_La_law_100 (lv_at hl 0 rfl) ?_
      refine lv_iconst (v := 2) hx hb d_La_law_102 (by decide) ?_
      refine lv_iadd hx hb d_La_law_103 ?_
      refine W.eq (g2 := F0 m 104 ls [.int 2, .ref b, .long ((Int32.toInt64 (xs 1)) <<< (Int32.toInt64 32 &&& 63)), .ref q1]) rfl ?_
      refine va_sld hx hb hX hbl hbA hS (i := 2) (by unfold vp_in; decide) d_La_law_104 ?_
      refine W.eq (g2 := F0 m 105 ls [.int (xs 2), .long ((Int32.toInt64 (xs 1)) <<< (Int32.toInt64 32 &&& 63)), .ref q1]) (by rw [show Int32.toNatClampNeg (2 : Int32) = 2 from by decide]) ?_
      refine lv_i2l (v := (Int32.toInt64 (xs 2))) hx hb d_La_law_105 rfl ?_
      refine lv_ldc2 hx hb hown (hts _ k_1290) d_La_law_106 ?_
      refine lv_land hx hb d_La_law_109 ?_
      refine lv_lor hx hb d_La_law_110 ?_
      refine W.eq (g2 := F0 m 111 ls [.long eg, .ref q1]) (by rw [heg]) ?_
      refine lv_aload_n hx hb d_La_law_111 rfl (lv_at hl 1 rfl) ?_
      have hPc := hP.sub (ws' := [(q50, .inl (ar 2, 1, .inr (.inl (fun _ => 0)))), (q1, .inr (5, [.ref q2, .ref q5, .int (-1)])), (q2, .inr (3, [.ref q3, .ref q4, .int 0, .int 0, .int 0, .int 0, .int 0, .int 0, .null])), (q3, .inl (ar 1, 72, .inl (fun _ => 0)))]) [0, 1, 15, 16] rfl
      have hDc := hD.sub (ws' := [(q50, .inl (ar 2, 1, .inr (.inl (fun _ => 0)))), (q1, .inr (5, [.ref q2, .ref q5, .int (-1)])), (q2, .inr (3, [.ref q3, .ref q4, .int 0, .int 0, .int 0, .int 0, .int 0, .int 0, .null])), (q3, .inl (ar 1, 72, .inl (fun _ => 0)))]) [0, 1, 15, 16] (by decide) rfl
      have hFc := va_free (wc := [(q50, .inl (ar 2, 1, .inr (.inl (fun _ => 0)))), (q1, .inr (5, [.ref q2, .ref q5, .int (-1)])), (q2, .inr (3, [.ref q3, .ref q4, .int 0, .int 0, .int 0, .int 0, .int 0, .int 0, .null])), (q3, .inl (ar 1, 72, .inl (fun _ => 0)))]) hD hS hA [0, 1, 15, 16] rfl
      refine va_calli (vx_runSW (As := [.ref q1, .long eg, .ref q50]) (rest := []) ⟨hx, hb, hml, hown, hts⟩ (c_La_type l hst dC dI ar N0 z q50 q1 q2 q5 q6 q7 q8 q10 q12 q13 q14 q3 q4 eg H.size ) (vx_cwSW 3 hts (x_goodSW k_218 k_219 k_0 k_220) rfl rfl rfl (by decide +kernel) ⟨Nat.le_of_ble_eq_true rfl, Nat.le_of_ble_eq_true rfl⟩) ⟨x_blind, fun U hU9 hW => x_pre hU9 hW hPc hDc hU hZ hS hAN hN0⟩ rfl rfl hl.1 rfl (lv_room (Nat.le_of_ble_eq_true rfl)) d_La_law_112 ⟨Nat.le_of_ble_eq_true rfl, Nat.le_of_ble_eq_true rfl⟩) hS (fun q _ h => hFc q h) hFc (fun r56 u57 t H1 locs ht hvm hw hB hz1 hk1 hS => ?_)
      obtain ⟨hP1, hD1⟩ := hB
      rw [ht] at hP1
      obtain ⟨hP, hD⟩ := va_join (wr := [(q5, .inr (2, [.ref q6, .ref q7, .ref q8, .ref q10, .ref q12, .ref q13, .ref q14, .int 0, .int 0, .int 0, .long 0])), (q6, .inl (ar 0, 6, .inl (fun _ => 0))), (q7, .inl (ar 4, 6, .inr (.inr (.inr (.inr g))))), (q15, .inr (1, [.null, .null, .int (-1), .null])), (q16, .inr (1, [.null, .null, .int (-1), .null])), (q17, .inr (1, [.null, .null, .int (-1), .null])), (q18, .inr (1, [.null, .null, .int (-1), .null])), (q19, .inr (1, [.null, .null, .int (-1), .null])), (q20, .inr (1, [.null, .null, .int (-1), .null])), (q8, .inr (4, [.ref q9, .int 0])), (q10, .inr (4, [.ref q11, .int 0])), (q12, .inr (0, [.ref (z 0), .int 0, .int 0])), (q13, .inr (0, [.ref (z 0), .int 0, .int 0])), (q21, .inr (6, fs)), (q25, .inl (ar 0, 6, .inl (fun _ => 0))), (q22, .inl (ar 0, 72, .inl (fun _ => 0)))]) (w1 := [(q50, .inl (ar 2, 1, .inr (.inl u57)))]) hP hD [0, 1, 15, 16] [2, 3, 4, 5, 6, 7, 8, 9, 10, 11, 12, 13, 14, 17, 18, 19] rfl rfl (by decide) (by decide) hk1 hFc hP1 hD1
      generalize H1 = H at hP hS ⊢
      have hP : va_P (dC, dI) x_cl [(q5, .inr (2, [.ref q6, .ref q7, .ref q8, .ref q10, .ref q12, .ref q13, .ref q14, .int 0, .int 0, .int 0, .long 0])), (q6, .inl (ar 0, 6, .inl (fun _ => 0))), (q7, .inl (ar 4, 6, .inr (.inr (.inr (.inr g))))), (q15, .inr (1, [.null, .null, .int (-1), .null])), (q16, .inr (1, [.null, .null, .int (-1), .null])), (q17, .inr (1, [.null, .null, .int (-1), .null])), (q18, .inr (1, [.null, .null, .int (-1), .null])), (q19, .inr (1, [.null, .null, .int (-1), .null])), (q20, .inr (1, [.null, .null, .int (-1), .null])), (q8, .inr (4, [.ref q9, .int 0])), (q10, .inr (4, [.ref q11, .int 0])), (q12, .inr (0, [.ref (z 0), .int 0, .int 0])), (q13, .inr (0, [.ref (z 0), .int 0, .int 0])), (q21, .inr (6, fs)), (q25, .inl (ar 0, 6, .inl (fun _ => 0))), (q22, .inl (ar 0, 72, .inl (fun _ => 0))), (q50, .inl (ar 2, 1, .inr (.inl u57)))] H := hP
      have hD : va_D A [(q5, .inr (2, [.ref q6, .ref q7, .ref q8, .ref q10, .ref q12, .ref q13, .ref q14, .int 0, .int 0, .int 0, .long 0])), (q6, .inl (ar 0, 6, .inl (fun _ => 0))), (q7, .inl (ar 4, 6, .inr (.inr (.inr (.inr g))))), (q15, .inr (1, [.null, .null, .int (-1), .null])), (q16, .inr (1, [.null, .null, .int (-1), .null])), (q17, .inr (1, [.null, .null, .int (-1), .null])), (q18, .inr (1, [.null, .null, .int (-1), .null])), (q19, .inr (1, [.null, .null, .int (-1), .null])), (q20, .inr (1, [.null, .null, .int (-1), .null])), (q8, .inr (4, [.ref q9, .int 0])), (q10, .inr (4, [.ref q11, .int 0])), (q12, .inr (0, [.ref (z 0), .int 0, .int 0])), (q13, .inr (0, [.ref (z 0), .int 0, .int 0])), (q21, .inr (6, fs)), (q25, .inl (ar 0, 6, .inl (fun _ => 0))), (q22, .inl (ar 0, 72, .inl (fun _ => 0))), (q50, .inl (ar 2, 1, .inr (.inl u57)))] := hD
      refine W.widen (k := 51) (n := 4333) (Nat.le_of_ble_eq_true rfl) (Nat.le_of_ble_eq_true rfl) ?_
      rcases hw with ⟨ha, rfl, hu⟩ | ⟨ha, rfl⟩
      · refine lv_istore (lv' := [(5, .int 0), (4, .int 0), (3, .ref q50), (2, .ref q21), (1, .ref q1), (0, .ref b)]) hx hb d_La_law_115 hl (by decide) rfl (fun ls hl => ?_)
        refine lv_aload_n hx hb d_La_law_117 rfl (lv_at hl 3 rfl) ?_
        refine lv_aload_n hx hb d_La_law_118 rfl (lv_at hl 5 rfl) ?_
        refine lv_iload hx hb d_La_law_119 (lv_at hl 1 rfl) ?_
        refine lv_iconst (v := 1) hx hb d_La_law_121 (by decide) ?_
        refine lv_iadd hx hb d_La_law_122 ?_
        refine W.eq (g2 := F0 m 123 ls [.int 1, .ref b, .ref q21]) rfl ?_
        refine va_sld hx hb hX hbl hbA hS (i := 1) (by unfold vp_in; decide) d_La_law_123 ?_
        refine W.eq (g2 := F0 m 124 ls [.int (xs 1), .ref q21]) (by rw [show Int32.toNatClampNeg (1 : Int32) = 1 from by decide]) ?_
        refine lv_i2l (v := (Int32.toInt64 (xs 1))) hx hb d_La_law_124 rfl ?_
        refine lv_bipush (v := 32) hx hb d_La_law_125 (by decide) ?_
        refine lv_lshl hx hb d_La_law_127 rfl ?_
        refine lv_aload_n hx hb d_La_law_128 rfl (lv_at hl 5 rfl) ?_
        refine lv_iload hx hb d_La_law_129 (lv_at hl 1 rfl) ?_
        refine lv_iconst (v := 2) hx hb d_La_law_131 (by decide) ?_
        refine lv_iadd hx hb d_La_law_132 ?_
        refine W.eq (g2 := F0 m 133 ls [.int 2, .ref b, .long ((Int32.toInt64 (xs 1)) <<< (Int32.toInt64 32 &&& 63)), .ref q21]) rfl ?_
        refine va_sld hx hb hX hbl hbA hS (i := 2) (by unfold vp_in; decide) d_La_law_133 ?_
        refine W.eq (g2 := F0 m 134 ls [.int (xs 2), .long ((Int32.toInt64 (xs 1)) <<< (Int32.toInt64 32 &&& 63)), .ref q21]) (by rw [show Int32.toNatClampNeg (2 : Int32) = 2 from by decide]) ?_
        refine lv_i2l (v := (Int32.toInt64 (xs 2))) hx hb d_La_law_134 rfl ?_
        refine lv_ldc2 hx hb hown (hts _ k_1290) d_La_law_135 ?_
        refine lv_land hx hb d_La_law_138 ?_
        refine lv_lor hx hb d_La_law_139 ?_
        refine W.eq (g2 := F0 m 140 ls [.long eg, .ref q21]) (by rw [heg]) ?_
        have hPc := hP.sub (ws' := [(q21, .inr (6, fs)), (q22, .inl (ar 0, 72, .inl (fun _ => 0)))]) [13, 15] rfl
        have hDc := hD.sub (ws' := [(q21, .inr (6, fs)), (q22, .inl (ar 0, 72, .inl (fun _ => 0)))]) [13, 15] (by decide) rfl
        have hFc := va_free (wc := [(q21, .inr (6, fs)), (q22, .inl (ar 0, 72, .inl (fun _ => 0)))]) hD hS hA [13, 15] rfl
        refine va_calli (va_runV (As := [.long eg]) (rest := []) ⟨hx, hb, hml, hown, hts⟩ (c_Mo_type l dC dI ar N0 z q21 q22 fs eg H.size hfs g_text g_size) (cwV 1 hts (x_goodV k_1109 k_1110 k_1111 k_9 k_1112) rfl rfl rfl (by decide +kernel) ⟨Nat.le_of_ble_eq_true rfl, Nat.le_of_ble_eq_true rfl⟩) ⟨x_blind, va_recv hK hPc (ci := 6) (q0 := 0) rfl rfl, fun U hU9 hW => x_pre hU9 hW hPc hDc hU hZ hS hAN hN0⟩ rfl rfl hl.1 rfl (lv_room (Nat.le_of_ble_eq_true rfl)) d_La_law_140 ⟨Nat.le_of_ble_eq_true rfl, Nat.le_of_ble_eq_true rfl⟩) hS (fun q _ h => hFc q h) hFc (fun r58 u59 t H1 locs ht hvm hw hB hz1 hk1 hS => ?_)
        obtain ⟨fz, hP1, hD1, hfz⟩ := hB
        rw [ht] at hP1
        obtain ⟨hP, hD⟩ := va_join (wr := [(q5, .inr (2, [.ref q6, .ref q7, .ref q8, .ref q10, .ref q12, .ref q13, .ref q14, .int 0, .int 0, .int 0, .long 0])), (q6, .inl (ar 0, 6, .inl (fun _ => 0))), (q7, .inl (ar 4, 6, .inr (.inr (.inr (.inr g))))), (q15, .inr (1, [.null, .null, .int (-1), .null])), (q16, .inr (1, [.null, .null, .int (-1), .null])), (q17, .inr (1, [.null, .null, .int (-1), .null])), (q18, .inr (1, [.null, .null, .int (-1), .null])), (q19, .inr (1, [.null, .null, .int (-1), .null])), (q20, .inr (1, [.null, .null, .int (-1), .null])), (q8, .inr (4, [.ref q9, .int 0])), (q10, .inr (4, [.ref q11, .int 0])), (q12, .inr (0, [.ref (z 0), .int 0, .int 0])), (q13, .inr (0, [.ref (z 0), .int 0, .int 0])), (q25, .inl (ar 0, 6, .inl (fun _ => 0))), (q50, .inl (ar 2, 1, .inr (.inl u57)))]) (w1 := [(q21, .inr (6, fz))]) hP hD [13, 15] [0, 1, 2, 3, 4, 5, 6, 7, 8, 9, 10, 11, 12, 14, 16] rfl rfl (by decide) (by decide) hk1 hFc hP1 hD1
        generalize H1 = H at hP hS ⊢
        have hP : va_P (dC, dI) x_cl [(q5, .inr (2, [.ref q6, .ref q7, .ref q8, .ref q10, .ref q12, .ref q13, .ref q14, .int 0, .int 0, .int 0, .long 0])), (q6, .inl (ar 0, 6, .inl (fun _ => 0))), (q7, .inl (ar 4, 6, .inr (.inr (.inr (.inr g))))), (q15, .inr (1, [.null, .null, .int (-1), .null])), (q16, .inr (1, [.null, .null, .int (-1), .null])), (q17, .inr (1, [.null, .null, .int (-1), .null])), (q18, .inr (1, [.null, .null, .int (-1), .null])), (q19, .inr (1, [.null, .null, .int (-1), .null])), (q20, .inr (1, [.null, .null, .int (-1), .null])), (q8, .inr (4, [.ref q9, .int 0])), (q10, .inr (4, [.ref q11, .int 0])), (q12, .inr (0, [.ref (z 0), .int 0, .int 0])), (q13, .inr (0, [.ref (z 0), .int 0, .int 0])), (q25, .inl (ar 0, 6, .inl (fun _ => 0))), (q50, .inl (ar 2, 1, .inr (.inl u57))), (q21, .inr (6, fz))] H := hP
        have hD : va_D A [(q5, .inr (2, [.ref q6, .ref q7, .ref q8, .ref q10, .ref q12, .ref q13, .ref q14, .int 0, .int 0, .int 0, .long 0])), (q6, .inl (ar 0, 6, .inl (fun _ => 0))), (q7, .inl (ar 4, 6, .inr (.inr (.inr (.inr g))))), (q15, .inr (1, [.null, .null, .int (-1), .null])), (q16, .inr (1, [.null, .null, .int (-1), .null])), (q17, .inr (1, [.null, .null, .int (-1), .null])), (q18, .inr (1, [.null, .null, .int (-1), .null])), (q19, .inr (1, [.null, .null, .int (-1), .null])), (q20, .inr (1, [.null, .null, .int (-1), .null])), (q8, .inr (4, [.ref q9, .int 0])), (q10, .inr (4, [.ref q11, .int 0])), (q12, .inr (0, [.ref (z 0), .int 0, .int 0])), (q13, .inr (0, [.ref (z 0), .int 0, .int 0])), (q25, .inl (ar 0, 6, .inl (fun _ => 0))), (q50, .inl (ar 2, 1, .inr (.inl u57))), (q21, .inr (6, fz))] := hD
        refine W.widen (k := 51) (n := 4333) (Nat.le_of_ble_eq_true rfl) (Nat.le_of_ble_eq_true rfl) ?_
        rcases hw with ⟨hm9, rfl, rfl⟩ | ⟨hm9, rfl⟩
        · refine lv_istore (lv' := [(6, .int (x_cn eg 8)), (5, .int 0), (4, .int 0), (3, .ref q50), (2, .ref q21), (1, .ref q1), (0, .ref b)]) hx hb d_La_law_143 hl (by decide) rfl (fun ls hl => ?_)
          refine lv_aload_n hx hb d_La_law_145 rfl (lv_at hl 4 rfl) ?_
          have hPc := hP.sub (ws' := [(q21, .inr (6, fz))]) [15] rfl
          have hDc := hD.sub (ws' := [(q21, .inr (6, fz))]) [15] (by decide) rfl
          have hFc := va_free (wc := [(q21, .inr (6, fz))]) hD hS hA [15] rfl
          refine va_calli (va_runV (As := []) (rest := []) ⟨hx, hb, hml, hown, hts⟩ (c_Mo_thrown l dC dI ar N0 z q21 fz (0) H.size hfz) (cwV 0 hts (x_goodV k_1105 k_1106 k_1107 k_9 k_1108) rfl rfl rfl (by decide +kernel) ⟨Nat.le_of_ble_eq_true rfl, Nat.le_of_ble_eq_true rfl⟩) ⟨x_blind, va_recv hK hPc (ci := 6) (q0 := 0) rfl rfl, fun U hU9 hW => x_pre hU9 hW hPc hDc hU hZ hS hAN hN0⟩ rfl rfl hl.1 rfl (lv_room (Nat.le_of_ble_eq_true rfl)) d_La_law_146 ⟨Nat.le_of_ble_eq_true rfl, Nat.le_of_ble_eq_true rfl⟩) hS (fun q _ h => hFc q h) hFc (fun r60 u61 t H1 locs ht hvm hw hB hz1 hk1 hS => ?_)
          obtain ⟨hP1, hD1⟩ := hB
          rw [ht] at hP1
          obtain ⟨hP, hD⟩ := va_join (wr := [(q5, .inr (2, [.ref q6, .ref q7, .ref q8, .ref q10, .ref q12, .ref q13, .ref q14, .int 0, .int 0, .int 0, .long 0])), (q6, .inl (ar 0, 6, .inl (fun _ => 0))), (q7, .inl (ar 4, 6, .inr (.inr (.inr (.inr g))))), (q15, .inr (1, [.null, .null, .int (-1), .null])), (q16, .inr (1, [.null, .null, .int (-1), .null])), (q17, .inr (1, [.null, .null, .int (-1), .null])), (q18, .inr (1, [.null, .null, .int (-1), .null])), (q19, .inr (1, [.null, .null, .int (-1), .null])), (q20, .inr (1, [.null, .null, .int (-1), .null])), (q8, .inr (4, [.ref q9, .int 0])), (q10, .inr (4, [.ref q11, .int 0])), (q12, .inr (0, [.ref (z 0), .int 0, .int 0])), (q13, .inr (0, [.ref (z 0), .int 0, .int 0])), (q25, .inl (ar 0, 6, .inl (fun _ => 0))), (q50, .inl (ar 2, 1, .inr (.inl u57)))]) (w1 := [(q21, .inr (6, fz))]) hP hD [15] [0, 1, 2, 3, 4, 5, 6, 7, 8, 9, 10, 11, 12, 13, 14] rfl rfl (by decide) (by decide) hk1 hFc hP1 hD1
          generalize H1 = H at hP hS ⊢
          have hP : va_P (dC, dI) x_cl [(q5, .inr (2, [.ref q6, .ref q7, .ref q8, .ref q10, .ref q12, .ref q13, .ref q14, .int 0, .int 0, .int 0, .long 0])), (q6, .inl (ar 0, 6, .inl (fun _ => 0))), (q7, .inl (ar 4, 6, .inr (.inr (.inr (.inr g))))), (q15, .inr (1, [.null, .null, .int (-1), .null])), (q16, .inr (1, [.null, .null, .int (-1), .null])), (q17, .inr (1, [.null, .null, .int (-1), .null])), (q18, .inr (1, [.null, .null, .int (-1), .null])), (q19, .inr (1, [.null, .null, .int (-1), .null])), (q20, .inr (1, [.null, .null, .int (-1), .null])), (q8, .inr (4, [.ref q9, .int 0])), (q10, .inr (4, [.ref q11, .int 0])), (q12, .inr (0, [.ref (z 0), .int 0, .int 0])), (q13, .inr (0, [.ref (z 0), .int 0, .int 0])), (q25, .inl (ar 0, 6, .inl (fun _ => 0))), (q50, .inl (ar 2, 1, .inr (.inl u57))), (q21, .inr (6, fz))] H := hP
          have hD : va_D A [(q5, .inr (2, [.ref q6, .ref q7, .ref q8, .ref q10, .ref q12, .ref q13, .ref q14, .int 0, .int 0, .int 0, .long 0])), (q6, .inl (ar 0, 6, .inl (fun _ => 0))), (q7, .inl (ar 4, 6, .inr (.inr (.inr (.inr g))))), (q15, .inr (1, [.null, .null, .int (-1), .null])), (q16, .inr (1, [.null, .null, .int (-1), .null])), (q17, .inr (1, [.null, .null, .int (-1), .null])), (q18, .inr (1, [.null, .null, .int (-1), .null])), (q19, .inr (1, [.null, .null, .int (-1), .null])), (q20, .inr (1, [.null, .null, .int (-1), .null])), (q8, .inr (4, [.ref q9, .int 0])), (q10, .inr (4, [.ref q11, .int 0])), (q12, .inr (0, [.ref (z 0), .int 0, .int 0])), (q13, .inr (0, [.ref (z 0), .int 0, .int 0])), (q25, .inl (ar 0, 6, .inl (fun _ => 0))), (q50, .inl (ar 2, 1, .inr (.inl u57))), (q21, .inr (6, fz))] := hD
          refine W.widen (k := 51) (n := 4333) (Nat.le_of_ble_eq_true rfl) (Nat.le_of_ble_eq_true rfl) ?_
          obtain rfl := hw
          refine lv_iload hx hb d_La_law_149 (lv_at hl 1 rfl) ?_
          refine lv_icmp_eq (tgt := 156) hx hb d_La_law_151 (by decide) (fun _ => ?_) (fun c62 => absurd (by decide) c62)
          refine lv_iload hx hb d_La_law_156 (lv_at hl 1 rfl) ?_
          refine lv_if_ne (tgt := 173) hx hb d_La_law_158 (by decide) (fun c63 => absurd rfl c63) (fun _ => ?_)
          refine lv_aload_n hx hb d_La_law_161 rfl (lv_at hl 3 rfl) ?_
          refine lv_iconst (v := 0) hx hb d_La_law_162 (by decide) ?_
          refine va_lald hx hb hK hP 14 2 rfl rfl (by unfold vp_in; decide) d_La_law_163 ?_
          refine W.eq (g2 := F0 m 164 ls [.long (Int32.toInt64 (x_cn eg 8))]) (by rw [show Int32.toNatClampNeg (0 : Int32) = 0 from by decide, hu]) ?_
          refine lv_iload hx hb d_La_law_164 (lv_at hl 0 rfl) ?_
          refine lv_i2l (v := (Int32.toInt64 (x_cn eg 8))) hx hb d_La_law_166 rfl ?_
          refine W.lcmp hx hb d_La_law_167 ?_
          refine W.eq (g2 := F0 m 168 ls [.int 0]) (by rw [x_lc]) ?_
          refine lv_if_eq (tgt := 173) hx hb d_La_law_168 (by decide) (fun _ => ?_) (fun c64 => absurd (by decide) c64)
          refine lv_goto (tgt := 561) hx hb d_La_law_173 (by decide) ?_
          refine lv_iinc (v := 3) (lv' := [(4, .int 3), (6, .int (x_cn eg 8)), (5, .int 0), (3, .ref q50), (2, .ref q21), (1, .ref q1), (0, .ref b)]) hx hb d_La_law_561 hl (k := 2) rfl (by decide) (by decide) rfl (fun ls hl => ?_)
          refine lv_goto (tgt := 23) hx hb d_La_law_564 (by decide) ?_
          refine lv_iload hx hb d_La_law_23 (lv_at hl 0 rfl) ?_
          refine lv_aload_n hx hb d_La_law_25 rfl (lv_at hl 6 rfl) ?_
          refine va_slen hx hb hX hbl hbA hS d_La_law_26 ?_
          refine lv_iconst (v := 3) hx hb d_La_law_27 (by decide) ?_
          refine lv_isub hx hb d_La_law_28 ?_
          refine W.eq (g2 := F0 m 29 ls [.int 0, .int 3]) (by rw [show (Int32.ofNat 3 - 3 : Int32) = 0 from by decide]) ?_
          refine lv_icmp_gt (tgt := 567) hx hb d_La_law_29 (by decide) (fun _ => ?_) (fun c65 => absurd (by decide) c65)
          refine lv_iconst (v := 1) hx hb d_La_law_567 (by decide) ?_
          refine va_forget (fun q h => by rw [← hNe]; exact hAN _ (hS.2.2 q h)) ?_
          refine W.widen (k := 600002) (n := 7302232) (Nat.le_of_ble_eq_true rfl) (Nat.le_of_ble_eq_true rfl) ?_
          exact lw_ret hx hb hr hlocks d_La_law_568
        · exact absurd ha hm9
      · refine lv_istore (lv' := [(5, .int 1), (4, .int 0), (3, .ref q50), (2, .ref q21), (1, .ref q1), (0, .ref b)]) hx hb d_La_law_115 hl (by decide) rfl (fun ls hl => ?_)
        refine lv_aload_n hx hb d_La_law_117 rfl (lv_at hl 3 rfl) ?_
        refine lv_aload_n hx hb d_La_law_118 rfl (lv_at hl 5 rfl) ?_
        refine lv_iload hx hb d_La_law_119 (lv_at hl 1 rfl) ?_
        refine lv_iconst (v := 1) hx hb d_La_law_121 (by decide) ?_
        refine lv_iadd hx hb d_La_law_122 ?_
        refine W.eq (g2 := F0 m 123 ls [.int 1, .ref b, .ref q21]) rfl ?_
        refine va_sld hx hb hX hbl hbA hS (i := 1) (by unfold vp_in; decide) d_La_law_123 ?_
        refine W.eq (g2 := F0 m 124 ls [.int (xs 1), .ref q21]) (by rw [show Int32.toNatClampNeg (1 : Int32) = 1 from by decide]) ?_
        refine lv_i2l (v := (Int32.toInt64 (xs 1))) hx hb d_La_law_124 rfl ?_
        refine lv_bipush (v := 32) hx hb d_La_law_125 (by decide) ?_
        refine lv_lshl hx hb d_La_law_127 rfl ?_
        refine lv_aload_n hx hb d_La_law_128 rfl (lv_at hl 5 rfl) ?_
        refine lv_iload hx hb d_La_law_129 (lv_at hl 1 rfl) ?_
        refine lv_iconst (v := 2) hx hb d_La_law_131 (by decide) ?_
        refine lv_iadd hx hb d_La_law_132 ?_
        refine W.eq (g2 := F0 m 133 ls [.int 2, .ref b, .long ((Int32.toInt64 (xs 1)) <<< (Int32.toInt64 32 &&& 63)), .ref q21]) rfl ?_
        refine va_sld hx hb hX hbl hbA hS (i := 2) (by unfold vp_in; decide) d_La_law_133 ?_
        refine W.eq (g2 := F0 m 134 ls [.int (xs 2), .long ((Int32.toInt64 (xs 1)) <<< (Int32.toInt64 32 &&& 63)), .ref q21]) (by rw [show Int32.toNatClampNeg (2 : Int32) = 2 from by decide]) ?_
        refine lv_i2l (v := (Int32.toInt64 (xs 2))) hx hb d_La_law_134 rfl ?_
        refine lv_ldc2 hx hb hown (hts _ k_1290) d_La_law_135 ?_
        refine lv_land hx hb d_La_law_138 ?_
        refine lv_lor hx hb d_La_law_139 ?_
        refine W.eq (g2 := F0 m 140 ls [.long eg, .ref q21]) (by rw [heg]) ?_
        have hPc := hP.sub (ws' := [(q21, .inr (6, fs)), (q22, .inl (ar 0, 72, .inl (fun _ => 0)))]) [13, 15] rfl
        have hDc := hD.sub (ws' := [(q21, .inr (6, fs)), (q22, .inl (ar 0, 72, .inl (fun _ => 0)))]) [13, 15] (by decide) rfl
        have hFc := va_free (wc := [(q21, .inr (6, fs)), (q22, .inl (ar 0, 72, .inl (fun _ => 0)))]) hD hS hA [13, 15] rfl
        refine va_calli (va_runV (As := [.long eg]) (rest := []) ⟨hx, hb, hml, hown, hts⟩ (c_Mo_type l dC dI ar N0 z q21 q22 fs eg H.size hfs g_text g_size) (cwV 1 hts (x_goodV k_1109 k_1110 k_1111 k_9 k_1112) rfl rfl rfl (by decide +kernel) ⟨Nat.le_of_ble_eq_true rfl, Nat.le_of_ble_eq_true rfl⟩) ⟨x_blind, va_recv hK hPc (ci := 6) (q0 := 0) rfl rfl, fun U hU9 hW => x_pre hU9 hW hPc hDc hU hZ hS hAN hN0⟩ rfl rfl hl.1 rfl (lv_room (Nat.le_of_ble_eq_true rfl)) d_La_law_140 ⟨Nat.le_of_ble_eq_true rfl, Nat.le_of_ble_eq_true rfl⟩) hS (fun q _ h => hFc q h) hFc (fun r66 u67 t H1 locs ht hvm hw hB hz1 hk1 hS => ?_)
        obtain ⟨fz, hP1, hD1, hfz⟩ := hB
        rw [ht] at hP1
        obtain ⟨hP, hD⟩ := va_join (wr := [(q5, .inr (2, [.ref q6, .ref q7, .ref q8, .ref q10, .ref q12, .ref q13, .ref q14, .int 0, .int 0, .int 0, .long 0])), (q6, .inl (ar 0, 6, .inl (fun _ => 0))), (q7, .inl (ar 4, 6, .inr (.inr (.inr (.inr g))))), (q15, .inr (1, [.null, .null, .int (-1), .null])), (q16, .inr (1, [.null, .null, .int (-1), .null])), (q17, .inr (1, [.null, .null, .int (-1), .null])), (q18, .inr (1, [.null, .null, .int (-1), .null])), (q19, .inr (1, [.null, .null, .int (-1), .null])), (q20, .inr (1, [.null, .null, .int (-1), .null])), (q8, .inr (4, [.ref q9, .int 0])), (q10, .inr (4, [.ref q11, .int 0])), (q12, .inr (0, [.ref (z 0), .int 0, .int 0])), (q13, .inr (0, [.ref (z 0), .int 0, .int 0])), (q25, .inl (ar 0, 6, .inl (fun _ => 0))), (q50, .inl (ar 2, 1, .inr (.inl u57)))]) (w1 := [(q21, .inr (6, fz))]) hP hD [13, 15] [0, 1, 2, 3, 4, 5, 6, 7, 8, 9, 10, 11, 12, 14, 16] rfl rfl (by decide) (by decide) hk1 hFc hP1 hD1
        generalize H1 = H at hP hS ⊢
        have hP : va_P (dC, dI) x_cl [(q5, .inr (2, [.ref q6, .ref q7, .ref q8, .ref q10, .ref q12, .ref q13, .ref q14, .int 0, .int 0, .int 0, .long 0])), (q6, .inl (ar 0, 6, .inl (fun _ => 0))), (q7, .inl (ar 4, 6, .inr (.inr (.inr (.inr g))))), (q15, .inr (1, [.null, .null, .int (-1), .null])), (q16, .inr (1, [.null, .null, .int (-1), .null])), (q17, .inr (1, [.null, .null, .int (-1), .null])), (q18, .inr (1, [.null, .null, .int (-1), .null])), (q19, .inr (1, [.null, .null, .int (-1), .null])), (q20, .inr (1, [.null, .null, .int (-1), .null])), (q8, .inr (4, [.ref q9, .int 0])), (q10, .inr (4, [.ref q11, .int 0])), (q12, .inr (0, [.ref (z 0), .int 0, .int 0])), (q13, .inr (0, [.ref (z 0), .int 0, .int 0])), (q25, .inl (ar 0, 6, .inl (fun _ => 0))), (q50, .inl (ar 2, 1, .inr (.inl u57))), (q21, .inr (6, fz))] H := hP
        have hD : va_D A [(q5, .inr (2, [.ref q6, .ref q7, .ref q8, .ref q10, .ref q12, .ref q13, .ref q14, .int 0, .int 0, .int 0, .long 0])), (q6, .inl (ar 0, 6, .inl (fun _ => 0))), (q7, .inl (ar 4, 6, .inr (.inr (.inr (.inr g))))), (q15, .inr (1, [.null, .null, .int (-1), .null])), (q16, .inr (1, [.null, .null, .int (-1), .null])), (q17, .inr (1, [.null, .null, .int (-1), .null])), (q18, .inr (1, [.null, .null, .int (-1), .null])), (q19, .inr (1, [.null, .null, .int (-1), .null])), (q20, .inr (1, [.null, .null, .int (-1), .null])), (q8, .inr (4, [.ref q9, .int 0])), (q10, .inr (4, [.ref q11, .int 0])), (q12, .inr (0, [.ref (z 0), .int 0, .int 0])), (q13, .inr (0, [.ref (z 0), .int 0, .int 0])), (q25, .inl (ar 0, 6, .inl (fun _ => 0))), (q50, .inl (ar 2, 1, .inr (.inl u57))), (q21, .inr (6, fz))] := hD
        refine W.widen (k := 51) (n := 4333) (Nat.le_of_ble_eq_true rfl) (Nat.le_of_ble_eq_true rfl) ?_
        rcases hw with ⟨hm9, rfl, rfl⟩ | ⟨hm9, rfl⟩
        · exact absurd hm9 ha
        · refine lv_istore (lv' := [(6, .int r66), (5, .int 1), (4, .int 0), (3, .ref q50), (2, .ref q21), (1, .ref q1), (0, .ref b)]) hx hb d_La_law_143 hl (by decide) rfl (fun ls hl => ?_)
          refine lv_aload_n hx hb d_La_law_145 rfl (lv_at hl 4 rfl) ?_
          have hPc := hP.sub (ws' := [(q21, .inr (6, fz))]) [15] rfl
          have hDc := hD.sub (ws' := [(q21, .inr (6, fz))]) [15] (by decide) rfl
          have hFc := va_free (wc := [(q21, .inr (6, fz))]) hD hS hA [15] rfl
          refine va_calli (va_runV (As := []) (rest := []) ⟨hx, hb, hml, hown, hts⟩ (c_Mo_thrown l dC dI ar N0 z q21 fz (1) H.size hfz) (cwV 0 hts (x_goodV k_1105 k_1106 k_1107 k_9 k_1108) rfl rfl rfl (by decide +kernel) ⟨Nat.le_of_ble_eq_true rfl, Nat.le_of_ble_eq_true rfl⟩) ⟨x_blind, va_recv hK hPc (ci := 6) (q0 := 0) rfl rfl, fun U hU9 hW => x_pre hU9 hW hPc hDc hU hZ hS hAN hN0⟩ rfl rfl hl.1 rfl (lv_room (Nat.le_of_ble_eq_true rfl)) d_La_law_146 ⟨Nat.le_of_ble_eq_true rfl, Nat.le_of_ble_eq_true rfl⟩) hS (fun q _ h => hFc q h) hFc (fun r68 u69 t H1 locs ht hvm hw hB hz1 hk1 hS => ?_)
          obtain ⟨hP1, hD1⟩ := hB
          rw [ht] at hP1
          obtain ⟨hP, hD⟩ := va_join (wr := [(q5, .inr (2, [.ref q6, .ref q7, .ref q8, .ref q10, .ref q12, .ref q13, .ref q14, .int 0, .int 0, .int 0, .long 0])), (q6, .inl (ar 0, 6, .inl (fun _ => 0))), (q7, .inl (ar 4, 6, .inr (.inr (.inr (.inr g))))), (q15, .inr (1, [.null, .null, .int (-1), .null])), (q16, .inr (1, [.null, .null, .int (-1), .null])), (q17, .inr (1, [.null, .null, .int (-1), .null])), (q18, .inr (1, [.null, .null, .int (-1), .null])), (q19, .inr (1, [.null, .null, .int (-1), .null])), (q20, .inr (1, [.null, .null, .int (-1), .null])), (q8, .inr (4, [.ref q9, .int 0])), (q10, .inr (4, [.ref q11, .int 0])), (q12, .inr (0, [.ref (z 0), .int 0, .int 0])), (q13, .inr (0, [.ref (z 0), .int 0, .int 0])), (q25, .inl (ar 0, 6, .inl (fun _ => 0))), (q50, .inl (ar 2, 1, .inr (.inl u57)))]) (w1 := [(q21, .inr (6, fz))]) hP hD [15] [0, 1, 2, 3, 4, 5, 6, 7, 8, 9, 10, 11, 12, 13, 14] rfl rfl (by decide) (by decide) hk1 hFc hP1 hD1
          generalize H1 = H at hP hS ⊢
          have hP : va_P (dC, dI) x_cl [(q5, .inr (2, [.ref q6, .ref q7, .ref q8, .ref q10, .ref q12, .ref q13, .ref q14, .int 0, .int 0, .int 0, .long 0])), (q6, .inl (ar 0, 6, .inl (fun _ => 0))), (q7, .inl (ar 4, 6, .inr (.inr (.inr (.inr g))))), (q15, .inr (1, [.null, .null, .int (-1), .null])), (q16, .inr (1, [.null, .null, .int (-1), .null])), (q17, .inr (1, [.null, .null, .int (-1), .null])), (q18, .inr (1, [.null, .null, .int (-1), .null])), (q19, .inr (1, [.null, .null, .int (-1), .null])), (q20, .inr (1, [.null, .null, .int (-1), .null])), (q8, .inr (4, [.ref q9, .int 0])), (q10, .inr (4, [.ref q11, .int 0])), (q12, .inr (0, [.ref (z 0), .int 0, .int 0])), (q13, .inr (0, [.ref (z 0), .int 0, .int 0])), (q25, .inl (ar 0, 6, .inl (fun _ => 0))), (q50, .inl (ar 2, 1, .inr (.inl u57))), (q21, .inr (6, fz))] H := hP
          have hD : va_D A [(q5, .inr (2, [.ref q6, .ref q7, .ref q8, .ref q10, .ref q12, .ref q13, .ref q14, .int 0, .int 0, .int 0, .long 0])), (q6, .inl (ar 0, 6, .inl (fun _ => 0))), (q7, .inl (ar 4, 6, .inr (.inr (.inr (.inr g))))), (q15, .inr (1, [.null, .null, .int (-1), .null])), (q16, .inr (1, [.null, .null, .int (-1), .null])), (q17, .inr (1, [.null, .null, .int (-1), .null])), (q18, .inr (1, [.null, .null, .int (-1), .null])), (q19, .inr (1, [.null, .null, .int (-1), .null])), (q20, .inr (1, [.null, .null, .int (-1), .null])), (q8, .inr (4, [.ref q9, .int 0])), (q10, .inr (4, [.ref q11, .int 0])), (q12, .inr (0, [.ref (z 0), .int 0, .int 0])), (q13, .inr (0, [.ref (z 0), .int 0, .int 0])), (q25, .inl (ar 0, 6, .inl (fun _ => 0))), (q50, .inl (ar 2, 1, .inr (.inl u57))), (q21, .inr (6, fz))] := hD
          refine W.widen (k := 51) (n := 4333) (Nat.le_of_ble_eq_true rfl) (Nat.le_of_ble_eq_true rfl) ?_
          obtain rfl := hw
          refine lv_iload hx hb d_La_law_149 (lv_at hl 1 rfl) ?_
          refine lv_icmp_eq (tgt := 156) hx hb d_La_law_151 (by decide) (fun _ => ?_) (fun c70 => absurd (by decide) c70)
          refine lv_iload hx hb d_La_law_156 (lv_at hl 1 rfl) ?_
          refine lv_if_ne (tgt := 173) hx hb d_La_law_158 (by decide) (fun _ => ?_) (fun c71 => absurd c71 (by decide))
          refine lv_goto (tgt := 561) hx hb d_La_law_173 (by decide) ?_
          refine lv_iinc (v := 3) (lv' := [(4, .int 3), (6, .int r66), (5, .int 1), (3, .ref q50), (2, .ref q21), (1, .ref q1), (0, .ref b)]) hx hb d_La_law_561 hl (k := 2) rfl (by decide) (by decide) rfl (fun ls hl => ?_)
          refine lv_goto (tgt := 23) hx hb d_La_law_564 (by decide) ?_
          refine lv_iload hx hb d_La_law_23 (lv_at hl 0 rfl) ?_
          refine lv_aload_n hx hb d_La_law_25 rfl (lv_at hl 6 rfl) ?_
          refine va_slen hx hb hX hbl hbA hS d_La_law_26 ?_
          refine lv_iconst (v := 3) hx hb d_La_law_27 (by decide) ?_
          refine lv_isub hx hb d_La_law_28 ?_
          refine W.eq (g2 := F0 m 29 ls [.int 0, .int 3]) (by rw [show (Int32.ofNat 3 - 3 : Int32) = 0 from by decide]) ?_
          refine lv_icmp_gt (tgt := 567) hx hb d_La_law_29 (by decide) (fun _ => ?_) (fun c72 => absurd (by decide) c72)
          refine lv_iconst (v := 1) hx hb d_La_law_567 (by decide) ?_
          refine va_forget (fun q h => by rw [← hNe]; exact hAN _ (hS.2.2 q h)) ?_
          refine W.widen (k := 600002) (n := 7302232) (Nat.le_of_ble_eq_true rfl) (Nat.le_of_ble_eq_true rfl) ?_
          exact lw_ret hx hb hr hlocks d_La_law_568
    · refine lv_tableIn (tgt := 176) hx hb d_La_law_39 (by decide) (by decide) (off := 137) rfl (by decide) ?_
      refine lv_aload_n hx hb d_La_law_176 rfl (lv_at hl 3 rfl) ?_
      refine lv_aload_n hx hb d_La_law_177 rfl (lv_at hl 1 rfl) ?_
      have hPc := hP.sub (ws' := [(q50, .inl (ar 2, 1, .inr (.inl (fun _ => 0)))), (q1, .inr (5, [.ref q2, .ref q5, .int (-1)])), (q2, .inr (3, [.ref q3, .ref q4, .int 0, .int 0, .int 0, .int 0, .int 0, .int 0, .null]))]) [0, 1, 15] rfl
      have hDc := hD.sub (ws' := [(q50, .inl (ar 2, 1, .inr (.inl (fun _ => 0)))), (q1, .inr (5, [.ref q2, .ref q5, .int (-1)])), (q2, .inr (3, [.ref q3, .ref q4, .int 0, .int 0, .int 0, .int 0, .int 0, .int 0, .null]))]) [0, 1, 15] (by decide) rfl
      have hFc := va_free (wc := [(q50, .inl (ar 2, 1, .inr (.inl (fun _ => 0)))), (q1, .inr (5, [.ref q2, .ref q5, .int (-1)])), (q2, .inr (3, [.ref q3, .ref q4, .int 0, .int 0, .int 0, .int 0, .int 0, .int 0, .null]))]) hD hS hA [0, 1, 15] rfl
      refine va_calli (vx_runSW (As := [.ref q1, .ref q50]) (rest := []) ⟨hx, hb, hml, hown, hts⟩ (c_La_load l hst dC dI ar N0 z q50 q1 q2 q5 q6 q7 q8 q10 q12 q13 q14 q3 q4 H.size ) (vx_cwSW 2 hts (x_goodSW k_319 k_320 k_0 k_321) rfl rfl rfl (by decide +kernel) ⟨Nat.le_of_ble_eq_true rfl, Nat.le_of_ble_eq_true rfl⟩) ⟨x_blind, fun U hU9 hW => x_pre hU9 hW hPc hDc hU hZ hS hAN hN0⟩ rfl rfl hl.1 rfl (lv_room (Nat.le_of_ble_eq_true rfl)) d_La_law_178 ⟨Nat.le_of_ble_eq_true rfl, Nat.le_of_ble_eq_true rfl⟩) hS (fun q _ h => hFc q h) hFc (fun r73 u74 t H1 locs ht hvm hw hB hz1 hk1 hS => ?_)
      obtain ⟨hP1, hD1⟩ := hB
      rw [ht] at hP1
      obtain ⟨hP, hD⟩ := va_join (wr := [(q5, .inr (2, [.ref q6, .ref q7, .ref q8, .ref q10, .ref q12, .ref q13, .ref q14, .int 0, .int 0, .int 0, .long 0])), (q6, .inl (ar 0, 6, .inl (fun _ => 0))), (q7, .inl (ar 4, 6, .inr (.inr (.inr (.inr g))))), (q15, .inr (1, [.null, .null, .int (-1), .null])), (q16, .inr (1, [.null, .null, .int (-1), .null])), (q17, .inr (1, [.null, .null, .int (-1), .null])), (q18, .inr (1, [.null, .null, .int (-1), .null])), (q19, .inr (1, [.null, .null, .int (-1), .null])), (q20, .inr (1, [.null, .null, .int (-1), .null])), (q8, .inr (4, [.ref q9, .int 0])), (q10, .inr (4, [.ref q11, .int 0])), (q12, .inr (0, [.ref (z 0), .int 0, .int 0])), (q13, .inr (0, [.ref (z 0), .int 0, .int 0])), (q3, .inl (ar 1, 72, .inl (fun _ => 0))), (q21, .inr (6, fs)), (q25, .inl (ar 0, 6, .inl (fun _ => 0))), (q22, .inl (ar 0, 72, .inl (fun _ => 0)))]) (w1 := [(q50, .inl (ar 2, 1, .inr (.inl u74)))]) hP hD [0, 1, 15] [2, 3, 4, 5, 6, 7, 8, 9, 10, 11, 12, 13, 14, 16, 17, 18, 19] rfl rfl (by decide) (by decide) hk1 hFc hP1 hD1
      generalize H1 = H at hP hS ⊢
      have hP : va_P (dC, dI) x_cl [(q5, .inr (2, [.ref q6, .ref q7, .ref q8, .ref q10, .ref q12, .ref q13, .ref q14, .int 0, .int 0, .int 0, .long 0])), (q6, .inl (ar 0, 6, .inl (fun _ => 0))), (q7, .inl (ar 4, 6, .inr (.inr (.inr (.inr g))))), (q15, .inr (1, [.null, .null, .int (-1), .null])), (q16, .inr (1, [.null, .null, .int (-1), .null])), (q17, .inr (1, [.null, .null, .int (-1), .null])), (q18, .inr (1, [.null, .null, .int (-1), .null])), (q19, .inr (1, [.null, .null, .int (-1), .null])), (q20, .inr (1, [.null, .null, .int (-1), .null])), (q8, .inr (4, [.ref q9, .int 0])), (q10, .inr (4, [.ref q11, .int 0])), (q12, .inr (0, [.ref (z 0), .int 0, .int 0])), (q13, .inr (0, [.ref (z 0), .int 0, .int 0])), (q3, .inl (ar 1, 72, .inl (fun _ => 0))), (q21, .inr (6, fs)), (q25, .inl (ar 0, 6, .inl (fun _ => 0))), (q22, .inl (ar 0, 72, .inl (fun _ => 0))), (q50, .inl (ar 2, 1, .inr (.inl u74)))] H := hP
      have hD : va_D A [(q5, .inr (2, [.ref q6, .ref q7, .ref q8, .ref q10, .ref q12, .ref q13, .ref q14, .int 0, .int 0, .int 0, .long 0])), (q6, .inl (ar 0, 6, .inl (fun _ => 0))), (q7, .inl (ar 4, 6, .inr (.inr (.inr (.inr g))))), (q15, .inr (1, [.null, .null, .int (-1), .null])), (q16, .inr (1, [.null, .null, .int (-1), .null])), (q17, .inr (1, [.null, .null, .int (-1), .null])), (q18, .inr (1, [.null, .null, .int (-1), .null])), (q19, .inr (1, [.null, .null, .int (-1), .null])), (q20, .inr (1, [.null, .null, .int (-1), .null])), (q8, .inr (4, [.ref q9, .int 0])), (q10, .inr (4, [.ref q11, .int 0])), (q12, .inr (0, [.ref (z 0), .int 0, .int 0])), (q13, .inr (0, [.ref (z 0), .int 0, .int 0])), (q3, .inl (ar 1, 72, .inl (fun _ => 0))), (q21, .inr (6, fs)), (q25, .inl (ar 0, 6, .inl (fun _ => 0))), (q22, .inl (ar 0, 72, .inl (fun _ => 0))), (q50, .inl (ar 2, 1, .inr (.inl u74)))] := hD
      refine W.widen (k := 51) (n := 4333) (Nat.le_of_ble_eq_true rfl) (Nat.le_of_ble_eq_true rfl) ?_
      obtain rfl := hw
      refine lv_istore (lv' := [(5, .int 1), (4, .int 0), (3, .ref q50), (2, .ref q21), (1, .ref q1), (0, .ref b)]) hx hb d_La_law_181 hl (by decide) rfl (fun ls hl => ?_)
      refine lv_aload_n hx hb d_La_law_183 rfl (lv_at hl 3 rfl) ?_
      have hPc := hP.sub (ws' := [(q21, .inr (6, fs))]) [14] rfl
      have hDc := hD.sub (ws' := [(q21, .inr (6, fs))]) [14] (by decide) rfl
      have hFc := va_free (wc := [(q21, .inr (6, fs))]) hD hS hA [14] rfl
      refine va_calli (va_runV (As := []) (rest := []) ⟨hx, hb, hml, hown, hts⟩ (c_Mo_load l dC dI ar N0 z q21  fs  H.size hfs g_size) (cwV 0 hts (x_goodV k_1124 k_1125 k_1126 k_9 k_1127) rfl rfl rfl (by decide +kernel) ⟨Nat.le_of_ble_eq_true rfl, Nat.le_of_ble_eq_true rfl⟩) ⟨x_blind, va_recv hK hPc (ci := 6) (q0 := 0) rfl rfl, fun U hU9 hW => x_pre hU9 hW hPc hDc hU hZ hS hAN hN0⟩ rfl rfl hl.1 rfl (lv_room (Nat.le_of_ble_eq_true rfl)) d_La_law_184 ⟨Nat.le_of_ble_eq_true rfl, Nat.le_of_ble_eq_true rfl⟩) hS (fun q _ h => hFc q h) hFc (fun r75 u76 t H1 locs ht hvm hw hB hz1 hk1 hS => ?_)
      obtain ⟨fz, hP1, hD1, hfz⟩ := hB
      rw [ht] at hP1
      obtain ⟨hP, hD⟩ := va_join (wr := [(q5, .inr (2, [.ref q6, .ref q7, .ref q8, .ref q10, .ref q12, .ref q13, .ref q14, .int 0, .int 0, .int 0, .long 0])), (q6, .inl (ar 0, 6, .inl (fun _ => 0))), (q7, .inl (ar 4, 6, .inr (.inr (.inr (.inr g))))), (q15, .inr (1, [.null, .null, .int (-1), .null])), (q16, .inr (1, [.null, .null, .int (-1), .null])), (q17, .inr (1, [.null, .null, .int (-1), .null])), (q18, .inr (1, [.null, .null, .int (-1), .null])), (q19, .inr (1, [.null, .null, .int (-1), .null])), (q20, .inr (1, [.null, .null, .int (-1), .null])), (q8, .inr (4, [.ref q9, .int 0])), (q10, .inr (4, [.ref q11, .int 0])), (q12, .inr (0, [.ref (z 0), .int 0, .int 0])), (q13, .inr (0, [.ref (z 0), .int 0, .int 0])), (q3, .inl (ar 1, 72, .inl (fun _ => 0))), (q25, .inl (ar 0, 6, .inl (fun _ => 0))), (q22, .inl (ar 0, 72, .inl (fun _ => 0))), (q50, .inl (ar 2, 1, .inr (.inl u74)))]) (w1 := [(q21, .inr (6, fz))]) hP hD [14] [0, 1, 2, 3, 4, 5, 6, 7, 8, 9, 10, 11, 12, 13, 15, 16, 17] rfl rfl (by decide) (by decide) hk1 hFc hP1 hD1
      generalize H1 = H at hP hS ⊢
      have hP : va_P (dC, dI) x_cl [(q5, .inr (2, [.ref q6, .ref q7, .ref q8, .ref q10, .ref q12, .ref q13, .ref q14, .int 0, .int 0, .int 0, .long 0])), (q6, .inl (ar 0, 6, .inl (fun _ => 0))), (q7, .inl (ar 4, 6, .inr (.inr (.inr (.inr g))))), (q15, .inr (1, [.null, .null, .int (-1), .null])), (q16, .inr (1, [.null, .null, .int (-1), .null])), (q17, .inr (1, [.null, .null, .int (-1), .null])), (q18, .inr (1, [.null, .null, .int (-1), .null])), (q19, .inr (1, [.null, .null, .int (-1), .null])), (q20, .inr (1, [.null, .null, .int (-1), .null])), (q8, .inr (4, [.ref q9, .int 0])), (q10, .inr (4, [.ref q11, .int 0])), (q12, .inr (0, [.ref (z 0), .int 0, .int 0])), (q13, .inr (0, [.ref (z 0), .int 0, .int 0])), (q3, .inl (ar 1, 72, .inl (fun _ => 0))), (q25, .inl (ar 0, 6, .inl (fun _ => 0))), (q22, .inl (ar 0, 72, .inl (fun _ => 0))), (q50, .inl (ar 2, 1, .inr (.inl u74))), (q21, .inr (6, fz))] H := hP
      have hD : va_D A [(q5, .inr (2, [.ref q6, .ref q7, .ref q8, .ref q10, .ref q12, .ref q13, .ref q14, .int 0, .int 0, .int 0, .long 0])), (q6, .inl (ar 0, 6, .inl (fun _ => 0))), (q7, .inl (ar 4, 6, .inr (.inr (.inr (.inr g))))), (q15, .inr (1, [.null, .null, .int (-1), .null])), (q16, .inr (1, [.null, .null, .int (-1), .null])), (q17, .inr (1, [.null, .null, .int (-1), .null])), (q18, .inr (1, [.null, .null, .int (-1), .null])), (q19, .inr (1, [.null, .null, .int (-1), .null])), (q20, .inr (1, [.null, .null, .int (-1), .null])), (q8, .inr (4, [.ref q9, .int 0])), (q10, .inr (4, [.ref q11, .int 0])), (q12, .inr (0, [.ref (z 0), .int 0, .int 0])), (q13, .inr (0, [.ref (z 0), .int 0, .int 0])), (q3, .inl (ar 1, 72, .inl (fun _ => 0))), (q25, .inl (ar 0, 6, .inl (fun _ => 0))), (q22, .inl (ar 0, 72, .inl (fun _ => 0))), (q50, .inl (ar 2, 1, .inr (.inl u74))), (q21, .inr (6, fz))] := hD
      refine W.widen (k := 51) (n := 4333) (Nat.le_of_ble_eq_true rfl) (Nat.le_of_ble_eq_true rfl) ?_
      obtain rfl := hw
      refine lv_istore (lv' := [(6, .int r75), (5, .int 1), (4, .int 0), (3, .ref q50), (2, .ref q21), (1, .ref q1), (0, .ref b)]) hx hb d_La_law_187 hl (by decide) rfl (fun ls hl => ?_)
      refine lv_aload_n hx hb d_La_law_189 rfl (lv_at hl 4 rfl) ?_
      have hPc := hP.sub (ws' := [(q21, .inr (6, fz))]) [17] rfl
      have hDc := hD.sub (ws' := [(q21, .inr (6, fz))]) [17] (by decide) rfl
      have hFc := va_free (wc := [(q21, .inr (6, fz))]) hD hS hA [17] rfl
      refine va_calli (va_runV (As := []) (rest := []) ⟨hx, hb, hml, hown, hts⟩ (c_Mo_thrown l dC dI ar N0 z q21 fz (1) H.size hfz) (cwV 0 hts (x_goodV k_1105 k_1106 k_1107 k_9 k_1108) rfl rfl rfl (by decide +kernel) ⟨Nat.le_of_ble_eq_true rfl, Nat.le_of_ble_eq_true rfl⟩) ⟨x_blind, va_recv hK hPc (ci := 6) (q0 := 0) rfl rfl, fun U hU9 hW => x_pre hU9 hW hPc hDc hU hZ hS hAN hN0⟩ rfl rfl hl.1 rfl (lv_room (Nat.le_of_ble_eq_true rfl)) d_La_law_190 ⟨Nat.le_of_ble_eq_true rfl, Nat.le_of_ble_eq_true rfl⟩) hS (fun q _ h => hFc q h) hFc (fun r77 u78 t H1 locs ht hvm hw hB hz1 hk1 hS => ?_)
      obtain ⟨hP1, hD1⟩ := hB
      rw [ht] at hP1
      obtain ⟨hP, hD⟩ := va_join (wr := [(q5, .inr (2, [.ref q6, .ref q7, .ref q8, .ref q10, .ref q12, .ref q13, .ref q14, .int 0, .int 0, .int 0, .long 0])), (q6, .inl (ar 0, 6, .inl (fun _ => 0))), (q7, .inl (ar 4, 6, .inr (.inr (.inr (.inr g))))), (q15, .inr (1, [.null, .null, .int (-1), .null])), (q16, .inr (1, [.null, .null, .int (-1), .null])), (q17, .inr (1, [.null, .null, .int (-1), .null])), (q18, .inr (1, [.null, .null, .int (-1), .null])), (q19, .inr (1, [.null, .null, .int (-1), .null])), (q20, .inr (1, [.null, .null, .int (-1), .null])), (q8, .inr (4, [.ref q9, .int 0])), (q10, .inr (4, [.ref q11, .int 0])), (q12, .inr (0, [.ref (z 0), .int 0, .int 0])), (q13, .inr (0, [.ref (z 0), .int 0, .int 0])), (q3, .inl (ar 1, 72, .inl (fun _ => 0))), (q25, .inl (ar 0, 6, .inl (fun _ => 0))), (q22, .inl (ar 0, 72, .inl (fun _ => 0))), (q50, .inl (ar 2, 1, .inr (.inl u74)))]) (w1 := [(q21, .inr (6, fz))]) hP hD [17] [0, 1, 2, 3, 4, 5, 6, 7, 8, 9, 10, 11, 12, 13, 14, 15, 16] rfl rfl (by decide) (by decide) hk1 hFc hP1 hD1
      generalize H1 = H at hP hS ⊢
      have hP : va_P (dC, dI) x_cl [(q5, .inr (2, [.ref q6, .ref q7, .ref q8, .ref q10, .ref q12, .ref q13, .ref q14, .int 0, .int 0, .int 0, .long 0])), (q6, .inl (ar 0, 6, .inl (fun _ => 0))), (q7, .inl (ar 4, 6, .inr (.inr (.inr (.inr g))))), (q15, .inr (1, [.null, .null, .int (-1), .null])), (q16, .inr (1, [.null, .null, .int (-1), .null])), (q17, .inr (1, [.null, .null, .int (-1), .null])), (q18, .inr (1, [.null, .null, .int (-1), .null])), (q19, .inr (1, [.null, .null, .int (-1), .null])), (q20, .inr (1, [.null, .null, .int (-1), .null])), (q8, .inr (4, [.ref q9, .int 0])), (q10, .inr (4, [.ref q11, .int 0])), (q12, .inr (0, [.ref (z 0), .int 0, .int 0])), (q13, .inr (0, [.ref (z 0), .int 0, .int 0])), (q3, .inl (ar 1, 72, .inl (fun _ => 0))), (q25, .inl (ar 0, 6, .inl (fun _ => 0))), (q22, .inl (ar 0, 72, .inl (fun _ => 0))), (q50, .inl (ar 2, 1, .inr (.inl u74))), (q21, .inr (6, fz))] H := hP
      have hD : va_D A [(q5, .inr (2, [.ref q6, .ref q7, .ref q8, .ref q10, .ref q12, .ref q13, .ref q14, .int 0, .int 0, .int 0, .long 0])), (q6, .inl (ar 0, 6, .inl (fun _ => 0))), (q7, .inl (ar 4, 6, .inr (.inr (.inr (.inr g))))), (q15, .inr (1, [.null, .null, .int (-1), .null])), (q16, .inr (1, [.null, .null, .int (-1), .null])), (q17, .inr (1, [.null, .null, .int (-1), .null])), (q18, .inr (1, [.null, .null, .int (-1), .null])), (q19, .inr (1, [.null, .null, .int (-1), .null])), (q20, .inr (1, [.null, .null, .int (-1), .null])), (q8, .inr (4, [.ref q9, .int 0])), (q10, .inr (4, [.ref q11, .int 0])), (q12, .inr (0, [.ref (z 0), .int 0, .int 0])), (q13, .inr (0, [.ref (z 0), .int 0, .int 0])), (q3, .inl (ar 1, 72, .inl (fun _ => 0))), (q25, .inl (ar 0, 6, .inl (fun _ => 0))), (q22, .inl (ar 0, 72, .inl (fun _ => 0))), (q50, .inl (ar 2, 1, .inr (.inl u74))), (q21, .inr (6, fz))] := hD
      refine W.widen (k := 51) (n := 4333) (Nat.le_of_ble_eq_true rfl) (Nat.le_of_ble_eq_true rfl) ?_
      obtain rfl := hw
      refine lv_iload hx hb d_La_law_193 (lv_at hl 1 rfl) ?_
      refine lv_icmp_eq (tgt := 200) hx hb d_La_law_195 (by decide) (fun _ => ?_) (fun c79 => absurd (by decide) c79)
      refine lv_iload hx hb d_La_law_200 (lv_at hl 1 rfl) ?_
      refine lv_if_ne (tgt := 217) hx hb d_La_law_202 (by decide) (fun _ => ?_) (fun c80 => absurd c80 (by decide))
      refine lv_goto (tgt := 561) hx hb d_La_law_217 (by decide) ?_
      refine lv_iinc (v := 3) (lv' := [(4, .int 3), (6, .int r75), (5, .int 1), (3, .ref q50), (2, .ref q21), (1, .ref q1), (0, .ref b)]) hx hb d_La_law_561 hl (k := 2) rfl (by decide) (by decide) rfl (fun ls hl => ?_)
      refine lv_goto (tgt := 23) hx hb d_La_law_564 (by decide) ?_
      refine lv_iload hx hb d_La_law_23 (lv_at hl 0 rfl) ?_
      refine lv_aload_n hx hb d_La_law_25 rfl (lv_at hl 6 rfl) ?_
      refine va_slen hx hb hX hbl hbA hS d_La_law_26 ?_
      refine lv_iconst (v := 3) hx hb d_La_law_27 (by decide) ?_
      refine lv_isub hx hb d_La_law_28 ?_
      refine W.eq (g2 := F0 m 29 ls [.int 0, .int 3]) (by rw [show (Int32.ofNat 3 - 3 : Int32) = 0 from by decide]) ?_
      refine lv_icmp_gt (tgt := 567) hx hb d_La_law_29 (by decide) (fun _ => ?_) (fun c81 => absurd (by decide) c81)
      refine lv_iconst (v := 1) hx hb d_La_law_567 (by decide) ?_
      refine va_forget (fun q h => by rw [← hNe]; exact hAN _ (hS.2.2 q h)) ?_
      refine W.widen (k := 600002) (n := 7302232) (Nat.le_of_ble_eq_true rfl) (Nat.le_of_ble_eq_true rfl) ?_
      exact lw_ret hx hb hr hlocks d_La_law_568
    · refine lv_tableIn (tgt := 220) hx hb d_La_law_39 (by decide) (by decide) (off := 181) rfl (by decide) ?_
      refine lv_aload_n hx hb d_La_law_220 rfl (lv_at hl 3 rfl) ?_
      refine lv_aload_n hx hb d_La_law_221 rfl (lv_at hl 4 rfl) ?_
      refine lv_iload hx hb d_La_law_222 (lv_at hl 0 rfl) ?_
      refine lv_iconst (v := 1) hx hb d_La_law_224 (by decide) ?_
      refine lv_iadd hx hb d_La_law_225 ?_
      refine W.eq (g2 := F0 m 226 ls [.int 1, .ref b, .ref q1]) rfl ?_
      refine va_sld hx hb hX hbl hbA hS (i := 1) (by unfold vp_in; decide) d_La_law_226 ?_
      refine W.eq (g2 := F0 m 227 ls [.int (xs 1), .ref q1]) (by rw [show Int32.toNatClampNeg (1 : Int32) = 1 from by decide]) ?_
      refine lv_aload_n hx hb d_La_law_227 rfl (lv_at hl 1 rfl) ?_
      have hPc := hP.sub (ws' := [(q50, .inl (ar 2, 1, .inr (.inl (fun _ => 0)))), (q1, .inr (5, [.ref q2, .ref q5, .int (-1)])), (q5, .inr (2, [.ref q6, .ref q7, .ref q8, .ref q10, .ref q12, .ref q13, .ref q14, .int 0, .int 0, .int 0, .long 0]))]) [0, 1, 2] rfl
      have hDc := hD.sub (ws' := [(q50, .inl (ar 2, 1, .inr (.inl (fun _ => 0)))), (q1, .inr (5, [.ref q2, .ref q5, .int (-1)])), (q5, .inr (2, [.ref q6, .ref q7, .ref q8, .ref q10, .ref q12, .ref q13, .ref q14, .int 0, .int 0, .int 0, .long 0]))]) [0, 1, 2] (by decide) rfl
      have hFc := va_free (wc := [(q50, .inl (ar 2, 1, .inr (.inl (fun _ => 0)))), (q1, .inr (5, [.ref q2, .ref q5, .int (-1)])), (q5, .inr (2, [.ref q6, .ref q7, .ref q8, .ref q10, .ref q12, .ref q13, .ref q14, .int 0, .int 0, .int 0, .long 0]))]) hD hS hA [0, 1, 2] rfl
      refine va_calli (vx_runSW (As := [.ref q1, .int (xs 1), .ref q50]) (rest := []) ⟨hx, hb, hml, hown, hts⟩ (c_La_run l hst dC dI ar N0 z q50 q1 q2 q5 q6 q7 q8 q10 q12 q13 q14 (xs 1) H.size ) (vx_cwSW 3 hts (x_goodSW k_707 k_708 k_0 k_709) rfl rfl rfl (by decide +kernel) ⟨Nat.le_of_ble_eq_true rfl, Nat.le_of_ble_eq_true rfl⟩) ⟨x_blind, fun U hU9 hW => x_pre hU9 hW hPc hDc hU hZ hS hAN hN0⟩ rfl rfl hl.1 rfl (lv_room (Nat.le_of_ble_eq_true rfl)) d_La_law_228 ⟨Nat.le_of_ble_eq_true rfl, Nat.le_of_ble_eq_true rfl⟩) hS (fun q _ h => hFc q h) hFc (fun r82 u83 t H1 locs ht hvm hw hB hz1 hk1 hS => ?_)
      obtain ⟨hP1, hD1⟩ := hB
      rw [ht] at hP1
      obtain ⟨hP, hD⟩ := va_join (wr := [(q6, .inl (ar 0, 6, .inl (fun _ => 0))), (q7, .inl (ar 4, 6, .inr (.inr (.inr (.inr g))))), (q15, .inr (1, [.null, .null, .int (-1), .null])), (q16, .inr (1, [.null, .null, .int (-1), .null])), (q17, .inr (1, [.null, .null, .int (-1), .null])), (q18, .inr (1, [.null, .null, .int (-1), .null])), (q19, .inr (1, [.null, .null, .int (-1), .null])), (q20, .inr (1, [.null, .null, .int (-1), .null])), (q8, .inr (4, [.ref q9, .int 0])), (q10, .inr (4, [.ref q11, .int 0])), (q12, .inr (0, [.ref (z 0), .int 0, .int 0])), (q13, .inr (0, [.ref (z 0), .int 0, .int 0])), (q2, .inr (3, [.ref q3, .ref q4, .int 0, .int 0, .int 0, .int 0, .int 0, .int 0, .null])), (q3, .inl (ar 1, 72, .inl (fun _ => 0))), (q21, .inr (6, fs)), (q25, .inl (ar 0, 6, .inl (fun _ => 0))), (q22, .inl (ar 0, 72, .inl (fun _ => 0)))]) (w1 := [(q50, .inl (ar 2, 1, .inr (.inl u83)))]) hP hD [0, 1, 2] [3, 4, 5, 6, 7, 8, 9, 10, 11, 12, 13, 14, 15, 16, 17, 18, 19] rfl rfl (by decide) (by decide) hk1 hFc hP1 hD1
      generalize H1 = H at hP hS ⊢
      have hP : va_P (dC, dI) x_cl [(q6, .inl (ar 0, 6, .inl (fun _ => 0))), (q7, .inl (ar 4, 6, .inr (.inr (.inr (.inr g))))), (q15, .inr (1, [.null, .null, .int (-1), .null])), (q16, .inr (1, [.null, .null, .int (-1), .null])), (q17, .inr (1, [.null, .null, .int (-1), .null])), (q18, .inr (1, [.null, .null, .int (-1), .null])), (q19, .inr (1, [.null, .null, .int (-1), .null])), (q20, .inr (1, [.null, .null, .int (-1), .null])), (q8, .inr (4, [.ref q9, .int 0])), (q10, .inr (4, [.ref q11, .int 0])), (q12, .inr (0, [.ref (z 0), .int 0, .int 0])), (q13, .inr (0, [.ref (z 0), .int 0, .int 0])), (q2, .inr (3, [.ref q3, .ref q4, .int 0, .int 0, .int 0, .int 0, .int 0, .int 0, .null])), (q3, .inl (ar 1, 72, .inl (fun _ => 0))), (q21, .inr (6, fs)), (q25, .inl (ar 0, 6, .inl (fun _ => 0))), (q22, .inl (ar 0, 72, .inl (fun _ => 0))), (q50, .inl (ar 2, 1, .inr (.inl u83)))] H := hP
      have hD : va_D A [(q6, .inl (ar 0, 6, .inl (fun _ => 0))), (q7, .inl (ar 4, 6, .inr (.inr (.inr (.inr g))))), (q15, .inr (1, [.null, .null, .int (-1), .null])), (q16, .inr (1, [.null, .null, .int (-1), .null])), (q17, .inr (1, [.null, .null, .int (-1), .null])), (q18, .inr (1, [.null, .null, .int (-1), .null])), (q19, .inr (1, [.null, .null, .int (-1), .null])), (q20, .inr (1, [.null, .null, .int (-1), .null])), (q8, .inr (4, [.ref q9, .int 0])), (q10, .inr (4, [.ref q11, .int 0])), (q12, .inr (0, [.ref (z 0), .int 0, .int 0])), (q13, .inr (0, [.ref (z 0), .int 0, .int 0])), (q2, .inr (3, [.ref q3, .ref q4, .int 0, .int 0, .int 0, .int 0, .int 0, .int 0, .null])), (q3, .inl (ar 1, 72, .inl (fun _ => 0))), (q21, .inr (6, fs)), (q25, .inl (ar 0, 6, .inl (fun _ => 0))), (q22, .inl (ar 0, 72, .inl (fun _ => 0))), (q50, .inl (ar 2, 1, .inr (.inl u83)))] := hD
      refine W.widen (k := 51) (n := 4333) (Nat.le_of_ble_eq_true rfl) (Nat.le_of_ble_eq_true rfl) ?_
      rcases hw with ⟨ha, rfl⟩ | ⟨ha, rfl⟩
      · refine lv_istore (lv' := [(5, .int 1), (4, .int 0), (3, .ref q50), (2, .ref q21), (1, .ref q1), (0, .ref b)]) hx hb d_La_law_231 hl (by decide) rfl (fun ls hl => ?_)
        refine lv_aload_n hx hb d_La_law_233 rfl (lv_at hl 3 rfl) ?_
        refine lv_aload_n hx hb d_La_law_234 rfl (lv_at hl 5 rfl) ?_
        refine lv_iload hx hb d_La_law_235 (lv_at hl 1 rfl) ?_
        refine lv_iconst (v := 1) hx hb d_La_law_237 (by decide) ?_
        refine lv_iadd hx hb d_La_law_238 ?_
        refine W.eq (g2 := F0 m 239 ls [.int 1, .ref b, .ref q21]) rfl ?_
        refine va_sld hx hb hX hbl hbA hS (i := 1) (by unfold vp_in; decide) d_La_law_239 ?_
        refine W.eq (g2 := F0 m 240 ls [.int (xs 1), .ref q21]) (by rw [show Int32.toNatClampNeg (1 : Int32) = 1 from by decide]) ?_
        have hPc := hP.sub (ws' := [(q21, .inr (6, fs))]) [14] rfl
        have hDc := hD.sub (ws' := [(q21, .inr (6, fs))]) [14] (by decide) rfl
        have hFc := va_free (wc := [(q21, .inr (6, fs))]) hD hS hA [14] rfl
        refine va_calli (va_runV (As := [.int (xs 1)]) (rest := []) ⟨hx, hb, hml, hown, hts⟩ (c_Mo_run l dC dI ar N0 z q21  fs (xs 1) H.size hfs g_status) (cwV 1 hts (x_goodV k_1198 k_1199 k_1200 k_9 k_1201) rfl rfl rfl (by decide +kernel) ⟨Nat.le_of_ble_eq_true rfl, Nat.le_of_ble_eq_true rfl⟩) ⟨x_blind, va_recv hK hPc (ci := 6) (q0 := 0) rfl rfl, fun U hU9 hW => x_pre hU9 hW hPc hDc hU hZ hS hAN hN0⟩ rfl rfl hl.1 rfl (lv_room (Nat.le_of_ble_eq_true rfl)) d_La_law_240 ⟨Nat.le_of_ble_eq_true rfl, Nat.le_of_ble_eq_true rfl⟩) hS (fun q _ h => hFc q h) hFc (fun r84 u85 t H1 locs ht hvm hw hB hz1 hk1 hS => ?_)
        obtain ⟨fz, hP1, hD1, hfz⟩ := hB
        rw [ht] at hP1
        obtain ⟨hP, hD⟩ := va_join (wr := [(q6, .inl (ar 0, 6, .inl (fun _ => 0))), (q7, .inl (ar 4, 6, .inr (.inr (.inr (.inr g))))), (q15, .inr (1, [.null, .null, .int (-1), .null])), (q16, .inr (1, [.null, .null, .int (-1), .null])), (q17, .inr (1, [.null, .null, .int (-1), .null])), (q18, .inr (1, [.null, .null, .int (-1), .null])), (q19, .inr (1, [.null, .null, .int (-1), .null])), (q20, .inr (1, [.null, .null, .int (-1), .null])), (q8, .inr (4, [.ref q9, .int 0])), (q10, .inr (4, [.ref q11, .int 0])), (q12, .inr (0, [.ref (z 0), .int 0, .int 0])), (q13, .inr (0, [.ref (z 0), .int 0, .int 0])), (q2, .inr (3, [.ref q3, .ref q4, .int 0, .int 0, .int 0, .int 0, .int 0, .int 0, .null])), (q3, .inl (ar 1, 72, .inl (fun _ => 0))), (q25, .inl (ar 0, 6, .inl (fun _ => 0))), (q22, .inl (ar 0, 72, .inl (fun _ => 0))), (q50, .inl (ar 2, 1, .inr (.inl u83)))]) (w1 := [(q21, .inr (6, fz))]) hP hD [14] [0, 1, 2, 3, 4, 5, 6, 7, 8, 9, 10, 11, 12, 13, 15, 16, 17] rfl rfl (by decide) (by decide) hk1 hFc hP1 hD1
        generalize H1 = H at hP hS ⊢
        have hP : va_P (dC, dI) x_cl [(q6, .inl (ar 0, 6, .inl (fun _ => 0))), (q7, .inl (ar 4, 6, .inr (.inr (.inr (.inr g))))), (q15, .inr (1, [.null, .null, .int (-1), .null])), (q16, .inr (1, [.null, .null, .int (-1), .null])), (q17, .inr (1, [.null, .null, .int (-1), .null])), (q18, .inr (1, [.null, .null, .int (-1), .null])), (q19, .inr (1, [.null, .null, .int (-1), .null])), (q20, .inr (1, [.null, .null, .int (-1), .null])), (q8, .inr (4, [.ref q9, .int 0])), (q10, .inr (4, [.ref q11, .int 0])), (q12, .inr (0, [.ref (z 0), .int 0, .int 0])), (q13, .inr (0, [.ref (z 0), .int 0, .int 0])), (q2, .inr (3, [.ref q3, .ref q4, .int 0, .int 0, .int 0, .int 0, .int 0, .int 0, .null])), (q3, .inl (ar 1, 72, .inl (fun _ => 0))), (q25, .inl (ar 0, 6, .inl (fun _ => 0))), (q22, .inl (ar 0, 72, .inl (fun _ => 0))), (q50, .inl (ar 2, 1, .inr (.inl u83))), (q21, .inr (6, fz))] H := hP
        have hD : va_D A [(q6, .inl (ar 0, 6, .inl (fun _ => 0))), (q7, .inl (ar 4, 6, .inr (.inr (.inr (.inr g))))), (q15, .inr (1, [.null, .null, .int (-1), .null])), (q16, .inr (1, [.null, .null, .int (-1), .null])), (q17, .inr (1, [.null, .null, .int (-1), .null])), (q18, .inr (1, [.null, .null, .int (-1), .null])), (q19, .inr (1, [.null, .null, .int (-1), .null])), (q20, .inr (1, [.null, .null, .int (-1), .null])), (q8, .inr (4, [.ref q9, .int 0])), (q10, .inr (4, [.ref q11, .int 0])), (q12, .inr (0, [.ref (z 0), .int 0, .int 0])), (q13, .inr (0, [.ref (z 0), .int 0, .int 0])), (q2, .inr (3, [.ref q3, .ref q4, .int 0, .int 0, .int 0, .int 0, .int 0, .int 0, .null])), (q3, .inl (ar 1, 72, .inl (fun _ => 0))), (q25, .inl (ar 0, 6, .inl (fun _ => 0))), (q22, .inl (ar 0, 72, .inl (fun _ => 0))), (q50, .inl (ar 2, 1, .inr (.inl u83))), (q21, .inr (6, fz))] := hD
        refine W.widen (k := 51) (n := 4333) (Nat.le_of_ble_eq_true rfl) (Nat.le_of_ble_eq_true rfl) ?_
        rcases hw with ⟨hm9, rfl⟩ | ⟨hm9, rfl⟩
        · exact (x_d3 ha hm9).elim
        · refine lv_istore (lv' := [(6, .int r84), (5, .int 1), (4, .int 0), (3, .ref q50), (2, .ref q21), (1, .ref q1), (0, .ref b)]) hx hb d_La_law_243 hl (by decide) rfl (fun ls hl => ?_)
          refine lv_aload_n hx hb d_La_law_245 rfl (lv_at hl 4 rfl) ?_
          have hPc := hP.sub (ws' := [(q21, .inr (6, fz))]) [17] rfl
          have hDc := hD.sub (ws' := [(q21, .inr (6, fz))]) [17] (by decide) rfl
          have hFc := va_free (wc := [(q21, .inr (6, fz))]) hD hS hA [17] rfl
          refine va_calli (va_runV (As := []) (rest := []) ⟨hx, hb, hml, hown, hts⟩ (c_Mo_thrown l dC dI ar N0 z q21 fz (1) H.size hfz) (cwV 0 hts (x_goodV k_1105 k_1106 k_1107 k_9 k_1108) rfl rfl rfl (by decide +kernel) ⟨Nat.le_of_ble_eq_true rfl, Nat.le_of_ble_eq_true rfl⟩) ⟨x_blind, va_recv hK hPc (ci := 6) (q0 := 0) rfl rfl, fun U hU9 hW => x_pre hU9 hW hPc hDc hU hZ hS hAN hN0⟩ rfl rfl hl.1 rfl (lv_room (Nat.le_of_ble_eq_true rfl)) d_La_law_246 ⟨Nat.le_of_ble_eq_true rfl, Nat.le_of_ble_eq_true rfl⟩) hS (fun q _ h => hFc q h) hFc (fun r86 u87 t H1 locs ht hvm hw hB hz1 hk1 hS => ?_)
          obtain ⟨hP1, hD1⟩ := hB
          rw [ht] at hP1
          obtain ⟨hP, hD⟩ := va_join (wr := [(q6, .inl (ar 0, 6, .inl (fun _ => 0))), (q7, .inl (ar 4, 6, .inr (.inr (.inr (.inr g))))), (q15, .inr (1, [.null, .null, .int (-1), .null])), (q16, .inr (1, [.null, .null, .int (-1), .null])), (q17, .inr (1, [.null, .null, .int (-1), .null])), (q18, .inr (1, [.null, .null, .int (-1), .null])), (q19, .inr (1, [.null, .null, .int (-1), .null])), (q20, .inr (1, [.null, .null, .int (-1), .null])), (q8, .inr (4, [.ref q9, .int 0])), (q10, .inr (4, [.ref q11, .int 0])), (q12, .inr (0, [.ref (z 0), .int 0, .int 0])), (q13, .inr (0, [.ref (z 0), .int 0, .int 0])), (q2, .inr (3, [.ref q3, .ref q4, .int 0, .int 0, .int 0, .int 0, .int 0, .int 0, .null])), (q3, .inl (ar 1, 72, .inl (fun _ => 0))), (q25, .inl (ar 0, 6, .inl (fun _ => 0))), (q22, .inl (ar 0, 72, .inl (fun _ => 0))), (q50, .inl (ar 2, 1, .inr (.inl u83)))]) (w1 := [(q21, .inr (6, fz))]) hP hD [17] [0, 1, 2, 3, 4, 5, 6, 7, 8, 9, 10, 11, 12, 13, 14, 15, 16] rfl rfl (by decide) (by decide) hk1 hFc hP1 hD1
          generalize H1 = H at hP hS ⊢
          have hP : va_P (dC, dI) x_cl [(q6, .inl (ar 0, 6, .inl (fun _ => 0))), (q7, .inl (ar 4, 6, .inr (.inr (.inr (.inr g))))), (q15, .inr (1, [.null, .null, .int (-1), .null])), (q16, .inr (1, [.null, .null, .int (-1), .null])), (q17, .inr (1, [.null, .null, .int (-1), .null])), (q18, .inr (1, [.null, .null, .int (-1), .null])), (q19, .inr (1, [.null, .null, .int (-1), .null])), (q20, .inr (1, [.null, .null, .int (-1), .null])), (q8, .inr (4, [.ref q9, .int 0])), (q10, .inr (4, [.ref q11, .int 0])), (q12, .inr (0, [.ref (z 0), .int 0, .int 0])), (q13, .inr (0, [.ref (z 0), .int 0, .int 0])), (q2, .inr (3, [.ref q3, .ref q4, .int 0, .int 0, .int 0, .int 0, .int 0, .int 0, .null])), (q3, .inl (ar 1, 72, .inl (fun _ => 0))), (q25, .inl (ar 0, 6, .inl (fun _ => 0))), (q22, .inl (ar 0, 72, .inl (fun _ => 0))), (q50, .inl (ar 2, 1, .inr (.inl u83))), (q21, .inr (6, fz))] H := hP
          have hD : va_D A [(q6, .inl (ar 0, 6, .inl (fun _ => 0))), (q7, .inl (ar 4, 6, .inr (.inr (.inr (.inr g))))), (q15, .inr (1, [.null, .null, .int (-1), .null])), (q16, .inr (1, [.null, .null, .int (-1), .null])), (q17, .inr (1, [.null, .null, .int (-1), .null])), (q18, .inr (1, [.null, .null, .int (-1), .null])), (q19, .inr (1, [.null, .null, .int (-1), .null])), (q20, .inr (1, [.null, .null, .int (-1), .null])), (q8, .inr (4, [.ref q9, .int 0])), (q10, .inr (4, [.ref q11, .int 0])), (q12, .inr (0, [.ref (z 0), .int 0, .int 0])), (q13, .inr (0, [.ref (z 0), .int 0, .int 0])), (q2, .inr (3, [.ref q3, .ref q4, .int 0, .int 0, .int 0, .int 0, .int 0, .int 0, .null])), (q3, .inl (ar 1, 72, .inl (fun _ => 0))), (q25, .inl (ar 0, 6, .inl (fun _ => 0))), (q22, .inl (ar 0, 72, .inl (fun _ => 0))), (q50, .inl (ar 2, 1, .inr (.inl u83))), (q21, .inr (6, fz))] := hD
          refine W.widen (k := 51) (n := 4333) (Nat.le_of_ble_eq_true rfl) (Nat.le_of_ble_eq_true rfl) ?_
          obtain rfl := hw
          refine lv_iload hx hb d_La_law_249 (lv_at hl 1 rfl) ?_
          refine lv_icmp_eq (tgt := 256) hx hb d_La_law_251 (by decide) (fun _ => ?_) (fun c88 => absurd (by decide) c88)
          refine lv_iload hx hb d_La_law_256 (lv_at hl 1 rfl) ?_
          refine lv_if_ne (tgt := 273) hx hb d_La_law_258 (by decide) (fun _ => ?_) (fun c89 => absurd c89 (by decide))
          refine lv_goto (tgt := 561) hx hb d_La_law_273 (by decide) ?_
          refine lv_iinc (v := 3) (lv' := [(4, .int 3), (6, .int r84), (5, .int 1), (3, .ref q50), (2, .ref q21), (1, .ref q1), (0, .ref b)]) hx hb d_La_law_561 hl (k := 2) rfl (by decide) (by decide) rfl (fun ls hl => ?_)
          refine lv_goto (tgt := 23) hx hb d_La_law_564 (by decide) ?_
          refine lv_iload hx hb d_La_law_23 (lv_at hl 0 rfl) ?_
          refine lv_aload_n hx hb d_La_law_25 rfl (lv_at hl 6 rfl) ?_
          refine va_slen hx hb hX hbl hbA hS d_La_law_26 ?_
          refine lv_iconst (v := 3) hx hb d_La_law_27 (by decide) ?_
          refine lv_isub hx hb d_La_law_28 ?_
          refine W.eq (g2 := F0 m 29 ls [.int 0, .int 3]) (by rw [show (Int32.ofNat 3 - 3 : Int32) = 0 from by decide]) ?_
          refine lv_icmp_gt (tgt := 567) hx hb d_La_law_29 (by decide) (fun _ => ?_) (fun c90 => absurd (by decide) c90)
          refine lv_iconst (v := 1) hx hb d_La_law_567 (by decide) ?_
          refine va_forget (fun q h => by rw [← hNe]; exact hAN _ (hS.2.2 q h)) ?_
          refine W.widen (k := 600002) (n := 7302232) (Nat.le_of_ble_eq_true rfl) (Nat.le_of_ble_eq_true rfl) ?_
          exact lw_ret hx hb hr hlocks d_La_law_568
      · refine lv_istore (lv' := [(5, .int 2), (4, .int 0), (3, .ref q50), (2, .ref q21), (1, .ref q1), (0, .ref b)]) hx hb d_La_law_231 hl (by decide) rfl (fun ls hl => ?_)
        refine lv_aload_n hx hb d_La_law_233 rfl (lv_at hl 3 rfl) ?_
        refine lv_aload_n hx hb d_La_law_234 rfl (lv_at hl 5 rfl) ?_
        refine lv_iload hx hb d_La_law_235 (lv_at hl 1 rfl) ?_
        refine lv_iconst (v := 1) hx hb d_La_law_237 (by decide) ?_
        refine lv_iadd hx hb d_La_law_238 ?_
        refine W.eq (g2 := F0 m 239 ls [.int 1, .ref b, .ref q21]) rfl ?_
        refine va_sld hx hb hX hbl hbA hS (i := 1) (by unfold vp_in; decide) d_La_law_239 ?_
        refine W.eq (g2 := F0 m 240 ls [.int (xs 1), .ref q21]) (by rw [show Int32.toNatClampNeg (1 : Int32) = 1 from by decide]) ?_
        have hPc := hP.sub (ws' := [(q21, .inr (6, fs))]) [14] rfl
        have hDc := hD.sub (ws' := [(q21, .inr (6, fs))]) [14] (by decide) rfl
        have hFc := va_free (wc := [(q21, .inr (6, fs))]) hD hS hA [14] rfl
        refine va_calli (va_runV (As := [.int (xs 1)]) (rest := []) ⟨hx, hb, hml, hown, hts⟩ (c_Mo_run l dC dI ar N0 z q21  fs (xs 1) H.size hfs g_status) (cwV 1 hts (x_goodV k_1198 k_1199 k_1200 k_9 k_1201) rfl rfl rfl (by decide +kernel) ⟨Nat.le_of_ble_eq_true rfl, Nat.le_of_ble_eq_true rfl⟩) ⟨x_blind, va_recv hK hPc (ci := 6) (q0 := 0) rfl rfl, fun U hU9 hW => x_pre hU9 hW hPc hDc hU hZ hS hAN hN0⟩ rfl rfl hl.1 rfl (lv_room (Nat.le_of_ble_eq_true rfl)) d_La_law_240 ⟨Nat.le_of_ble_eq_true rfl, Nat.le_of_ble_eq_true rfl⟩) hS (fun q _ h => hFc q h) hFc (fun r91 u92 t H1 locs ht hvm hw hB hz1 hk1 hS => ?_)
        obtain ⟨fz, hP1, hD1, hfz⟩ := hB
        rw [ht] at hP1
        obtain ⟨hP, hD⟩ := va_join (wr := [(q6, .inl (ar 0, 6, .inl (fun _ => 0))), (q7, .inl (ar 4, 6, .inr (.inr (.inr (.inr g))))), (q15, .inr (1, [.null, .null, .int (-1), .null])), (q16, .inr (1, [.null, .null, .int (-1), .null])), (q17, .inr (1, [.null, .null, .int (-1), .null])), (q18, .inr (1, [.null, .null, .int (-1), .null])), (q19, .inr (1, [.null, .null, .int (-1), .null])), (q20, .inr (1, [.null, .null, .int (-1), .null])), (q8, .inr (4, [.ref q9, .int 0])), (q10, .inr (4, [.ref q11, .int 0])), (q12, .inr (0, [.ref (z 0), .int 0, .int 0])), (q13, .inr (0, [.ref (z 0), .int 0, .int 0])), (q2, .inr (3, [.ref q3, .ref q4, .int 0, .int 0, .int 0, .int 0, .int 0, .int 0, .null])), (q3, .inl (ar 1, 72, .inl (fun _ => 0))), (q25, .inl (ar 0, 6, .inl (fun _ => 0))), (q22, .inl (ar 0, 72, .inl (fun _ => 0))), (q50, .inl (ar 2, 1, .inr (.inl u83)))]) (w1 := [(q21, .inr (6, fz))]) hP hD [14] [0, 1, 2, 3, 4, 5, 6, 7, 8, 9, 10, 11, 12, 13, 15, 16, 17] rfl rfl (by decide) (by decide) hk1 hFc hP1 hD1
        generalize H1 = H at hP hS ⊢
        have hP : va_P (dC, dI) x_cl [(q6, .inl (ar 0, 6, .inl (fun _ => 0))), (q7, .inl (ar 4, 6, .inr (.inr (.inr (.inr g))))), (q15, .inr (1, [.null, .null, .int (-1), .null])), (q16, .inr (1, [.null, .null, .int (-1), .null])), (q17, .inr (1, [.null, .null, .int (-1), .null])), (q18, .inr (1, [.null, .null, .int (-1), .null])), (q19, .inr (1, [.null, .null, .int (-1), .null])), (q20, .inr (1, [.null, .null, .int (-1), .null])), (q8, .inr (4, [.ref q9, .int 0])), (q10, .inr (4, [.ref q11, .int 0])), (q12, .inr (0, [.ref (z 0), .int 0, .int 0])), (q13, .inr (0, [.ref (z 0), .int 0, .int 0])), (q2, .inr (3, [.ref q3, .ref q4, .int 0, .int 0, .int 0, .int 0, .int 0, .int 0, .null])), (q3, .inl (ar 1, 72, .inl (fun _ => 0))), (q25, .inl (ar 0, 6, .inl (fun _ => 0))), (q22, .inl (ar 0, 72, .inl (fun _ => 0))), (q50, .inl (ar 2, 1, .inr (.inl u83))), (q21, .inr (6, fz))] H := hP
        have hD : va_D A [(q6, .inl (ar 0, 6, .inl (fun _ => 0))), (q7, .inl (ar 4, 6, .inr (.inr (.inr (.inr g))))), (q15, .inr (1, [.null, .null, .int (-1), .null])), (q16, .inr (1, [.null, .null, .int (-1), .null])), (q17, .inr (1, [.null, .null, .int (-1), .null])), (q18, .inr (1, [.null, .null, .int (-1), .null])), (q19, .inr (1, [.null, .null, .int (-1), .null])), (q20, .inr (1, [.null, .null, .int (-1), .null])), (q8, .inr (4, [.ref q9, .int 0])), (q10, .inr (4, [.ref q11, .int 0])), (q12, .inr (0, [.ref (z 0), .int 0, .int 0])), (q13, .inr (0, [.ref (z 0), .int 0, .int 0])), (q2, .inr (3, [.ref q3, .ref q4, .int 0, .int 0, .int 0, .int 0, .int 0, .int 0, .null])), (q3, .inl (ar 1, 72, .inl (fun _ => 0))), (q25, .inl (ar 0, 6, .inl (fun _ => 0))), (q22, .inl (ar 0, 72, .inl (fun _ => 0))), (q50, .inl (ar 2, 1, .inr (.inl u83))), (q21, .inr (6, fz))] := hD
        refine W.widen (k := 51) (n := 4333) (Nat.le_of_ble_eq_true rfl) (Nat.le_of_ble_eq_true rfl) ?_
        rcases hw with ⟨hm9, rfl⟩ | ⟨hm9, rfl⟩
        · refine lv_istore (lv' := [(6, .int r91), (5, .int 2), (4, .int 0), (3, .ref q50), (2, .ref q21), (1, .ref q1), (0, .ref b)]) hx hb d_La_law_243 hl (by decide) rfl (fun ls hl => ?_)
          refine lv_aload_n hx hb d_La_law_245 rfl (lv_at hl 4 rfl) ?_
          have hPc := hP.sub (ws' := [(q21, .inr (6, fz))]) [17] rfl
          have hDc := hD.sub (ws' := [(q21, .inr (6, fz))]) [17] (by decide) rfl
          have hFc := va_free (wc := [(q21, .inr (6, fz))]) hD hS hA [17] rfl
          refine va_calli (va_runV (As := []) (rest := []) ⟨hx, hb, hml, hown, hts⟩ (c_Mo_thrown l dC dI ar N0 z q21 fz (2) H.size hfz) (cwV 0 hts (x_goodV k_1105 k_1106 k_1107 k_9 k_1108) rfl rfl rfl (by decide +kernel) ⟨Nat.le_of_ble_eq_true rfl, Nat.le_of_ble_eq_true rfl⟩) ⟨x_blind, va_recv hK hPc (ci := 6) (q0 := 0) rfl rfl, fun U hU9 hW => x_pre hU9 hW hPc hDc hU hZ hS hAN hN0⟩ rfl rfl hl.1 rfl (lv_room (Nat.le_of_ble_eq_true rfl)) d_La_law_246 ⟨Nat.le_of_ble_eq_true rfl, Nat.le_of_ble_eq_true rfl⟩) hS (fun q _ h => hFc q h) hFc (fun r93 u94 t H1 locs ht hvm hw hB hz1 hk1 hS => ?_)
          obtain ⟨hP1, hD1⟩ := hB
          rw [ht] at hP1
          obtain ⟨hP, hD⟩ := va_join (wr := [(q6, .inl (ar 0, 6, .inl (fun _ => 0))), (q7, .inl (ar 4, 6, .inr (.inr (.inr (.inr g))))), (q15, .inr (1, [.null, .null, .int (-1), .null])), (q16, .inr (1, [.null, .null, .int (-1), .null])), (q17, .inr (1, [.null, .null, .int (-1), .null])), (q18, .inr (1, [.null, .null, .int (-1), .null])), (q19, .inr (1, [.null, .null, .int (-1), .null])), (q20, .inr (1, [.null, .null, .int (-1), .null])), (q8, .inr (4, [.ref q9, .int 0])), (q10, .inr (4, [.ref q11, .int 0])), (q12, .inr (0, [.ref (z 0), .int 0, .int 0])), (q13, .inr (0, [.ref (z 0), .int 0, .int 0])), (q2, .inr (3, [.ref q3, .ref q4, .int 0, .int 0, .int 0, .int 0, .int 0, .int 0, .null])), (q3, .inl (ar 1, 72, .inl (fun _ => 0))), (q25, .inl (ar 0, 6, .inl (fun _ => 0))), (q22, .inl (ar 0, 72, .inl (fun _ => 0))), (q50, .inl (ar 2, 1, .inr (.inl u83)))]) (w1 := [(q21, .inr (6, fz))]) hP hD [17] [0, 1, 2, 3, 4, 5, 6, 7, 8, 9, 10, 11, 12, 13, 14, 15, 16] rfl rfl (by decide) (by decide) hk1 hFc hP1 hD1
          generalize H1 = H at hP hS ⊢
          have hP : va_P (dC, dI) x_cl [(q6, .inl (ar 0, 6, .inl (fun _ => 0))), (q7, .inl (ar 4, 6, .inr (.inr (.inr (.inr g))))), (q15, .inr (1, [.null, .null, .int (-1), .null])), (q16, .inr (1, [.null, .null, .int (-1), .null])), (q17, .inr (1, [.null, .null, .int (-1), .null])), (q18, .inr (1, [.null, .null, .int (-1), .null])), (q19, .inr (1, [.null, .null, .int (-1), .null])), (q20, .inr (1, [.null, .null, .int (-1), .null])), (q8, .inr (4, [.ref q9, .int 0])), (q10, .inr (4, [.ref q11, .int 0])), (q12, .inr (0, [.ref (z 0), .int 0, .int 0])), (q13, .inr (0, [.ref (z 0), .int 0, .int 0])), (q2, .inr (3, [.ref q3, .ref q4, .int 0, .int 0, .int 0, .int 0, .int 0, .int 0, .null])), (q3, .inl (ar 1, 72, .inl (fun _ => 0))), (q25, .inl (ar 0, 6, .inl (fun _ => 0))), (q22, .inl (ar 0, 72, .inl (fun _ => 0))), (q50, .inl (ar 2, 1, .inr (.inl u83))), (q21, .inr (6, fz))] H := hP
          have hD : va_D A [(q6, .inl (ar 0, 6, .inl (fun _ => 0))), (q7, .inl (ar 4, 6, .inr (.inr (.inr (.inr g))))), (q15, .inr (1, [.null, .null, .int (-1), .null])), (q16, .inr (1, [.null, .null, .int (-1), .null])), (q17, .inr (1, [.null, .null, .int (-1), .null])), (q18, .inr (1, [.null, .null, .int (-1), .null])), (q19, .inr (1, [.null, .null, .int (-1), .null])), (q20, .inr (1, [.null, .null, .int (-1), .null])), (q8, .inr (4, [.ref q9, .int 0])), (q10, .inr (4, [.ref q11, .int 0])), (q12, .inr (0, [.ref (z 0), .int 0, .int 0])), (q13, .inr (0, [.ref (z 0), .int 0, .int 0])), (q2, .inr (3, [.ref q3, .ref q4, .int 0, .int 0, .int 0, .int 0, .int 0, .int 0, .null])), (q3, .inl (ar 1, 72, .inl (fun _ => 0))), (q25, .inl (ar 0, 6, .inl (fun _ => 0))), (q22, .inl (ar 0, 72, .inl (fun _ => 0))), (q50, .inl (ar 2, 1, .inr (.inl u83))), (q21, .inr (6, fz))] := hD
          refine W.widen (k := 51) (n := 4333) (Nat.le_of_ble_eq_true rfl) (Nat.le_of_ble_eq_true rfl) ?_
          obtain rfl := hw
          refine lv_iload hx hb d_La_law_249 (lv_at hl 1 rfl) ?_
          refine lv_icmp_eq (tgt := 256) hx hb d_La_law_251 (by decide) (fun _ => ?_) (fun c95 => absurd (by decide) c95)
          refine lv_iload hx hb d_La_law_256 (lv_at hl 1 rfl) ?_
          refine lv_if_ne (tgt := 273) hx hb d_La_law_258 (by decide) (fun _ => ?_) (fun c96 => absurd c96 (by decide))
          refine lv_goto (tgt := 561) hx hb d_La_law_273 (by decide) ?_
          refine lv_iinc (v := 3) (lv' := [(4, .int 3), (6, .int r91), (5, .int 2), (3, .ref q50), (2, .ref q21), (1, .ref q1), (0, .ref b)]) hx hb d_La_law_561 hl (k := 2) rfl (by decide) (by decide) rfl (fun ls hl => ?_)
          refine lv_goto (tgt := 23) hx hb d_La_law_564 (by decide) ?_
          refine lv_iload hx hb d_La_law_23 (lv_at hl 0 rfl) ?_
          refine lv_aload_n hx hb d_La_law_25 rfl (lv_at hl 6 rfl) ?_
          refine va_slen hx hb hX hbl hbA hS d_La_law_26 ?_
          refine lv_iconst (v := 3) hx hb d_La_law_27 (by decide) ?_
          refine lv_isub hx hb d_La_law_28 ?_
          refine W.eq (g2 := F0 m 29 ls [.int 0, .int 3]) (by rw [show (Int32.ofNat 3 - 3 : Int32) = 0 from by decide]) ?_
          refine lv_icmp_gt (tgt := 567) hx hb d_La_law_29 (by decide) (fun _ => ?_) (fun c97 => absurd (by decide) c97)
          refine lv_iconst (v := 1) hx hb d_La_law_567 (by decide) ?_
          refine va_forget (fun q h => by rw [← hNe]; exact hAN _ (hS.2.2 q h)) ?_
          refine W.widen (k := 600002) (n := 7302232) (Nat.le_of_ble_eq_true rfl) (Nat.le_of_ble_eq_true rfl) ?_
          exact lw_ret hx hb hr hlocks d_La_law_568
        · exact (x_d4 ha hm9).elim
    · refine lv_tableIn (tgt := 276) hx hb d_La_law_39 (by decide) (by decide) (off := 237) rfl (by decide) ?_
      refine lv_aload_n hx hb d_La_law_276 rfl (lv_at hl 3 rfl) ?_
      refine lv_aload_n hx hb d_La_law_277 rfl (lv_at hl 4 rfl) ?_
      refine lv_iload hx hb d_La_law_278 (lv_at hl 0 rfl) ?_
      refine lv_iconst (v := 1) hx hb d_La_law_280 (by decide) ?_
      refine lv_iadd hx hb d_La_law_281 ?_
      refine W.eq (g2 := F0 m 282 ls [.int 1, .ref b, .ref q1]) rfl ?_
      refine va_sld hx hb hX hbl hbA hS (i := 1) (by unfold vp_in; decide) d_La_law_282 ?_
      refine W.eq (g2 := F0 m 283 ls [.int (xs 1), .ref q1]) (by rw [show Int32.toNatClampNeg (1 : Int32) = 1 from by decide]) ?_
      refine lv_aload_n hx hb d_La_law_283 rfl (lv_at hl 1 rfl) ?_
      have hPc := hP.sub (ws' := [(q50, .inl (ar 2, 1, .inr (.inl (fun _ => 0)))), (q1, .inr (5, [.ref q2, .ref q5, .int (-1)])), (q5, .inr (2, [.ref q6, .ref q7, .ref q8, .ref q10, .ref q12, .ref q13, .ref q14, .int 0, .int 0, .int 0, .long 0]))]) [0, 1, 2] rfl
      have hDc := hD.sub (ws' := [(q50, .inl (ar 2, 1, .inr (.inl (fun _ => 0)))), (q1, .inr (5, [.ref q2, .ref q5, .int (-1)])), (q5, .inr (2, [.ref q6, .ref q7, .ref q8, .ref q10, .ref q12, .ref q13, .ref q14, .int 0, .int 0, .int 0, .long 0]))]) [0, 1, 2] (by decide) rfl
      have hFc := va_free (wc := [(q50, .inl (ar 2, 1, .inr (.inl (fun _ => 0)))), (q1, .inr (5, [.ref q2, .ref q5, .int (-1)])), (q5, .inr (2, [.ref q6, .ref q7, .ref q8, .ref q10, .ref q12, .ref q13, .ref q14, .int 0, .int 0, .int 0, .long 0]))]) hD hS hA [0, 1, 2] rfl
      refine va_calli (vx_runSW (As := [.ref q1, .int (xs 1), .ref q50]) (rest := []) ⟨hx, hb, hml, hown, hts⟩ (c_La_give l hst dC dI ar N0 z q50 q1 q2 q5 q6 q7 q8 q10 q12 q13 q14 (xs 1) H.size ) (vx_cwSW 3 hts (x_goodSW k_897 k_898 k_0 k_899) rfl rfl rfl (by decide +kernel) ⟨Nat.le_of_ble_eq_true rfl, Nat.le_of_ble_eq_true rfl⟩) ⟨x_blind, fun U hU9 hW => x_pre hU9 hW hPc hDc hU hZ hS hAN hN0⟩ rfl rfl hl.1 rfl (lv_room (Nat.le_of_ble_eq_true rfl)) d_La_law_284 ⟨Nat.le_of_ble_eq_true rfl, Nat.le_of_ble_eq_true rfl⟩) hS (fun q _ h => hFc q h) hFc (fun r98 u99 t H1 locs ht hvm hw hB hz1 hk1 hS => ?_)
      obtain ⟨hP1, hD1⟩ := hB
      rw [ht] at hP1
      obtain ⟨hP, hD⟩ := va_join (wr := [(q6, .inl (ar 0, 6, .inl (fun _ => 0))), (q7, .inl (ar 4, 6, .inr (.inr (.inr (.inr g))))), (q15, .inr (1, [.null, .null, .int (-1), .null])), (q16, .inr (1, [.null, .null, .int (-1), .null])), (q17, .inr (1, [.null, .null, .int (-1), .null])), (q18, .inr (1, [.null, .null, .int (-1), .null])), (q19, .inr (1, [.null, .null, .int (-1), .null])), (q20, .inr (1, [.null, .null, .int (-1), .null])), (q8, .inr (4, [.ref q9, .int 0])), (q10, .inr (4, [.ref q11, .int 0])), (q12, .inr (0, [.ref (z 0), .int 0, .int 0])), (q13, .inr (0, [.ref (z 0), .int 0, .int 0])), (q2, .inr (3, [.ref q3, .ref q4, .int 0, .int 0, .int 0, .int 0, .int 0, .int 0, .null])), (q3, .inl (ar 1, 72, .inl (fun _ => 0))), (q21, .inr (6, fs)), (q25, .inl (ar 0, 6, .inl (fun _ => 0))), (q22, .inl (ar 0, 72, .inl (fun _ => 0)))]) (w1 := [(q50, .inl (ar 2, 1, .inr (.inl u99)))]) hP hD [0, 1, 2] [3, 4, 5, 6, 7, 8, 9, 10, 11, 12, 13, 14, 15, 16, 17, 18, 19] rfl rfl (by decide) (by decide) hk1 hFc hP1 hD1
      generalize H1 = H at hP hS ⊢
      have hP : va_P (dC, dI) x_cl [(q6, .inl (ar 0, 6, .inl (fun _ => 0))), (q7, .inl (ar 4, 6, .inr (.inr (.inr (.inr g))))), (q15, .inr (1, [.null, .null, .int (-1), .null])), (q16, .inr (1, [.null, .null, .int (-1), .null])), (q17, .inr (1, [.null, .null, .int (-1), .null])), (q18, .inr (1, [.null, .null, .int (-1), .null])), (q19, .inr (1, [.null, .null, .int (-1), .null])), (q20, .inr (1, [.null, .null, .int (-1), .null])), (q8, .inr (4, [.ref q9, .int 0])), (q10, .inr (4, [.ref q11, .int 0])), (q12, .inr (0, [.ref (z 0), .int 0, .int 0])), (q13, .inr (0, [.ref (z 0), .int 0, .int 0])), (q2, .inr (3, [.ref q3, .ref q4, .int 0, .int 0, .int 0, .int 0, .int 0, .int 0, .null])), (q3, .inl (ar 1, 72, .inl (fun _ => 0))), (q21, .inr (6, fs)), (q25, .inl (ar 0, 6, .inl (fun _ => 0))), (q22, .inl (ar 0, 72, .inl (fun _ => 0))), (q50, .inl (ar 2, 1, .inr (.inl u99)))] H := hP
      have hD : va_D A [(q6, .inl (ar 0, 6, .inl (fun _ => 0))), (q7, .inl (ar 4, 6, .inr (.inr (.inr (.inr g))))), (q15, .inr (1, [.null, .null, .int (-1), .null])), (q16, .inr (1, [.null, .null, .int (-1), .null])), (q17, .inr (1, [.null, .null, .int (-1), .null])), (q18, .inr (1, [.null, .null, .int (-1), .null])), (q19, .inr (1, [.null, .null, .int (-1), .null])), (q20, .inr (1, [.null, .null, .int (-1), .null])), (q8, .inr (4, [.ref q9, .int 0])), (q10, .inr (4, [.ref q11, .int 0])), (q12, .inr (0, [.ref (z 0), .int 0, .int 0])), (q13, .inr (0, [.ref (z 0), .int 0, .int 0])), (q2, .inr (3, [.ref q3, .ref q4, .int 0, .int 0, .int 0, .int 0, .int 0, .int 0, .null])), (q3, .inl (ar 1, 72, .inl (fun _ => 0))), (q21, .inr (6, fs)), (q25, .inl (ar 0, 6, .inl (fun _ => 0))), (q22, .inl (ar 0, 72, .inl (fun _ => 0))), (q50, .inl (ar 2, 1, .inr (.inl u99)))] := hD
      refine W.widen (k := 51) (n := 4333) (Nat.le_of_ble_eq_true rfl) (Nat.le_of_ble_eq_true rfl) ?_
      obtain rfl := hw
      refine lv_istore (lv' := [(5, .int 1), (4, .int 0), (3, .ref q50), (2, .ref q21), (1, .ref q1), (0, .ref b)]) hx hb d_La_law_287 hl (by decide) rfl (fun ls hl => ?_)
      refine lv_aload_n hx hb d_La_law_289 rfl (lv_at hl 3 rfl) ?_
      refine lv_aload_n hx hb d_La_law_290 rfl (lv_at hl 5 rfl) ?_
      refine lv_iload hx hb d_La_law_291 (lv_at hl 1 rfl) ?_
      refine lv_iconst (v := 1) hx hb d_La_law_293 (by decide) ?_
      refine lv_iadd hx hb d_La_law_294 ?_
      refine W.eq (g2 := F0 m 295 ls [.int 1, .ref b, .ref q21]) rfl ?_
      refine va_sld hx hb hX hbl hbA hS (i := 1) (by unfold vp_in; decide) d_La_law_295 ?_
      refine W.eq (g2 := F0 m 296 ls [.int (xs 1), .ref q21]) (by rw [show Int32.toNatClampNeg (1 : Int32) = 1 from by decide]) ?_
      have hPc := hP.sub (ws' := [(q21, .inr (6, fs))]) [14] rfl
      have hDc := hD.sub (ws' := [(q21, .inr (6, fs))]) [14] (by decide) rfl
      have hFc := va_free (wc := [(q21, .inr (6, fs))]) hD hS hA [14] rfl
      refine va_calli (va_runV (As := [.int (xs 1)]) (rest := []) ⟨hx, hb, hml, hown, hts⟩ (c_Mo_give l dC dI ar N0 z q21  fs (xs 1) H.size hfs g_status) (cwV 1 hts (x_goodV k_1266 k_1267 k_1268 k_9 k_1269) rfl rfl rfl (by decide +kernel) ⟨Nat.le_of_ble_eq_true rfl, Nat.le_of_ble_eq_true rfl⟩) ⟨x_blind, va_recv hK hPc (ci := 6) (q0 := 0) rfl rfl, fun U hU9 hW => x_pre hU9 hW hPc hDc hU hZ hS hAN hN0⟩ rfl rfl hl.1 rfl (lv_room (Nat.le_of_ble_eq_true rfl)) d_La_law_296 ⟨Nat.le_of_ble_eq_true rfl, Nat.le_of_ble_eq_true rfl⟩) hS (fun q _ h => hFc q h) hFc (fun r100 u101 t H1 locs ht hvm hw hB hz1 hk1 hS => ?_)
      obtain ⟨fz, hP1, hD1, hfz⟩ := hB
      rw [ht] at hP1
      obtain ⟨hP, hD⟩ := va_join (wr := [(q6, .inl (ar 0, 6, .inl (fun _ => 0))), (q7, .inl (ar 4, 6, .inr (.inr (.inr (.inr g))))), (q15, .inr (1, [.null, .null, .int (-1), .null])), (q16, .inr (1, [.null, .null, .int (-1), .null])), (q17, .inr (1, [.null, .null, .int (-1), .null])), (q18, .inr (1, [.null, .null, .int (-1), .null])), (q19, .inr (1, [.null, .null, .int (-1), .null])), (q20, .inr (1, [.null, .null, .int (-1), .null])), (q8, .inr (4, [.ref q9, .int 0])), (q10, .inr (4, [.ref q11, .int 0])), (q12, .inr (0, [.ref (z 0), .int 0, .int 0])), (q13, .inr (0, [.ref (z 0), .int 0, .int 0])), (q2, .inr (3, [.ref q3, .ref q4, .int 0, .int 0, .int 0, .int 0, .int 0, .int 0, .null])), (q3, .inl (ar 1, 72, .inl (fun _ => 0))), (q25, .inl (ar 0, 6, .inl (fun _ => 0))), (q22, .inl (ar 0, 72, .inl (fun _ => 0))), (q50, .inl (ar 2, 1, .inr (.inl u99)))]) (w1 := [(q21, .inr (6, fz))]) hP hD [14] [0, 1, 2, 3, 4, 5, 6, 7, 8, 9, 10, 11, 12, 13, 15, 16, 17] rfl rfl (by decide) (by decide) hk1 hFc hP1 hD1
      generalize H1 = H at hP hS ⊢
      have hP : va_P (dC, dI) x_cl [(q6, .inl (ar 0, 6, .inl (fun _ => 0))), (q7, .inl (ar 4, 6, .inr (.inr (.inr (.inr g))))), (q15, .inr (1, [.null, .null, .int (-1), .null])), (q16, .inr (1, [.null, .null, .int (-1), .null])), (q17, .inr (1, [.null, .null, .int (-1), .null])), (q18, .inr (1, [.null, .null, .int (-1), .null])), (q19, .inr (1, [.null, .null, .int (-1), .null])), (q20, .inr (1, [.null, .null, .int (-1), .null])), (q8, .inr (4, [.ref q9, .int 0])), (q10, .inr (4, [.ref q11, .int 0])), (q12, .inr (0, [.ref (z 0), .int 0, .int 0])), (q13, .inr (0, [.ref (z 0), .int 0, .int 0])), (q2, .inr (3, [.ref q3, .ref q4, .int 0, .int 0, .int 0, .int 0, .int 0, .int 0, .null])), (q3, .inl (ar 1, 72, .inl (fun _ => 0))), (q25, .inl (ar 0, 6, .inl (fun _ => 0))), (q22, .inl (ar 0, 72, .inl (fun _ => 0))), (q50, .inl (ar 2, 1, .inr (.inl u99))), (q21, .inr (6, fz))] H := hP
      have hD : va_D A [(q6, .inl (ar 0, 6, .inl (fun _ => 0))), (q7, .inl (ar 4, 6, .inr (.inr (.inr (.inr g))))), (q15, .inr (1, [.null, .null, .int (-1), .null])), (q16, .inr (1, [.null, .null, .int (-1), .null])), (q17, .inr (1, [.null, .null, .int (-1), .null])), (q18, .inr (1, [.null, .null, .int (-1), .null])), (q19, .inr (1, [.null, .null, .int (-1), .null])), (q20, .inr (1, [.null, .null, .int (-1), .null])), (q8, .inr (4, [.ref q9, .int 0])), (q10, .inr (4, [.ref q11, .int 0])), (q12, .inr (0, [.ref (z 0), .int 0, .int 0])), (q13, .inr (0, [.ref (z 0), .int 0, .int 0])), (q2, .inr (3, [.ref q3, .ref q4, .int 0, .int 0, .int 0, .int 0, .int 0, .int 0, .null])), (q3, .inl (ar 1, 72, .inl (fun _ => 0))), (q25, .inl (ar 0, 6, .inl (fun _ => 0))), (q22, .inl (ar 0, 72, .inl (fun _ => 0))), (q50, .inl (ar 2, 1, .inr (.inl u99))), (q21, .inr (6, fz))] := hD
      refine W.widen (k := 51) (n := 4333) (Nat.le_of_ble_eq_true rfl) (Nat.le_of_ble_eq_true rfl) ?_
      obtain rfl := hw
      refine lv_istore (lv' := [(6, .int r100), (5, .int 1), (4, .int 0), (3, .ref q50), (2, .ref q21), (1, .ref q1), (0, .ref b)]) hx hb d_La_law_299 hl (by decide) rfl (fun ls hl => ?_)
      refine lv_aload_n hx hb d_La_law_301 rfl (lv_at hl 4 rfl) ?_
      have hPc := hP.sub (ws' := [(q21, .inr (6, fz))]) [17] rfl
      have hDc := hD.sub (ws' := [(q21, .inr (6, fz))]) [17] (by decide) rfl
      have hFc := va_free (wc := [(q21, .inr (6, fz))]) hD hS hA [17] rfl
      refine va_calli (va_runV (As := []) (rest := []) ⟨hx, hb, hml, hown, hts⟩ (c_Mo_thrown l dC dI ar N0 z q21 fz (1) H.size hfz) (cwV 0 hts (x_goodV k_1105 k_1106 k_1107 k_9 k_1108) rfl rfl rfl (by decide +kernel) ⟨Nat.le_of_ble_eq_true rfl, Nat.le_of_ble_eq_true rfl⟩) ⟨x_blind, va_recv hK hPc (ci := 6) (q0 := 0) rfl rfl, fun U hU9 hW => x_pre hU9 hW hPc hDc hU hZ hS hAN hN0⟩ rfl rfl hl.1 rfl (lv_room (Nat.le_of_ble_eq_true rfl)) d_La_law_302 ⟨Nat.le_of_ble_eq_true rfl, Nat.le_of_ble_eq_true rfl⟩) hS (fun q _ h => hFc q h) hFc (fun r102 u103 t H1 locs ht hvm hw hB hz1 hk1 hS => ?_)
      obtain ⟨hP1, hD1⟩ := hB
      rw [ht] at hP1
      obtain ⟨hP, hD⟩ := va_join (wr := [(q6, .inl (ar 0, 6, .inl (fun _ => 0))), (q7, .inl (ar 4, 6, .inr (.inr (.inr (.inr g))))), (q15, .inr (1, [.null, .null, .int (-1), .null])), (q16, .inr (1, [.null, .null, .int (-1), .null])), (q17, .inr (1, [.null, .null, .int (-1), .null])), (q18, .inr (1, [.null, .null, .int (-1), .null])), (q19, .inr (1, [.null, .null, .int (-1), .null])), (q20, .inr (1, [.null, .null, .int (-1), .null])), (q8, .inr (4, [.ref q9, .int 0])), (q10, .inr (4, [.ref q11, .int 0])), (q12, .inr (0, [.ref (z 0), .int 0, .int 0])), (q13, .inr (0, [.ref (z 0), .int 0, .int 0])), (q2, .inr (3, [.ref q3, .ref q4, .int 0, .int 0, .int 0, .int 0, .int 0, .int 0, .null])), (q3, .inl (ar 1, 72, .inl (fun _ => 0))), (q25, .inl (ar 0, 6, .inl (fun _ => 0))), (q22, .inl (ar 0, 72, .inl (fun _ => 0))), (q50, .inl (ar 2, 1, .inr (.inl u99)))]) (w1 := [(q21, .inr (6, fz))]) hP hD [17] [0, 1, 2, 3, 4, 5, 6, 7, 8, 9, 10, 11, 12, 13, 14, 15, 16] rfl rfl (by decide) (by decide) hk1 hFc hP1 hD1
      generalize H1 = H at hP hS ⊢
      have hP : va_P (dC, dI) x_cl [(q6, .inl (ar 0, 6, .inl (fun _ => 0))), (q7, .inl (ar 4, 6, .inr (.inr (.inr (.inr g))))), (q15, .inr (1, [.null, .null, .int (-1), .null])), (q16, .inr (1, [.null, .null, .int (-1), .null])), (q17, .inr (1, [.null, .null, .int (-1), .null])), (q18, .inr (1, [.null, .null, .int (-1), .null])), (q19, .inr (1, [.null, .null, .int (-1), .null])), (q20, .inr (1, [.null, .null, .int (-1), .null])), (q8, .inr (4, [.ref q9, .int 0])), (q10, .inr (4, [.ref q11, .int 0])), (q12, .inr (0, [.ref (z 0), .int 0, .int 0])), (q13, .inr (0, [.ref (z 0), .int 0, .int 0])), (q2, .inr (3, [.ref q3, .ref q4, .int 0, .int 0, .int 0, .int 0, .int 0, .int 0, .null])), (q3, .inl (ar 1, 72, .inl (fun _ => 0))), (q25, .inl (ar 0, 6, .inl (fun _ => 0))), (q22, .inl (ar 0, 72, .inl (fun _ => 0))), (q50, .inl (ar 2, 1, .inr (.inl u99))), (q21, .inr (6, fz))] H := hP
      have hD : va_D A [(q6, .inl (ar 0, 6, .inl (fun _ => 0))), (q7, .inl (ar 4, 6, .inr (.inr (.inr (.inr g))))), (q15, .inr (1, [.null, .null, .int (-1), .null])), (q16, .inr (1, [.null, .null, .int (-1), .null])), (q17, .inr (1, [.null, .null, .int (-1), .null])), (q18, .inr (1, [.null, .null, .int (-1), .null])), (q19, .inr (1, [.null, .null, .int (-1), .null])), (q20, .inr (1, [.null, .null, .int (-1), .null])), (q8, .inr (4, [.ref q9, .int 0])), (q10, .inr (4, [.ref q11, .int 0])), (q12, .inr (0, [.ref (z 0), .int 0, .int 0])), (q13, .inr (0, [.ref (z 0), .int 0, .int 0])), (q2, .inr (3, [.ref q3, .ref q4, .int 0, .int 0, .int 0, .int 0, .int 0, .int 0, .null])), (q3, .inl (ar 1, 72, .inl (fun _ => 0))), (q25, .inl (ar 0, 6, .inl (fun _ => 0))), (q22, .inl (ar 0, 72, .inl (fun _ => 0))), (q50, .inl (ar 2, 1, .inr (.inl u99))), (q21, .inr (6, fz))] := hD
      refine W.widen (k := 51) (n := 4333) (Nat.le_of_ble_eq_true rfl) (Nat.le_of_ble_eq_true rfl) ?_
      obtain rfl := hw
      refine lv_iload hx hb d_La_law_305 (lv_at hl 1 rfl) ?_
      refine lv_icmp_eq (tgt := 312) hx hb d_La_law_307 (by decide) (fun _ => ?_) (fun c104 => absurd (by decide) c104)
      refine lv_iload hx hb d_La_law_312 (lv_at hl 1 rfl) ?_
      refine lv_if_ne (tgt := 329) hx hb d_La_law_314 (by decide) (fun _ => ?_) (fun c105 => absurd c105 (by decide))
      refine lv_goto (tgt := 561) hx hb d_La_law_329 (by decide) ?_
      refine lv_iinc (v := 3) (lv' := [(4, .int 3), (6, .int r100), (5, .int 1), (3, .ref q50), (2, .ref q21), (1, .ref q1), (0, .ref b)]) hx hb d_La_law_561 hl (k := 2) rfl (by decide) (by decide) rfl (fun ls hl => ?_)
      refine lv_goto (tgt := 23) hx hb d_La_law_564 (by decide) ?_
      refine lv_iload hx hb d_La_law_23 (lv_at hl 0 rfl) ?_
      refine lv_aload_n hx hb d_La_law_25 rfl (lv_at hl 6 rfl) ?_
      refine va_slen hx hb hX hbl hbA hS d_La_law_26 ?_
      refine lv_iconst (v := 3) hx hb d_La_law_27 (by decide) ?_
      refine lv_isub hx hb d_La_law_28 ?_
      refine W.eq (g2 := F0 m 29 ls [.int 0, .int 3]) (by rw [show (Int32.ofNat 3 - 3 : Int32) = 0 from by decide]) ?_
      refine lv_icmp_gt (tgt := 567) hx hb d_La_law_29 (by decide) (fun _ => ?_) (fun c106 => absurd (by decide) c106)
      refine lv_iconst (v := 1) hx hb d_La_law_567 (by decide) ?_
      refine va_forget (fun q h => by rw [← hNe]; exact hAN _ (hS.2.2 q h)) ?_
      refine W.widen (k := 600002) (n := 7302232) (Nat.le_of_ble_eq_true rfl) (Nat.le_of_ble_eq_true rfl) ?_
      exact lw_ret hx hb hr hlocks d_La_law_568
    · refine lv_tableIn (tgt := 332) hx hb d_La_law_39 (by decide) (by decide) (off := 293) rfl (by decide) ?_
      refine lv_aload_n hx hb d_La_law_332 rfl (lv_at hl 3 rfl) ?_
      refine lv_aload_n hx hb d_La_law_333 rfl (lv_at hl 1 rfl) ?_
      have hPc := hP.sub (ws' := [(q50, .inl (ar 2, 1, .inr (.inl (fun _ => 0)))), (q1, .inr (5, [.ref q2, .ref q5, .int (-1)])), (q5, .inr (2, [.ref q6, .ref q7, .ref q8, .ref q10, .ref q12, .ref q13, .ref q14, .int 0, .int 0, .int 0, .long 0])), (q10, .inr (4, [.ref q11, .int 0]))]) [0, 1, 2, 12] rfl
      have hDc := hD.sub (ws' := [(q50, .inl (ar 2, 1, .inr (.inl (fun _ => 0)))), (q1, .inr (5, [.ref q2, .ref q5, .int (-1)])), (q5, .inr (2, [.ref q6, .ref q7, .ref q8, .ref q10, .ref q12, .ref q13, .ref q14, .int 0, .int 0, .int 0, .long 0])), (q10, .inr (4, [.ref q11, .int 0]))]) [0, 1, 2, 12] (by decide) rfl
      have hFc := va_free (wc := [(q50, .inl (ar 2, 1, .inr (.inl (fun _ => 0)))), (q1, .inr (5, [.ref q2, .ref q5, .int (-1)])), (q5, .inr (2, [.ref q6, .ref q7, .ref q8, .ref q10, .ref q12, .ref q13, .ref q14, .int 0, .int 0, .int 0, .long 0])), (q10, .inr (4, [.ref q11, .int 0]))]) hD hS hA [0, 1, 2, 12] rfl
      refine va_calli (vx_runSW (As := [.ref q1, .ref q50]) (rest := []) ⟨hx, hb, hml, hown, hts⟩ (c_La_take l hst dC dI ar N0 z q50 q1 q2 q5 q6 q7 q8 q10 q12 q13 q14 q11 H.size ) (vx_cwSW 2 hts (x_goodSW k_910 k_911 k_0 k_912) rfl rfl rfl (by decide +kernel) ⟨Nat.le_of_ble_eq_true rfl, Nat.le_of_ble_eq_true rfl⟩) ⟨x_blind, fun U hU9 hW => x_pre hU9 hW hPc hDc hU hZ hS hAN hN0⟩ rfl rfl hl.1 rfl (lv_room (Nat.le_of_ble_eq_true rfl)) d_La_law_334 ⟨Nat.le_of_ble_eq_true rfl, Nat.le_of_ble_eq_true rfl⟩) hS (fun q _ h => hFc q h) hFc (fun r107 u108 t H1 locs ht hvm hw hB hz1 hk1 hS => ?_)
      obtain ⟨hP1, hD1⟩ := hB
      rw [ht] at hP1
      obtain ⟨hP, hD⟩ := va_join (wr := [(q6, .inl (ar 0, 6, .inl (fun _ => 0))), (q7, .inl (ar 4, 6, .inr (.inr (.inr (.inr g))))), (q15, .inr (1, [.null, .null, .int (-1), .null])), (q16, .inr (1, [.null, .null, .int (-1), .null])), (q17, .inr (1, [.null, .null, .int (-1), .null])), (q18, .inr (1, [.null, .null, .int (-1), .null])), (q19, .inr (1, [.null, .null, .int (-1), .null])), (q20, .inr (1, [.null, .null, .int (-1), .null])), (q8, .inr (4, [.ref q9, .int 0])), (q12, .inr (0, [.ref (z 0), .int 0, .int 0])), (q13, .inr (0, [.ref (z 0), .int 0, .int 0])), (q2, .inr (3, [.ref q3, .ref q4, .int 0, .int 0, .int 0, .int 0, .int 0, .int 0, .null])), (q3, .inl (ar 1, 72, .inl (fun _ => 0))), (q21, .inr (6, fs)), (q25, .inl (ar 0, 6, .inl (fun _ => 0))), (q22, .inl (ar 0, 72, .inl (fun _ => 0)))]) (w1 := [(q50, .inl (ar 2, 1, .inr (.inl u108)))]) hP hD [0, 1, 2, 12] [3, 4, 5, 6, 7, 8, 9, 10, 11, 13, 14, 15, 16, 17, 18, 19] rfl rfl (by decide) (by decide) hk1 hFc hP1 hD1
      generalize H1 = H at hP hS ⊢
      have hP : va_P (dC, dI) x_cl [(q6, .inl (ar 0, 6, .inl (fun _ => 0))), (q7, .inl (ar 4, 6, .inr (.inr (.inr (.inr g))))), (q15, .inr (1, [.null, .null, .int (-1), .null])), (q16, .inr (1, [.null, .null, .int (-1), .null])), (q17, .inr (1, [.null, .null, .int (-1), .null])), (q18, .inr (1, [.null, .null, .int (-1), .null])), (q19, .inr (1, [.null, .null, .int (-1), .null])), (q20, .inr (1, [.null, .null, .int (-1), .null])), (q8, .inr (4, [.ref q9, .int 0])), (q12, .inr (0, [.ref (z 0), .int 0, .int 0])), (q13, .inr (0, [.ref (z 0), .int 0, .int 0])), (q2, .inr (3, [.ref q3, .ref q4, .int 0, .int 0, .int 0, .int 0, .int 0, .int 0, .null])), (q3, .inl (ar 1, 72, .inl (fun _ => 0))), (q21, .inr (6, fs)), (q25, .inl (ar 0, 6, .inl (fun _ => 0))), (q22, .inl (ar 0, 72, .inl (fun _ => 0))), (q50, .inl (ar 2, 1, .inr (.inl u108)))] H := hP
      have hD : va_D A [(q6, .inl (ar 0, 6, .inl (fun _ => 0))), (q7, .inl (ar 4, 6, .inr (.inr (.inr (.inr g))))), (q15, .inr (1, [.null, .null, .int (-1), .null])), (q16, .inr (1, [.null, .null, .int (-1), .null])), (q17, .inr (1, [.null, .null, .int (-1), .null])), (q18, .inr (1, [.null, .null, .int (-1), .null])), (q19, .inr (1, [.null, .null, .int (-1), .null])), (q20, .inr (1, [.null, .null, .int (-1), .null])), (q8, .inr (4, [.ref q9, .int 0])), (q12, .inr (0, [.ref (z 0), .int 0, .int 0])), (q13, .inr (0, [.ref (z 0), .int 0, .int 0])), (q2, .inr (3, [.ref q3, .ref q4, .int 0, .int 0, .int 0, .int 0, .int 0, .int 0, .null])), (q3, .inl (ar 1, 72, .inl (fun _ => 0))), (q21, .inr (6, fs)), (q25, .inl (ar 0, 6, .inl (fun _ => 0))), (q22, .inl (ar 0, 72, .inl (fun _ => 0))), (q50, .inl (ar 2, 1, .inr (.inl u108)))] := hD
      refine W.widen (k := 51) (n := 4333) (Nat.le_of_ble_eq_true rfl) (Nat.le_of_ble_eq_true rfl) ?_
      obtain rfl := hw
      refine lv_istore (lv' := [(5, .int 1), (4, .int 0), (3, .ref q50), (2, .ref q21), (1, .ref q1), (0, .ref b)]) hx hb d_La_law_337 hl (by decide) rfl (fun ls hl => ?_)
      refine lv_aload_n hx hb d_La_law_339 rfl (lv_at hl 3 rfl) ?_
      have hPc := hP.sub (ws' := [(q21, .inr (6, fs))]) [13] rfl
      have hDc := hD.sub (ws' := [(q21, .inr (6, fs))]) [13] (by decide) rfl
      have hFc := va_free (wc := [(q21, .inr (6, fs))]) hD hS hA [13] rfl
      refine va_calli (va_runV (As := []) (rest := []) ⟨hx, hb, hml, hown, hts⟩ (c_Mo_take l dC dI ar N0 z q21  fs  H.size hfs g_boxed) (cwV 0 hts (x_goodV k_1270 k_1271 k_1272 k_9 k_1273) rfl rfl rfl (by decide +kernel) ⟨Nat.le_of_ble_eq_true rfl, Nat.le_of_ble_eq_true rfl⟩) ⟨x_blind, va_recv hK hPc (ci := 6) (q0 := 0) rfl rfl, fun U hU9 hW => x_pre hU9 hW hPc hDc hU hZ hS hAN hN0⟩ rfl rfl hl.1 rfl (lv_room (Nat.le_of_ble_eq_true rfl)) d_La_law_340 ⟨Nat.le_of_ble_eq_true rfl, Nat.le_of_ble_eq_true rfl⟩) hS (fun q _ h => hFc q h) hFc (fun r109 u110 t H1 locs ht hvm hw hB hz1 hk1 hS => ?_)
      obtain ⟨fz, hP1, hD1, hfz⟩ := hB
      rw [ht] at hP1
      obtain ⟨hP, hD⟩ := va_join (wr := [(q6, .inl (ar 0, 6, .inl (fun _ => 0))), (q7, .inl (ar 4, 6, .inr (.inr (.inr (.inr g))))), (q15, .inr (1, [.null, .null, .int (-1), .null])), (q16, .inr (1, [.null, .null, .int (-1), .null])), (q17, .inr (1, [.null, .null, .int (-1), .null])), (q18, .inr (1, [.null, .null, .int (-1), .null])), (q19, .inr (1, [.null, .null, .int (-1), .null])), (q20, .inr (1, [.null, .null, .int (-1), .null])), (q8, .inr (4, [.ref q9, .int 0])), (q12, .inr (0, [.ref (z 0), .int 0, .int 0])), (q13, .inr (0, [.ref (z 0), .int 0, .int 0])), (q2, .inr (3, [.ref q3, .ref q4, .int 0, .int 0, .int 0, .int 0, .int 0, .int 0, .null])), (q3, .inl (ar 1, 72, .inl (fun _ => 0))), (q25, .inl (ar 0, 6, .inl (fun _ => 0))), (q22, .inl (ar 0, 72, .inl (fun _ => 0))), (q50, .inl (ar 2, 1, .inr (.inl u108)))]) (w1 := [(q21, .inr (6, fz))]) hP hD [13] [0, 1, 2, 3, 4, 5, 6, 7, 8, 9, 10, 11, 12, 14, 15, 16] rfl rfl (by decide) (by decide) hk1 hFc hP1 hD1
      generalize H1 = H at hP hS ⊢
      have hP : va_P (dC, dI) x_cl [(q6, .inl (ar 0, 6, .inl (fun _ => 0))), (q7, .inl (ar 4, 6, .inr (.inr (.inr (.inr g))))), (q15, .inr (1, [.null, .null, .int (-1), .null])), (q16, .inr (1, [.null, .null, .int (-1), .null])), (q17, .inr (1, [.null, .null, .int (-1), .null])), (q18, .inr (1, [.null, .null, .int (-1), .null])), (q19, .inr (1, [.null, .null, .int (-1), .null])), (q20, .inr (1, [.null, .null, .int (-1), .null])), (q8, .inr (4, [.ref q9, .int 0])), (q12, .inr (0, [.ref (z 0), .int 0, .int 0])), (q13, .inr (0, [.ref (z 0), .int 0, .int 0])), (q2, .inr (3, [.ref q3, .ref q4, .int 0, .int 0, .int 0, .int 0, .int 0, .int 0, .null])), (q3, .inl (ar 1, 72, .inl (fun _ => 0))), (q25, .inl (ar 0, 6, .inl (fun _ => 0))), (q22, .inl (ar 0, 72, .inl (fun _ => 0))), (q50, .inl (ar 2, 1, .inr (.inl u108))), (q21, .inr (6, fz))] H := hP
      have hD : va_D A [(q6, .inl (ar 0, 6, .inl (fun _ => 0))), (q7, .inl (ar 4, 6, .inr (.inr (.inr (.inr g))))), (q15, .inr (1, [.null, .null, .int (-1), .null])), (q16, .inr (1, [.null, .null, .int (-1), .null])), (q17, .inr (1, [.null, .null, .int (-1), .null])), (q18, .inr (1, [.null, .null, .int (-1), .null])), (q19, .inr (1, [.null, .null, .int (-1), .null])), (q20, .inr (1, [.null, .null, .int (-1), .null])), (q8, .inr (4, [.ref q9, .int 0])), (q12, .inr (0, [.ref (z 0), .int 0, .int 0])), (q13, .inr (0, [.ref (z 0), .int 0, .int 0])), (q2, .inr (3, [.ref q3, .ref q4, .int 0, .int 0, .int 0, .int 0, .int 0, .int 0, .null])), (q3, .inl (ar 1, 72, .inl (fun _ => 0))), (q25, .inl (ar 0, 6, .inl (fun _ => 0))), (q22, .inl (ar 0, 72, .inl (fun _ => 0))), (q50, .inl (ar 2, 1, .inr (.inl u108))), (q21, .inr (6, fz))] := hD
      refine W.widen (k := 51) (n := 4333) (Nat.le_of_ble_eq_true rfl) (Nat.le_of_ble_eq_true rfl) ?_
      obtain rfl := hw
      refine lv_istore (lv' := [(6, .int r109), (5, .int 1), (4, .int 0), (3, .ref q50), (2, .ref q21), (1, .ref q1), (0, .ref b)]) hx hb d_La_law_343 hl (by decide) rfl (fun ls hl => ?_)
      refine lv_aload_n hx hb d_La_law_345 rfl (lv_at hl 4 rfl) ?_
      have hPc := hP.sub (ws' := [(q21, .inr (6, fz))]) [16] rfl
      have hDc := hD.sub (ws' := [(q21, .inr (6, fz))]) [16] (by decide) rfl
      have hFc := va_free (wc := [(q21, .inr (6, fz))]) hD hS hA [16] rfl
      refine va_calli (va_runV (As := []) (rest := []) ⟨hx, hb, hml, hown, hts⟩ (c_Mo_thrown l dC dI ar N0 z q21 fz (1) H.size hfz) (cwV 0 hts (x_goodV k_1105 k_1106 k_1107 k_9 k_1108) rfl rfl rfl (by decide +kernel) ⟨Nat.le_of_ble_eq_true rfl, Nat.le_of_ble_eq_true rfl⟩) ⟨x_blind, va_recv hK hPc (ci := 6) (q0 := 0) rfl rfl, fun U hU9 hW => x_pre hU9 hW hPc hDc hU hZ hS hAN hN0⟩ rfl rfl hl.1 rfl (lv_room (Nat.le_of_ble_eq_true rfl)) d_La_law_346 ⟨Nat.le_of_ble_eq_true rfl, Nat.le_of_ble_eq_true rfl⟩) hS (fun q _ h => hFc q h) hFc (fun r111 u112 t H1 locs ht hvm hw hB hz1 hk1 hS => ?_)
      obtain ⟨hP1, hD1⟩ := hB
      rw [ht] at hP1
      obtain ⟨hP, hD⟩ := va_join (wr := [(q6, .inl (ar 0, 6, .inl (fun _ => 0))), (q7, .inl (ar 4, 6, .inr (.inr (.inr (.inr g))))), (q15, .inr (1, [.null, .null, .int (-1), .null])), (q16, .inr (1, [.null, .null, .int (-1), .null])), (q17, .inr (1, [.null, .null, .int (-1), .null])), (q18, .inr (1, [.null, .null, .int (-1), .null])), (q19, .inr (1, [.null, .null, .int (-1), .null])), (q20, .inr (1, [.null, .null, .int (-1), .null])), (q8, .inr (4, [.ref q9, .int 0])), (q12, .inr (0, [.ref (z 0), .int 0, .int 0])), (q13, .inr (0, [.ref (z 0), .int 0, .int 0])), (q2, .inr (3, [.ref q3, .ref q4, .int 0, .int 0, .int 0, .int 0, .int 0, .int 0, .null])), (q3, .inl (ar 1, 72, .inl (fun _ => 0))), (q25, .inl (ar 0, 6, .inl (fun _ => 0))), (q22, .inl (ar 0, 72, .inl (fun _ => 0))), (q50, .inl (ar 2, 1, .inr (.inl u108)))]) (w1 := [(q21, .inr (6, fz))]) hP hD [16] [0, 1, 2, 3, 4, 5, 6, 7, 8, 9, 10, 11, 12, 13, 14, 15] rfl rfl (by decide) (by decide) hk1 hFc hP1 hD1
      generalize H1 = H at hP hS ⊢
      have hP : va_P (dC, dI) x_cl [(q6, .inl (ar 0, 6, .inl (fun _ => 0))), (q7, .inl (ar 4, 6, .inr (.inr (.inr (.inr g))))), (q15, .inr (1, [.null, .null, .int (-1), .null])), (q16, .inr (1, [.null, .null, .int (-1), .null])), (q17, .inr (1, [.null, .null, .int (-1), .null])), (q18, .inr (1, [.null, .null, .int (-1), .null])), (q19, .inr (1, [.null, .null, .int (-1), .null])), (q20, .inr (1, [.null, .null, .int (-1), .null])), (q8, .inr (4, [.ref q9, .int 0])), (q12, .inr (0, [.ref (z 0), .int 0, .int 0])), (q13, .inr (0, [.ref (z 0), .int 0, .int 0])), (q2, .inr (3, [.ref q3, .ref q4, .int 0, .int 0, .int 0, .int 0, .int 0, .int 0, .null])), (q3, .inl (ar 1, 72, .inl (fun _ => 0))), (q25, .inl (ar 0, 6, .inl (fun _ => 0))), (q22, .inl (ar 0, 72, .inl (fun _ => 0))), (q50, .inl (ar 2, 1, .inr (.inl u108))), (q21, .inr (6, fz))] H := hP
      have hD : va_D A [(q6, .inl (ar 0, 6, .inl (fun _ => 0))), (q7, .inl (ar 4, 6, .inr (.inr (.inr (.inr g))))), (q15, .inr (1, [.null, .null, .int (-1), .null])), (q16, .inr (1, [.null, .null, .int (-1), .null])), (q17, .inr (1, [.null, .null, .int (-1), .null])), (q18, .inr (1, [.null, .null, .int (-1), .null])), (q19, .inr (1, [.null, .null, .int (-1), .null])), (q20, .inr (1, [.null, .null, .int (-1), .null])), (q8, .inr (4, [.ref q9, .int 0])), (q12, .inr (0, [.ref (z 0), .int 0, .int 0])), (q13, .inr (0, [.ref (z 0), .int 0, .int 0])), (q2, .inr (3, [.ref q3, .ref q4, .int 0, .int 0, .int 0, .int 0, .int 0, .int 0, .null])), (q3, .inl (ar 1, 72, .inl (fun _ => 0))), (q25, .inl (ar 0, 6, .inl (fun _ => 0))), (q22, .inl (ar 0, 72, .inl (fun _ => 0))), (q50, .inl (ar 2, 1, .inr (.inl u108))), (q21, .inr (6, fz))] := hD
      refine W.widen (k := 51) (n := 4333) (Nat.le_of_ble_eq_true rfl) (Nat.le_of_ble_eq_true rfl) ?_
      obtain rfl := hw
      refine lv_iload hx hb d_La_law_349 (lv_at hl 1 rfl) ?_
      refine lv_icmp_eq (tgt := 356) hx hb d_La_law_351 (by decide) (fun _ => ?_) (fun c113 => absurd (by decide) c113)
      refine lv_iload hx hb d_La_law_356 (lv_at hl 1 rfl) ?_
      refine lv_if_ne (tgt := 373) hx hb d_La_law_358 (by decide) (fun _ => ?_) (fun c114 => absurd c114 (by decide))
      refine lv_goto (tgt := 561) hx hb d_La_law_373 (by decide) ?_
      refine lv_iinc (v := 3) (lv' := [(4, .int 3), (6, .int r109), (5, .int 1), (3, .ref q50), (2, .ref q21), (1, .ref q1), (0, .ref b)]) hx hb d_La_law_561 hl (k := 2) rfl (by decide) (by decide) rfl (fun ls hl => ?_)
      refine lv_goto (tgt := 23) hx hb d_La_law_564 (by decide) ?_
      refine lv_iload hx hb d_La_law_23 (lv_at hl 0 rfl) ?_
      refine lv_aload_n hx hb d_La_law_25 rfl (lv_at hl 6 rfl) ?_
      refine va_slen hx hb hX hbl hbA hS d_La_law_26 ?_
      refine lv_iconst (v := 3) hx hb d_La_law_27 (by decide) ?_
      refine lv_isub hx hb d_La_law_28 ?_
      refine W.eq (g2 := F0 m 29 ls [.int 0, .int 3]) (by rw [show (Int32.ofNat 3 - 3 : Int32) = 0 from by decide]) ?_
      refine lv_icmp_gt (tgt := 567) hx hb d_La_law_29 (by decide) (fun _ => ?_) (fun c115 => absurd (by decide) c115)
      refine lv_iconst (v := 1) hx hb d_La_law_567 (by decide) ?_
      refine va_forget (fun q h => by rw [← hNe]; exact hAN _ (hS.2.2 q h)) ?_
      refine W.widen (k := 600002) (n := 7302232) (Nat.le_of_ble_eq_true rfl) (Nat.le_of_ble_eq_true rfl) ?_
      exact lw_ret hx hb hr hlocks d_La_law_568
    · refine lv_tableIn (tgt := 376) hx hb d_La_law_39 (by decide) (by decide) (off := 337) rfl (by decide) ?_
      refine lv_aload_n hx hb d_La_law_376 rfl (lv_at hl 3 rfl) ?_
      refine lv_aload_n hx hb d_La_law_377 rfl (lv_at hl 4 rfl) ?_
      refine lv_iload hx hb d_La_law_378 (lv_at hl 0 rfl) ?_
      refine lv_iconst (v := 1) hx hb d_La_law_380 (by decide) ?_
      refine lv_iadd hx hb d_La_law_381 ?_
      refine W.eq (g2 := F0 m 382 ls [.int 1, .ref b, .ref q1]) rfl ?_
      refine va_sld hx hb hX hbl hbA hS (i := 1) (by unfold vp_in; decide) d_La_law_382 ?_
      refine W.eq (g2 := F0 m 383 ls [.int (xs 1), .ref q1]) (by rw [show Int32.toNatClampNeg (1 : Int32) = 1 from by decide]) ?_
      refine lv_aload_n hx hb d_La_law_383 rfl (lv_at hl 1 rfl) ?_
      have hPc := hP.sub (ws' := [(q50, .inl (ar 2, 1, .inr (.inl (fun _ => 0)))), (q1, .inr (5, [.ref q2, .ref q5, .int (-1)])), (q5, .inr (2, [.ref q6, .ref q7, .ref q8, .ref q10, .ref q12, .ref q13, .ref q14, .int 0, .int 0, .int 0, .long 0])), (q6, .inl (ar 0, 6, .inl (fun _ => 0)))]) [0, 1, 2, 3] rfl
      have hDc := hD.sub (ws' := [(q50, .inl (ar 2, 1, .inr (.inl (fun _ => 0)))), (q1, .inr (5, [.ref q2, .ref q5, .int (-1)])), (q5, .inr (2, [.ref q6, .ref q7, .ref q8, .ref q10, .ref q12, .ref q13, .ref q14, .int 0, .int 0, .int 0, .long 0])), (q6, .inl (ar 0, 6, .inl (fun _ => 0)))]) [0, 1, 2, 3] (by decide) rfl
      have hFc := va_free (wc := [(q50, .inl (ar 2, 1, .inr (.inl (fun _ => 0)))), (q1, .inr (5, [.ref q2, .ref q5, .int (-1)])), (q5, .inr (2, [.ref q6, .ref q7, .ref q8, .ref q10, .ref q12, .ref q13, .ref q14, .int 0, .int 0, .int 0, .long 0])), (q6, .inl (ar 0, 6, .inl (fun _ => 0)))]) hD hS hA [0, 1, 2, 3] rfl
      refine va_calli (vx_runSW (As := [.ref q1, .int (xs 1), .ref q50]) (rest := []) ⟨hx, hb, hml, hown, hts⟩ (c_La_variable l hst dC dI ar N0 z q50 q1 q2 q5 q6 q7 q8 q10 q12 q13 q14 (xs 1) H.size ) (vx_cwSW 3 hts (x_goodSW k_938 k_939 k_0 k_940) rfl rfl rfl (by decide +kernel) ⟨Nat.le_of_ble_eq_true rfl, Nat.le_of_ble_eq_true rfl⟩) ⟨x_blind, fun U hU9 hW => x_pre hU9 hW hPc hDc hU hZ hS hAN hN0⟩ rfl rfl hl.1 rfl (lv_room (Nat.le_of_ble_eq_true rfl)) d_La_law_384 ⟨Nat.le_of_ble_eq_true rfl, Nat.le_of_ble_eq_true rfl⟩) hS (fun q _ h => hFc q h) hFc (fun r116 u117 t H1 locs ht hvm hw hB hz1 hk1 hS => ?_)
      obtain ⟨hP1, hD1⟩ := hB
      rw [ht] at hP1
      obtain ⟨hP, hD⟩ := va_join (wr := [(q7, .inl (ar 4, 6, .inr (.inr (.inr (.inr g))))), (q15, .inr (1, [.null, .null, .int (-1), .null])), (q16, .inr (1, [.null, .null, .int (-1), .null])), (q17, .inr (1, [.null, .null, .int (-1), .null])), (q18, .inr (1, [.null, .null, .int (-1), .null])), (q19, .inr (1, [.null, .null, .int (-1), .null])), (q20, .inr (1, [.null, .null, .int (-1), .null])), (q8, .inr (4, [.ref q9, .int 0])), (q10, .inr (4, [.ref q11, .int 0])), (q12, .inr (0, [.ref (z 0), .int 0, .int 0])), (q13, .inr (0, [.ref (z 0), .int 0, .int 0])), (q2, .inr (3, [.ref q3, .ref q4, .int 0, .int 0, .int 0, .int 0, .int 0, .int 0, .null])), (q3, .inl (ar 1, 72, .inl (fun _ => 0))), (q21, .inr (6, fs)), (q25, .inl (ar 0, 6, .inl (fun _ => 0))), (q22, .inl (ar 0, 72, .inl (fun _ => 0)))]) (w1 := [(q50, .inl (ar 2, 1, .inr (.inl u117)))]) hP hD [0, 1, 2, 3] [4, 5, 6, 7, 8, 9, 10, 11, 12, 13, 14, 15, 16, 17, 18, 19] rfl rfl (by decide) (by decide) hk1 hFc hP1 hD1
      generalize H1 = H at hP hS ⊢
      have hP : va_P (dC, dI) x_cl [(q7, .inl (ar 4, 6, .inr (.inr (.inr (.inr g))))), (q15, .inr (1, [.null, .null, .int (-1), .null])), (q16, .inr (1, [.null, .null, .int (-1), .null])), (q17, .inr (1, [.null, .null, .int (-1), .null])), (q18, .inr (1, [.null, .null, .int (-1), .null])), (q19, .inr (1, [.null, .null, .int (-1), .null])), (q20, .inr (1, [.null, .null, .int (-1), .null])), (q8, .inr (4, [.ref q9, .int 0])), (q10, .inr (4, [.ref q11, .int 0])), (q12, .inr (0, [.ref (z 0), .int 0, .int 0])), (q13, .inr (0, [.ref (z 0), .int 0, .int 0])), (q2, .inr (3, [.ref q3, .ref q4, .int 0, .int 0, .int 0, .int 0, .int 0, .int 0, .null])), (q3, .inl (ar 1, 72, .inl (fun _ => 0))), (q21, .inr (6, fs)), (q25, .inl (ar 0, 6, .inl (fun _ => 0))), (q22, .inl (ar 0, 72, .inl (fun _ => 0))), (q50, .inl (ar 2, 1, .inr (.inl u117)))] H := hP
      have hD : va_D A [(q7, .inl (ar 4, 6, .inr (.inr (.inr (.inr g))))), (q15, .inr (1, [.null, .null, .int (-1), .null])), (q16, .inr (1, [.null, .null, .int (-1), .null])), (q17, .inr (1, [.null, .null, .int (-1), .null])), (q18, .inr (1, [.null, .null, .int (-1), .null])), (q19, .inr (1, [.null, .null, .int (-1), .null])), (q20, .inr (1, [.null, .null, .int (-1), .null])), (q8, .inr (4, [.ref q9, .int 0])), (q10, .inr (4, [.ref q11, .int 0])), (q12, .inr (0, [.ref (z 0), .int 0, .int 0])), (q13, .inr (0, [.ref (z 0), .int 0, .int 0])), (q2, .inr (3, [.ref q3, .ref q4, .int 0, .int 0, .int 0, .int 0, .int 0, .int 0, .null])), (q3, .inl (ar 1, 72, .inl (fun _ => 0))), (q21, .inr (6, fs)), (q25, .inl (ar 0, 6, .inl (fun _ => 0))), (q22, .inl (ar 0, 72, .inl (fun _ => 0))), (q50, .inl (ar 2, 1, .inr (.inl u117)))] := hD
      refine W.widen (k := 51) (n := 4333) (Nat.le_of_ble_eq_true rfl) (Nat.le_of_ble_eq_true rfl) ?_
      rcases hw with ⟨ha, rfl, hu⟩ | ⟨ha, rfl⟩
      · refine lv_istore (lv' := [(5, .int 0), (4, .int 0), (3, .ref q50), (2, .ref q21), (1, .ref q1), (0, .ref b)]) hx hb d_La_law_387 hl (by decide) rfl (fun ls hl => ?_)
        refine lv_aload_n hx hb d_La_law_389 rfl (lv_at hl 3 rfl) ?_
        refine lv_aload_n hx hb d_La_law_390 rfl (lv_at hl 5 rfl) ?_
        refine lv_iload hx hb d_La_law_391 (lv_at hl 1 rfl) ?_
        refine lv_iconst (v := 1) hx hb d_La_law_393 (by decide) ?_
        refine lv_iadd hx hb d_La_law_394 ?_
        refine W.eq (g2 := F0 m 395 ls [.int 1, .ref b, .ref q21]) rfl ?_
        refine va_sld hx hb hX hbl hbA hS (i := 1) (by unfold vp_in; decide) d_La_law_395 ?_
        refine W.eq (g2 := F0 m 396 ls [.int (xs 1), .ref q21]) (by rw [show Int32.toNatClampNeg (1 : Int32) = 1 from by decide]) ?_
        have hPc := hP.sub (ws' := [(q21, .inr (6, fs)), (q25, .inl (ar 0, 6, .inl (fun _ => 0)))]) [13, 14] rfl
        have hDc := hD.sub (ws' := [(q21, .inr (6, fs)), (q25, .inl (ar 0, 6, .inl (fun _ => 0)))]) [13, 14] (by decide) rfl
        have hFc := va_free (wc := [(q21, .inr (6, fs)), (q25, .inl (ar 0, 6, .inl (fun _ => 0)))]) hD hS hA [13, 14] rfl
        refine va_calli (va_runV (As := [.int (xs 1)]) (rest := []) ⟨hx, hb, hml, hown, hts⟩ (c_Mo_variable l dC dI ar N0 z q21 q25 fs (xs 1) H.size hfs g_variables) (cwV 1 hts (x_goodV k_1274 k_1275 k_1276 k_9 k_1277) rfl rfl rfl (by decide +kernel) ⟨Nat.le_of_ble_eq_true rfl, Nat.le_of_ble_eq_true rfl⟩) ⟨x_blind, va_recv hK hPc (ci := 6) (q0 := 0) rfl rfl, fun U hU9 hW => x_pre hU9 hW hPc hDc hU hZ hS hAN hN0⟩ rfl rfl hl.1 rfl (lv_room (Nat.le_of_ble_eq_true rfl)) d_La_law_396 ⟨Nat.le_of_ble_eq_true rfl, Nat.le_of_ble_eq_true rfl⟩) hS (fun q _ h => hFc q h) hFc (fun r118 u119 t H1 locs ht hvm hw hB hz1 hk1 hS => ?_)
        obtain ⟨fz, hP1, hD1, hfz⟩ := hB
        rw [ht] at hP1
        obtain ⟨hP, hD⟩ := va_join (wr := [(q7, .inl (ar 4, 6, .inr (.inr (.inr (.inr g))))), (q15, .inr (1, [.null, .null, .int (-1), .null])), (q16, .inr (1, [.null, .null, .int (-1), .null])), (q17, .inr (1, [.null, .null, .int (-1), .null])), (q18, .inr (1, [.null, .null, .int (-1), .null])), (q19, .inr (1, [.null, .null, .int (-1), .null])), (q20, .inr (1, [.null, .null, .int (-1), .null])), (q8, .inr (4, [.ref q9, .int 0])), (q10, .inr (4, [.ref q11, .int 0])), (q12, .inr (0, [.ref (z 0), .int 0, .int 0])), (q13, .inr (0, [.ref (z 0), .int 0, .int 0])), (q2, .inr (3, [.ref q3, .ref q4, .int 0, .int 0, .int 0, .int 0, .int 0, .int 0, .null])), (q3, .inl (ar 1, 72, .inl (fun _ => 0))), (q22, .inl (ar 0, 72, .inl (fun _ => 0))), (q50, .inl (ar 2, 1, .inr (.inl u117)))]) (w1 := [(q21, .inr (6, fz))]) hP hD [13, 14] [0, 1, 2, 3, 4, 5, 6, 7, 8, 9, 10, 11, 12, 15, 16] rfl rfl (by decide) (by decide) hk1 hFc hP1 hD1
        generalize H1 = H at hP hS ⊢
        have hP : va_P (dC, dI) x_cl [(q7, .inl (ar 4, 6, .inr (.inr (.inr (.inr g))))), (q15, .inr (1, [.null, .null, .int (-1), .null])), (q16, .inr (1, [.null, .null, .int (-1), .null])), (q17, .inr (1, [.null, .null, .int (-1), .null])), (q18, .inr (1, [.null, .null, .int (-1), .null])), (q19, .inr (1, [.null, .null, .int (-1), .null])), (q20, .inr (1, [.null, .null, .int (-1), .null])), (q8, .inr (4, [.ref q9, .int 0])), (q10, .inr (4, [.ref q11, .int 0])), (q12, .inr (0, [.ref (z 0), .int 0, .int 0])), (q13, .inr (0, [.ref (z 0), .int 0, .int 0])), (q2, .inr (3, [.ref q3, .ref q4, .int 0, .int 0, .int 0, .int 0, .int 0, .int 0, .null])), (q3, .inl (ar 1, 72, .inl (fun _ => 0))), (q22, .inl (ar 0, 72, .inl (fun _ => 0))), (q50, .inl (ar 2, 1, .inr (.inl u117))), (q21, .inr (6, fz))] H := hP
        have hD : va_D A [(q7, .inl (ar 4, 6, .inr (.inr (.inr (.inr g))))), (q15, .inr (1, [.null, .null, .int (-1), .null])), (q16, .inr (1, [.null, .null, .int (-1), .null])), (q17, .inr (1, [.null, .null, .int (-1), .null])), (q18, .inr (1, [.null, .null, .int (-1), .null])), (q19, .inr (1, [.null, .null, .int (-1), .null])), (q20, .inr (1, [.null, .null, .int (-1), .null])), (q8, .inr (4, [.ref q9, .int 0])), (q10, .inr (4, [.ref q11, .int 0])), (q12, .inr (0, [.ref (z 0), .int 0, .int 0])), (q13, .inr (0, [.ref (z 0), .int 0, .int 0])), (q2, .inr (3, [.ref q3, .ref q4, .int 0, .int 0, .int 0, .int 0, .int 0, .int 0, .null])), (q3, .inl (ar 1, 72, .inl (fun _ => 0))), (q22, .inl (ar 0, 72, .inl (fun _ => 0))), (q50, .inl (ar 2, 1, .inr (.inl u117))), (q21, .inr (6, fz))] := hD
        refine W.widen (k := 51) (n := 4333) (Nat.le_of_ble_eq_true rfl) (Nat.le_of_ble_eq_true rfl) ?_
        rcases hw with ⟨hm9, rfl, rfl⟩ | ⟨hm9, rfl⟩
        · refine lv_istore (lv' := [(6, .int 0), (5, .int 0), (4, .int 0), (3, .ref q50), (2, .ref q21), (1, .ref q1), (0, .ref b)]) hx hb d_La_law_399 hl (by decide) rfl (fun ls hl => ?_)
          refine lv_aload_n hx hb d_La_law_401 rfl (lv_at hl 4 rfl) ?_
          have hPc := hP.sub (ws' := [(q21, .inr (6, fz))]) [15] rfl
          have hDc := hD.sub (ws' := [(q21, .inr (6, fz))]) [15] (by decide) rfl
          have hFc := va_free (wc := [(q21, .inr (6, fz))]) hD hS hA [15] rfl
          refine va_calli (va_runV (As := []) (rest := []) ⟨hx, hb, hml, hown, hts⟩ (c_Mo_thrown l dC dI ar N0 z q21 fz (0) H.size hfz) (cwV 0 hts (x_goodV k_1105 k_1106 k_1107 k_9 k_1108) rfl rfl rfl (by decide +kernel) ⟨Nat.le_of_ble_eq_true rfl, Nat.le_of_ble_eq_true rfl⟩) ⟨x_blind, va_recv hK hPc (ci := 6) (q0 := 0) rfl rfl, fun U hU9 hW => x_pre hU9 hW hPc hDc hU hZ hS hAN hN0⟩ rfl rfl hl.1 rfl (lv_room (Nat.le_of_ble_eq_true rfl)) d_La_law_402 ⟨Nat.le_of_ble_eq_true rfl, Nat.le_of_ble_eq_true rfl⟩) hS (fun q _ h => hFc q h) hFc (fun r120 u121 t H1 locs ht hvm hw hB hz1 hk1 hS => ?_)
          obtain ⟨hP1, hD1⟩ := hB
          rw [ht] at hP1
          obtain ⟨hP, hD⟩ := va_join (wr := [(q7, .inl (ar 4, 6, .inr (.inr (.inr (.inr g))))), (q15, .inr (1, [.null, .null, .int (-1), .null])), (q16, .inr (1, [.null, .null, .int (-1), .null])), (q17, .inr (1, [.null, .null, .int (-1), .null])), (q18, .inr (1, [.null, .null, .int (-1), .null])), (q19, .inr (1, [.null, .null, .int (-1), .null])), (q20, .inr (1, [.null, .null, .int (-1), .null])), (q8, .inr (4, [.ref q9, .int 0])), (q10, .inr (4, [.ref q11, .int 0])), (q12, .inr (0, [.ref (z 0), .int 0, .int 0])), (q13, .inr (0, [.ref (z 0), .int 0, .int 0])), (q2, .inr (3, [.ref q3, .ref q4, .int 0, .int 0, .int 0, .int 0, .int 0, .int 0, .null])), (q3, .inl (ar 1, 72, .inl (fun _ => 0))), (q22, .inl (ar 0, 72, .inl (fun _ => 0))), (q50, .inl (ar 2, 1, .inr (.inl u117)))]) (w1 := [(q21, .inr (6, fz))]) hP hD [15] [0, 1, 2, 3, 4, 5, 6, 7, 8, 9, 10, 11, 12, 13, 14] rfl rfl (by decide) (by decide) hk1 hFc hP1 hD1
          generalize H1 = H at hP hS ⊢
          have hP : va_P (dC, dI) x_cl [(q7, .inl (ar 4, 6, .inr (.inr (.inr (.inr g))))), (q15, .inr (1, [.null, .null, .int (-1), .null])), (q16, .inr (1, [.null, .null, .int (-1), .null])), (q17, .inr (1, [.null, .null, .int (-1), .null])), (q18, .inr (1, [.null, .null, .int (-1), .null])), (q19, .inr (1, [.null, .null, .int (-1), .null])), (q20, .inr (1, [.null, .null, .int (-1), .null])), (q8, .inr (4, [.ref q9, .int 0])), (q10, .inr (4, [.ref q11, .int 0])), (q12, .inr (0, [.ref (z 0), .int 0, .int 0])), (q13, .inr (0, [.ref (z 0), .int 0, .int 0])), (q2, .inr (3, [.ref q3, .ref q4, .int 0, .int 0, .int 0, .int 0, .int 0, .int 0, .null])), (q3, .inl (ar 1, 72, .inl (fun _ => 0))), (q22, .inl (ar 0, 72, .inl (fun _ => 0))), (q50, .inl (ar 2, 1, .inr (.inl u117))), (q21, .inr (6, fz))] H := hP
          have hD : va_D A [(q7, .inl (ar 4, 6, .inr (.inr (.inr (.inr g))))), (q15, .inr (1, [.null, .null, .int (-1), .null])), (q16, .inr (1, [.null, .null, .int (-1), .null])), (q17, .inr (1, [.null, .null, .int (-1), .null])), (q18, .inr (1, [.null, .null, .int (-1), .null])), (q19, .inr (1, [.null, .null, .int (-1), .null])), (q20, .inr (1, [.null, .null, .int (-1), .null])), (q8, .inr (4, [.ref q9, .int 0])), (q10, .inr (4, [.ref q11, .int 0])), (q12, .inr (0, [.ref (z 0), .int 0, .int 0])), (q13, .inr (0, [.ref (z 0), .int 0, .int 0])), (q2, .inr (3, [.ref q3, .ref q4, .int 0, .int 0, .int 0, .int 0, .int 0, .int 0, .null])), (q3, .inl (ar 1, 72, .inl (fun _ => 0))), (q22, .inl (ar 0, 72, .inl (fun _ => 0))), (q50, .inl (ar 2, 1, .inr (.inl u117))), (q21, .inr (6, fz))] := hD
          refine W.widen (k := 51) (n := 4333) (Nat.le_of_ble_eq_true rfl) (Nat.le_of_ble_eq_true rfl) ?_
          obtain rfl := hw
          refine lv_iload hx hb d_La_law_405 (lv_at hl 1 rfl) ?_
          refine lv_icmp_eq (tgt := 412) hx hb d_La_law_407 (by decide) (fun _ => ?_) (fun c122 => absurd (by decide) c122)
          refine lv_iload hx hb d_La_law_412 (lv_at hl 1 rfl) ?_
          refine lv_if_ne (tgt := 429) hx hb d_La_law_414 (by decide) (fun c123 => absurd rfl c123) (fun _ => ?_)
          refine lv_aload_n hx hb d_La_law_417 rfl (lv_at hl 3 rfl) ?_
          refine lv_iconst (v := 0) hx hb d_La_law_418 (by decide) ?_
          refine va_lald hx hb hK hP 14 2 rfl rfl (by unfold vp_in; decide) d_La_law_419 ?_
          refine W.eq (g2 := F0 m 420 ls [.long 0]) (by rw [show Int32.toNatClampNeg (0 : Int32) = 0 from by decide, hu]) ?_
          refine lv_iload hx hb d_La_law_420 (lv_at hl 0 rfl) ?_
          refine lv_i2l (v := (0)) hx hb d_La_law_422 (by decide) ?_
          refine W.lcmp hx hb d_La_law_423 ?_
          refine W.eq (g2 := F0 m 424 ls [.int 0]) (by rw [x_lc]) ?_
          refine lv_if_eq (tgt := 429) hx hb d_La_law_424 (by decide) (fun _ => ?_) (fun c124 => absurd (by decide) c124)
          refine lv_goto (tgt := 561) hx hb d_La_law_429 (by decide) ?_
          refine lv_iinc (v := 3) (lv' := [(4, .int 3), (6, .int 0), (5, .int 0), (3, .ref q50), (2, .ref q21), (1, .ref q1), (0, .ref b)]) hx hb d_La_law_561 hl (k := 2) rfl (by decide) (by decide) rfl (fun ls hl => ?_)
          refine lv_goto (tgt := 23) hx hb d_La_law_564 (by decide) ?_
          refine lv_iload hx hb d_La_law_23 (lv_at hl 0 rfl) ?_
          refine lv_aload_n hx hb d_La_law_25 rfl (lv_at hl 6 rfl) ?_
          refine va_slen hx hb hX hbl hbA hS d_La_law_26 ?_
          refine lv_iconst (v := 3) hx hb d_La_law_27 (by decide) ?_
          refine lv_isub hx hb d_La_law_28 ?_
          refine W.eq (g2 := F0 m 29 ls [.int 0, .int 3]) (by rw [show (Int32.ofNat 3 - 3 : Int32) = 0 from by decide]) ?_
          refine lv_icmp_gt (tgt := 567) hx hb d_La_law_29 (by decide) (fun _ => ?_) (fun c125 => absurd (by decide) c125)
          refine lv_iconst (v := 1) hx hb d_La_law_567 (by decide) ?_
          refine va_forget (fun q h => by rw [← hNe]; exact hAN _ (hS.2.2 q h)) ?_
          refine W.widen (k := 600002) (n := 7302232) (Nat.le_of_ble_eq_true rfl) (Nat.le_of_ble_eq_true rfl) ?_
          exact lw_ret hx hb hr hlocks d_La_law_568
        · exact (x_d1 ha hm9).elim
      · refine lv_istore (lv' := [(5, .int 1), (4, .int 0), (3, .ref q50), (2, .ref q21), (1, .ref q1), (0, .ref b)]) hx hb d_La_law_387 hl (by decide) rfl (fun ls hl => ?_)
        refine lv_aload_n hx hb d_La_law_389 rfl (lv_at hl 3 rfl) ?_
        refine lv_aload_n hx hb d_La_law_390 rfl (lv_at hl 5 rfl) ?_
        refine lv_iload hx hb d_La_law_391 (lv_at hl 1 rfl) ?_
        refine lv_iconst (v := 1) hx hb d_La_law_393 (by decide) ?_
        refine lv_iadd hx hb d_La_law_394 ?_
        refine W.eq (g2 := F0 m 395 ls [.int 1, .ref b, .ref q21]) rfl ?_
        refine va_sld hx hb hX hbl hbA hS (i := 1) (by unfold vp_in; decide) d_La_law_395 ?_
        refine W.eq (g2 := F0 m 396 ls [.int (xs 1), .ref q21]) (by rw [show Int32.toNatClampNeg (1 : Int32) = 1 from by decide]) ?_
        have hPc := hP.sub (ws' := [(q21, .inr (6, fs)), (q25, .inl (ar 0, 6, .inl (fun _ => 0)))]) [13, 14] rfl
        have hDc := hD.sub (ws' := [(q21, .inr (6, fs)), (q25, .inl (ar 0, 6, .inl (fun _ => 0)))]) [13, 14] (by decide) rfl
        have hFc := va_free (wc := [(q21, .inr (6, fs)), (q25, .inl (ar 0, 6, .inl (fun _ => 0)))]) hD hS hA [13, 14] rfl
        refine va_calli (va_runV (As := [.int (xs 1)]) (rest := []) ⟨hx, hb, hml, hown, hts⟩ (c_Mo_variable l dC dI ar N0 z q21 q25 fs (xs 1) H.size hfs g_variables) (cwV 1 hts (x_goodV k_1274 k_1275 k_1276 k_9 k_1277) rfl rfl rfl (by decide +kernel) ⟨Nat.le_of_ble_eq_true rfl, Nat.le_of_ble_eq_true rfl⟩) ⟨x_blind, va_recv hK hPc (ci := 6) (q0 := 0) rfl rfl, fun U hU9 hW => x_pre hU9 hW hPc hDc hU hZ hS hAN hN0⟩ rfl rfl hl.1 rfl (lv_room (Nat.le_of_ble_eq_true rfl)) d_La_law_396 ⟨Nat.le_of_ble_eq_true rfl, Nat.le_of_ble_eq_true rfl⟩) hS (fun q _ h => hFc q h) hFc (fun r126 u127 t H1 locs ht hvm hw hB hz1 hk1 hS => ?_)
        obtain ⟨fz, hP1, hD1, hfz⟩ := hB
        rw [ht] at hP1
        obtain ⟨hP, hD⟩ := va_join (wr := [(q7, .inl (ar 4, 6, .inr (.inr (.inr (.inr g))))), (q15, .inr (1, [.null, .null, .int (-1), .null])), (q16, .inr (1, [.null, .null, .int (-1), .null])), (q17, .inr (1, [.null, .null, .int (-1), .null])), (q18, .inr (1, [.null, .null, .int (-1), .null])), (q19, .inr (1, [.null, .null, .int (-1), .null])), (q20, .inr (1, [.null, .null, .int (-1), .null])), (q8, .inr (4, [.ref q9, .int 0])), (q10, .inr (4, [.ref q11, .int 0])), (q12, .inr (0, [.ref (z 0), .int 0, .int 0])), (q13, .inr (0, [.ref (z 0), .int 0, .int 0])), (q2, .inr (3, [.ref q3, .ref q4, .int 0, .int 0, .int 0, .int 0, .int 0, .int 0, .null])), (q3, .inl (ar 1, 72, .inl (fun _ => 0))), (q22, .inl (ar 0, 72, .inl (fun _ => 0))), (q50, .inl (ar 2, 1, .inr (.inl u117)))]) (w1 := [(q21, .inr (6, fz))]) hP hD [13, 14] [0, 1, 2, 3, 4, 5, 6, 7, 8, 9, 10, 11, 12, 15, 16] rfl rfl (by decide) (by decide) hk1 hFc hP1 hD1
        generalize H1 = H at hP hS ⊢
        have hP : va_P (dC, dI) x_cl [(q7, .inl (ar 4, 6, .inr (.inr (.inr (.inr g))))), (q15, .inr (1, [.null, .null, .int (-1), .null])), (q16, .inr (1, [.null, .null, .int (-1), .null])), (q17, .inr (1, [.null, .null, .int (-1), .null])), (q18, .inr (1, [.null, .null, .int (-1), .null])), (q19, .inr (1, [.null, .null, .int (-1), .null])), (q20, .inr (1, [.null, .null, .int (-1), .null])), (q8, .inr (4, [.ref q9, .int 0])), (q10, .inr (4, [.ref q11, .int 0])), (q12, .inr (0, [.ref (z 0), .int 0, .int 0])), (q13, .inr (0, [.ref (z 0), .int 0, .int 0])), (q2, .inr (3, [.ref q3, .ref q4, .int 0, .int 0, .int 0, .int 0, .int 0, .int 0, .null])), (q3, .inl (ar 1, 72, .inl (fun _ => 0))), (q22, .inl (ar 0, 72, .inl (fun _ => 0))), (q50, .inl (ar 2, 1, .inr (.inl u117))), (q21, .inr (6, fz))] H := hP
        have hD : va_D A [(q7, .inl (ar 4, 6, .inr (.inr (.inr (.inr g))))), (q15, .inr (1, [.null, .null, .int (-1), .null])), (q16, .inr (1, [.null, .null, .int (-1), .null])), (q17, .inr (1, [.null, .null, .int (-1), .null])), (q18, .inr (1, [.null, .null, .int (-1), .null])), (q19, .inr (1, [.null, .null, .int (-1), .null])), (q20, .inr (1, [.null, .null, .int (-1), .null])), (q8, .inr (4, [.ref q9, .int 0])), (q10, .inr (4, [.ref q11, .int 0])), (q12, .inr (0, [.ref (z 0), .int 0, .int 0])), (q13, .inr (0, [.ref (z 0), .int 0, .int 0])), (q2, .inr (3, [.ref q3, .ref q4, .int 0, .int 0, .int 0, .int 0, .int 0, .int 0, .null])), (q3, .inl (ar 1, 72, .inl (fun _ => 0))), (q22, .inl (ar 0, 72, .inl (fun _ => 0))), (q50, .inl (ar 2, 1, .inr (.inl u117))), (q21, .inr (6, fz))] := hD
        refine W.widen (k := 51) (n := 4333) (Nat.le_of_ble_eq_true rfl) (Nat.le_of_ble_eq_true rfl) ?_
        rcases hw with ⟨hm9, rfl, rfl⟩ | ⟨hm9, rfl⟩
        · exact (x_d2 ha hm9).elim
        · refine lv_istore (lv' := [(6, .int r126), (5, .int 1), (4, .int 0), (3, .ref q50), (2, .ref q21), (1, .ref q1), (0, .ref b)]) hx hb d_La_law_399 hl (by decide) rfl (fun ls hl => ?_)
          refine lv_aload_n hx hb d_La_law_401 rfl (lv_at hl 4 rfl) ?_
          have hPc := hP.sub (ws' := [(q21, .inr (6, fz))]) [15] rfl
          have hDc := hD.sub (ws' := [(q21, .inr (6, fz))]) [15] (by decide) rfl
          have hFc := va_free (wc := [(q21, .inr (6, fz))]) hD hS hA [15] rfl
          refine va_calli (va_runV (As := []) (rest := []) ⟨hx, hb, hml, hown, hts⟩ (c_Mo_thrown l dC dI ar N0 z q21 fz (1) H.size hfz) (cwV 0 hts (x_goodV k_1105 k_1106 k_1107 k_9 k_1108) rfl rfl rfl (by decide +kernel) ⟨Nat.le_of_ble_eq_true rfl, Nat.le_of_ble_eq_true rfl⟩) ⟨x_blind, va_recv hK hPc (ci := 6) (q0 := 0) rfl rfl, fun U hU9 hW => x_pre hU9 hW hPc hDc hU hZ hS hAN hN0⟩ rfl rfl hl.1 rfl (lv_room (Nat.le_of_ble_eq_true rfl)) d_La_law_402 ⟨Nat.le_of_ble_eq_true rfl, Nat.le_of_ble_eq_true rfl⟩) hS (fun q _ h => hFc q h) hFc (fun r128 u129 t H1 locs ht hvm hw hB hz1 hk1 hS => ?_)
          obtain ⟨hP1, hD1⟩ := hB
          rw [ht] at hP1
          obtain ⟨hP, hD⟩ := va_join (wr := [(q7, .inl (ar 4, 6, .inr (.inr (.inr (.inr g))))), (q15, .inr (1, [.null, .null, .int (-1), .null])), (q16, .inr (1, [.null, .null, .int (-1), .null])), (q17, .inr (1, [.null, .null, .int (-1), .null])), (q18, .inr (1, [.null, .null, .int (-1), .null])), (q19, .inr (1, [.null, .null, .int (-1), .null])), (q20, .inr (1, [.null, .null, .int (-1), .null])), (q8, .inr (4, [.ref q9, .int 0])), (q10, .inr (4, [.ref q11, .int 0])), (q12, .inr (0, [.ref (z 0), .int 0, .int 0])), (q13, .inr (0, [.ref (z 0), .int 0, .int 0])), (q2, .inr (3, [.ref q3, .ref q4, .int 0, .int 0, .int 0, .int 0, .int 0, .int 0, .null])), (q3, .inl (ar 1, 72, .inl (fun _ => 0))), (q22, .inl (ar 0, 72, .inl (fun _ => 0))), (q50, .inl (ar 2, 1, .inr (.inl u117)))]) (w1 := [(q21, .inr (6, fz))]) hP hD [15] [0, 1, 2, 3, 4, 5, 6, 7, 8, 9, 10, 11, 12, 13, 14] rfl rfl (by decide) (by decide) hk1 hFc hP1 hD1
          generalize H1 = H at hP hS ⊢
          have hP : va_P (dC, dI) x_cl [(q7, .inl (ar 4, 6, .inr (.inr (.inr (.inr g))))), (q15, .inr (1, [.null, .null, .int (-1), .null])), (q16, .inr (1, [.null, .null, .int (-1), .null])), (q17, .inr (1, [.null, .null, .int (-1), .null])), (q18, .inr (1, [.null, .null, .int (-1), .null])), (q19, .inr (1, [.null, .null, .int (-1), .null])), (q20, .inr (1, [.null, .null, .int (-1), .null])), (q8, .inr (4, [.ref q9, .int 0])), (q10, .inr (4, [.ref q11, .int 0])), (q12, .inr (0, [.ref (z 0), .int 0, .int 0])), (q13, .inr (0, [.ref (z 0), .int 0, .int 0])), (q2, .inr (3, [.ref q3, .ref q4, .int 0, .int 0, .int 0, .int 0, .int 0, .int 0, .null])), (q3, .inl (ar 1, 72, .inl (fun _ => 0))), (q22, .inl (ar 0, 72, .inl (fun _ => 0))), (q50, .inl (ar 2, 1, .inr (.inl u117))), (q21, .inr (6, fz))] H := hP
          have hD : va_D A [(q7, .inl (ar 4, 6, .inr (.inr (.inr (.inr g))))), (q15, .inr (1, [.null, .null, .int (-1), .null])), (q16, .inr (1, [.null, .null, .int (-1), .null])), (q17, .inr (1, [.null, .null, .int (-1), .null])), (q18, .inr (1, [.null, .null, .int (-1), .null])), (q19, .inr (1, [.null, .null, .int (-1), .null])), (q20, .inr (1, [.null, .null, .int (-1), .null])), (q8, .inr (4, [.ref q9, .int 0])), (q10, .inr (4, [.ref q11, .int 0])), (q12, .inr (0, [.ref (z 0), .int 0, .int 0])), (q13, .inr (0, [.ref (z 0), .int 0, .int 0])), (q2, .inr (3, [.ref q3, .ref q4, .int 0, .int 0, .int 0, .int 0, .int 0, .int 0, .null])), (q3, .inl (ar 1, 72, .inl (fun _ => 0))), (q22, .inl (ar 0, 72, .inl (fun _ => 0))), (q50, .inl (ar 2, 1, .inr (.inl u117))), (q21, .inr (6, fz))] := hD
          refine W.widen (k := 51) (n := 4333) (Nat.le_of_ble_eq_true rfl) (Nat.le_of_ble_eq_true rfl) ?_
          obtain rfl := hw
          refine lv_iload hx hb d_La_law_405 (lv_at hl 1 rfl) ?_
          refine lv_icmp_eq (tgt := 412) hx hb d_La_law_407 (by decide) (fun _ => ?_) (fun c130 => absurd (by decide) c130)
          refine lv_iload hx hb d_La_law_412 (lv_at hl 1 rfl) ?_
          refine lv_if_ne (tgt := 429) hx hb d_La_law_414 (by decide) (fun _ => ?_) (fun c131 => absurd c131 (by decide))
          refine lv_goto (tgt := 561) hx hb d_La_law_429 (by decide) ?_
          refine lv_iinc (v := 3) (lv' := [(4, .int 3), (6, .int r126), (5, .int 1), (3, .ref q50), (2, .ref q21), (1, .ref q1), (0, .ref b)]) hx hb d_La_law_561 hl (k := 2) rfl (by decide) (by decide) rfl (fun ls hl => ?_)
          refine lv_goto (tgt := 23) hx hb d_La_law_564 (by decide) ?_
          refine lv_iload hx hb d_La_law_23 (lv_at hl 0 rfl) ?_
          refine lv_aload_n hx hb d_La_law_25 rfl (lv_at hl 6 rfl) ?_
          refine va_slen hx hb hX hbl hbA hS d_La_law_26 ?_
          refine lv_iconst (v := 3) hx hb d_La_law_27 (by decide) ?_
          refine lv_isub hx hb d_La_law_28 ?_
          refine W.eq (g2 := F0 m 29 ls [.int 0, .int 3]) (by rw [show (Int32.ofNat 3 - 3 : Int32) = 0 from by decide]) ?_
          refine lv_icmp_gt (tgt := 567) hx hb d_La_law_29 (by decide) (fun _ => ?_) (fun c132 => absurd (by decide) c132)
          refine lv_iconst (v := 1) hx hb d_La_law_567 (by decide) ?_
          refine va_forget (fun q h => by rw [← hNe]; exact hAN _ (hS.2.2 q h)) ?_
          refine W.widen (k := 600002) (n := 7302232) (Nat.le_of_ble_eq_true rfl) (Nat.le_of_ble_eq_true rfl) ?_
          exact lw_ret hx hb hr hlocks d_La_law_568
    · refine lv_tableIn (tgt := 432) hx hb d_La_law_39 (by decide) (by decide) (off := 393) rfl (by decide) ?_
      refine lv_aload_n hx hb d_La_law_432 rfl (lv_at hl 3 rfl) ?_
      refine lv_aload_n hx hb d_La_law_433 rfl (lv_at hl 4 rfl) ?_
      refine lv_iload hx hb d_La_law_434 (lv_at hl 0 rfl) ?_
      refine lv_iconst (v := 1) hx hb d_La_law_436 (by decide) ?_
      refine lv_iadd hx hb d_La_law_437 ?_
      refine W.eq (g2 := F0 m 438 ls [.int 1, .ref b, .ref q1]) rfl ?_
      refine va_sld hx hb hX hbl hbA hS (i := 1) (by unfold vp_in; decide) d_La_law_438 ?_
      refine W.eq (g2 := F0 m 439 ls [.int (xs 1), .ref q1]) (by rw [show Int32.toNatClampNeg (1 : Int32) = 1 from by decide]) ?_
      refine lv_aload_n hx hb d_La_law_439 rfl (lv_at hl 4 rfl) ?_
      refine lv_iload hx hb d_La_law_440 (lv_at hl 0 rfl) ?_
      refine lv_iconst (v := 2) hx hb d_La_law_442 (by decide) ?_
      refine lv_iadd hx hb d_La_law_443 ?_
      refine W.eq (g2 := F0 m 444 ls [.int 2, .ref b, .int (xs 1), .ref q1]) rfl ?_
      refine va_sld hx hb hX hbl hbA hS (i := 2) (by unfold vp_in; decide) d_La_law_444 ?_
      refine W.eq (g2 := F0 m 445 ls [.int (xs 2), .int (xs 1), .ref q1]) (by rw [show Int32.toNatClampNeg (2 : Int32) = 2 from by decide]) ?_
      have hPc := hP.sub (ws' := [(q1, .inr (5, [.ref q2, .ref q5, .int (-1)])), (q5, .inr (2, [.ref q6, .ref q7, .ref q8, .ref q10, .ref q12, .ref q13, .ref q14, .int 0, .int 0, .int 0, .long 0])), (q6, .inl (ar 0, 6, .inl (fun _ => 0)))]) [1, 2, 3] rfl
      have hDc := hD.sub (ws' := [(q1, .inr (5, [.ref q2, .ref q5, .int (-1)])), (q5, .inr (2, [.ref q6, .ref q7, .ref q8, .ref q10, .ref q12, .ref q13, .ref q14, .int 0, .int 0, .int 0, .long 0])), (q6, .inl (ar 0, 6, .inl (fun _ => 0)))]) [1, 2, 3] (by decide) rfl
      have hFc := va_free (wc := [(q1, .inr (5, [.ref q2, .ref q5, .int (-1)])), (q5, .inr (2, [.ref q6, .ref q7, .ref q8, .ref q10, .ref q12, .ref q13, .ref q14, .int 0, .int 0, .int 0, .long 0])), (q6, .inl (ar 0, 6, .inl (fun _ => 0)))]) hD hS hA [1, 2, 3] rfl
      refine va_calli (vx_runSW (As := [.ref q1, .int (xs 1), .int (xs 2)]) (rest := []) ⟨hx, hb, hml, hown, hts⟩ (c_La_set l hst dC dI ar N0 z q1 q2 q5 q6 q7 q8 q10 q12 q13 q14 (xs 1) (xs 2) H.size ) (vx_cwSW 3 hts (x_goodSW k_946 k_947 k_0 k_948) rfl rfl rfl (by decide +kernel) ⟨Nat.le_of_ble_eq_true rfl, Nat.le_of_ble_eq_true rfl⟩) ⟨x_blind, fun U hU9 hW => x_pre hU9 hW hPc hDc hU hZ hS hAN hN0⟩ rfl rfl hl.1 rfl (lv_room (Nat.le_of_ble_eq_true rfl)) d_La_law_445 ⟨Nat.le_of_ble_eq_true rfl, Nat.le_of_ble_eq_true rfl⟩) hS (fun q _ h => hFc q h) hFc (fun r133 u134 t H1 locs ht hvm hw hB hz1 hk1 hS => ?_)
      have hP1 : va_P (dC, dI) x_cl [] t.heap := fun k q h => by simp at h
      have hD1 : va_D (va_A [(q1, .inr (5, [.ref q2, .ref q5, .int (-1)])), (q5, .inr (2, [.ref q6, .ref q7, .ref q8, .ref q10, .ref q12, .ref q13, .ref q14, .int 0, .int 0, .int 0, .long 0])), (q6, .inl (ar 0, 6, .inl (fun _ => 0)))] H.size) [] := ⟨fun i j p q h => by simp at h, fun k q h => by simp at h⟩
      rw [ht] at hP1
      obtain ⟨hP, hD⟩ := va_join (wr := [(q50, .inl (ar 2, 1, .inr (.inl (fun _ => 0)))), (q7, .inl (ar 4, 6, .inr (.inr (.inr (.inr g))))), (q15, .inr (1, [.null, .null, .int (-1), .null])), (q16, .inr (1, [.null, .null, .int (-1), .null])), (q17, .inr (1, [.null, .null, .int (-1), .null])), (q18, .inr (1, [.null, .null, .int (-1), .null])), (q19, .inr (1, [.null, .null, .int (-1), .null])), (q20, .inr (1, [.null, .null, .int (-1), .null])), (q8, .inr (4, [.ref q9, .int 0])), (q10, .inr (4, [.ref q11, .int 0])), (q12, .inr (0, [.ref (z 0), .int 0, .int 0])), (q13, .inr (0, [.ref (z 0), .int 0, .int 0])), (q2, .inr (3, [.ref q3, .ref q4, .int 0, .int 0, .int 0, .int 0, .int 0, .int 0, .null])), (q3, .inl (ar 1, 72, .inl (fun _ => 0))), (q21, .inr (6, fs)), (q25, .inl (ar 0, 6, .inl (fun _ => 0))), (q22, .inl (ar 0, 72, .inl (fun _ => 0)))]) (w1 := []) hP hD [1, 2, 3] [0, 4, 5, 6, 7, 8, 9, 10, 11, 12, 13, 14, 15, 16, 17, 18, 19] rfl rfl (by decide) (by decide) hk1 hFc hP1 hD1
      generalize H1 = H at hP hS ⊢
      have hP : va_P (dC, dI) x_cl [(q50, .inl (ar 2, 1, .inr (.inl (fun _ => 0)))), (q7, .inl (ar 4, 6, .inr (.inr (.inr (.inr g))))), (q15, .inr (1, [.null, .null, .int (-1), .null])), (q16, .inr (1, [.null, .null, .int (-1), .null])), (q17, .inr (1, [.null, .null, .int (-1), .null])), (q18, .inr (1, [.null, .null, .int (-1), .null])), (q19, .inr (1, [.null, .null, .int (-1), .null])), (q20, .inr (1, [.null, .null, .int (-1), .null])), (q8, .inr (4, [.ref q9, .int 0])), (q10, .inr (4, [.ref q11, .int 0])), (q12, .inr (0, [.ref (z 0), .int 0, .int 0])), (q13, .inr (0, [.ref (z 0), .int 0, .int 0])), (q2, .inr (3, [.ref q3, .ref q4, .int 0, .int 0, .int 0, .int 0, .int 0, .int 0, .null])), (q3, .inl (ar 1, 72, .inl (fun _ => 0))), (q21, .inr (6, fs)), (q25, .inl (ar 0, 6, .inl (fun _ => 0))), (q22, .inl (ar 0, 72, .inl (fun _ => 0)))] H := hP
      have hD : va_D A [(q50, .inl (ar 2, 1, .inr (.inl (fun _ => 0)))), (q7, .inl (ar 4, 6, .inr (.inr (.inr (.inr g))))), (q15, .inr (1, [.null, .null, .int (-1), .null])), (q16, .inr (1, [.null, .null, .int (-1), .null])), (q17, .inr (1, [.null, .null, .int (-1), .null])), (q18, .inr (1, [.null, .null, .int (-1), .null])), (q19, .inr (1, [.null, .null, .int (-1), .null])), (q20, .inr (1, [.null, .null, .int (-1), .null])), (q8, .inr (4, [.ref q9, .int 0])), (q10, .inr (4, [.ref q11, .int 0])), (q12, .inr (0, [.ref (z 0), .int 0, .int 0])), (q13, .inr (0, [.ref (z 0), .int 0, .int 0])), (q2, .inr (3, [.ref q3, .ref q4, .int 0, .int 0, .int 0, .int 0, .int 0, .int 0, .null])), (q3, .inl (ar 1, 72, .inl (fun _ => 0))), (q21, .inr (6, fs)), (q25, .inl (ar 0, 6, .inl (fun _ => 0))), (q22, .inl (ar 0, 72, .inl (fun _ => 0)))] := hD
      refine W.widen (k := 51) (n := 4333) (Nat.le_of_ble_eq_true rfl) (Nat.le_of_ble_eq_true rfl) ?_
      rcases hw with ⟨ha, rfl⟩ | ⟨ha, rfl⟩
      · refine lv_istore (lv' := [(5, .int 0), (4, .int 0), (3, .ref q50), (2, .ref q21), (1, .ref q1), (0, .ref b)]) hx hb d_La_law_448 hl (by decide) rfl (fun ls hl => ?_)
        refine lv_aload_n hx hb d_La_law_450 rfl (lv_at hl 3 rfl) ?_
        refine lv_aload_n hx hb d_La_law_451 rfl (lv_at hl 5 rfl) ?_
        refine lv_iload hx hb d_La_law_452 (lv_at hl 1 rfl) ?_
        refine lv_iconst (v := 1) hx hb d_La_law_454 (by decide) ?_
        refine lv_iadd hx hb d_La_law_455 ?_
        refine W.eq (g2 := F0 m 456 ls [.int 1, .ref b, .ref q21]) rfl ?_
        refine va_sld hx hb hX hbl hbA hS (i := 1) (by unfold vp_in; decide) d_La_law_456 ?_
        refine W.eq (g2 := F0 m 457 ls [.int (xs 1), .ref q21]) (by rw [show Int32.toNatClampNeg (1 : Int32) = 1 from by decide]) ?_
        refine lv_aload_n hx hb d_La_law_457 rfl (lv_at hl 5 rfl) ?_
        refine lv_iload hx hb d_La_law_458 (lv_at hl 1 rfl) ?_
        refine lv_iconst (v := 2) hx hb d_La_law_460 (by decide) ?_
        refine lv_iadd hx hb d_La_law_461 ?_
        refine W.eq (g2 := F0 m 462 ls [.int 2, .ref b, .int (xs 1), .ref q21]) rfl ?_
        refine va_sld hx hb hX hbl hbA hS (i := 2) (by unfold vp_in; decide) d_La_law_462 ?_
        refine W.eq (g2 := F0 m 463 ls [.int (xs 2), .int (xs 1), .ref q21]) (by rw [show Int32.toNatClampNeg (2 : Int32) = 2 from by decide]) ?_
        have hPc := hP.sub (ws' := [(q21, .inr (6, fs)), (q25, .inl (ar 0, 6, .inl (fun _ => 0)))]) [14, 15] rfl
        have hDc := hD.sub (ws' := [(q21, .inr (6, fs)), (q25, .inl (ar 0, 6, .inl (fun _ => 0)))]) [14, 15] (by decide) rfl
        have hFc := va_free (wc := [(q21, .inr (6, fs)), (q25, .inl (ar 0, 6, .inl (fun _ => 0)))]) hD hS hA [14, 15] rfl
        refine va_callv (va_runV (As := [.int (xs 1), .int (xs 2)]) (rest := []) ⟨hx, hb, hml, hown, hts⟩ (c_Mo_set l dC dI ar N0 z q21 q25 fs (xs 1) (xs 2) H.size hfs g_variables) (cwV 2 hts (x_goodV k_1278 k_1279 k_1280 k_9 k_1281) rfl rfl rfl (by decide +kernel) ⟨Nat.le_of_ble_eq_true rfl, Nat.le_of_ble_eq_true rfl⟩) ⟨x_blind, va_recv hK hPc (ci := 6) (q0 := 0) rfl rfl, fun U hU9 hW => x_pre hU9 hW hPc hDc hU hZ hS hAN hN0⟩ rfl rfl hl.1 rfl (lv_room (Nat.le_of_ble_eq_true rfl)) d_La_law_463 ⟨Nat.le_of_ble_eq_true rfl, Nat.le_of_ble_eq_true rfl⟩) hS (fun q _ h => hFc q h) hFc (fun u135 t H1 locs ht hvm hw hB hz1 hk1 hS => ?_)
        obtain ⟨fz, hP1, hD1, hfz⟩ := hB
        rw [ht] at hP1
        obtain ⟨hP, hD⟩ := va_join (wr := [(q50, .inl (ar 2, 1, .inr (.inl (fun _ => 0)))), (q7, .inl (ar 4, 6, .inr (.inr (.inr (.inr g))))), (q15, .inr (1, [.null, .null, .int (-1), .null])), (q16, .inr (1, [.null, .null, .int (-1), .null])), (q17, .inr (1, [.null, .null, .int (-1), .null])), (q18, .inr (1, [.null, .null, .int (-1), .null])), (q19, .inr (1, [.null, .null, .int (-1), .null])), (q20, .inr (1, [.null, .null, .int (-1), .null])), (q8, .inr (4, [.ref q9, .int 0])), (q10, .inr (4, [.ref q11, .int 0])), (q12, .inr (0, [.ref (z 0), .int 0, .int 0])), (q13, .inr (0, [.ref (z 0), .int 0, .int 0])), (q2, .inr (3, [.ref q3, .ref q4, .int 0, .int 0, .int 0, .int 0, .int 0, .int 0, .null])), (q3, .inl (ar 1, 72, .inl (fun _ => 0))), (q22, .inl (ar 0, 72, .inl (fun _ => 0)))]) (w1 := [(q21, .inr (6, fz))]) hP hD [14, 15] [0, 1, 2, 3, 4, 5, 6, 7, 8, 9, 10, 11, 12, 13, 16] rfl rfl (by decide) (by decide) hk1 hFc hP1 hD1
        generalize H1 = H at hP hS ⊢
        have hP : va_P (dC, dI) x_cl [(q50, .inl (ar 2, 1, .inr (.inl (fun _ => 0)))), (q7, .inl (ar 4, 6, .inr (.inr (.inr (.inr g))))), (q15, .inr (1, [.null, .null, .int (-1), .null])), (q16, .inr (1, [.null, .null, .int (-1), .null])), (q17, .inr (1, [.null, .null, .int (-1), .null])), (q18, .inr (1, [.null, .null, .int (-1), .null])), (q19, .inr (1, [.null, .null, .int (-1), .null])), (q20, .inr (1, [.null, .null, .int (-1), .null])), (q8, .inr (4, [.ref q9, .int 0])), (q10, .inr (4, [.ref q11, .int 0])), (q12, .inr (0, [.ref (z 0), .int 0, .int 0])), (q13, .inr (0, [.ref (z 0), .int 0, .int 0])), (q2, .inr (3, [.ref q3, .ref q4, .int 0, .int 0, .int 0, .int 0, .int 0, .int 0, .null])), (q3, .inl (ar 1, 72, .inl (fun _ => 0))), (q22, .inl (ar 0, 72, .inl (fun _ => 0))), (q21, .inr (6, fz))] H := hP
        have hD : va_D A [(q50, .inl (ar 2, 1, .inr (.inl (fun _ => 0)))), (q7, .inl (ar 4, 6, .inr (.inr (.inr (.inr g))))), (q15, .inr (1, [.null, .null, .int (-1), .null])), (q16, .inr (1, [.null, .null, .int (-1), .null])), (q17, .inr (1, [.null, .null, .int (-1), .null])), (q18, .inr (1, [.null, .null, .int (-1), .null])), (q19, .inr (1, [.null, .null, .int (-1), .null])), (q20, .inr (1, [.null, .null, .int (-1), .null])), (q8, .inr (4, [.ref q9, .int 0])), (q10, .inr (4, [.ref q11, .int 0])), (q12, .inr (0, [.ref (z 0), .int 0, .int 0])), (q13, .inr (0, [.ref (z 0), .int 0, .int 0])), (q2, .inr (3, [.ref q3, .ref q4, .int 0, .int 0, .int 0, .int 0, .int 0, .int 0, .null])), (q3, .inl (ar 1, 72, .inl (fun _ => 0))), (q22, .inl (ar 0, 72, .inl (fun _ => 0))), (q21, .inr (6, fz))] := hD
        refine W.widen (k := 51) (n := 4333) (Nat.le_of_ble_eq_true rfl) (Nat.le_of_ble_eq_true rfl) ?_
        rcases hw with ⟨hm9, rfl⟩ | ⟨hm9, rfl⟩
        · refine lv_aload_n hx hb d_La_law_466 rfl (lv_at hl 3 rfl) ?_
          have hPc := hP.sub (ws' := [(q21, .inr (6, fz))]) [15] rfl
          have hDc := hD.sub (ws' := [(q21, .inr (6, fz))]) [15] (by decide) rfl
          have hFc := va_free (wc := [(q21, .inr (6, fz))]) hD hS hA [15] rfl
          refine va_calli (va_runV (As := []) (rest := []) ⟨hx, hb, hml, hown, hts⟩ (c_Mo_thrown l dC dI ar N0 z q21 fz (0) H.size hfz) (cwV 0 hts (x_goodV k_1105 k_1106 k_1107 k_9 k_1108) rfl rfl rfl (by decide +kernel) ⟨Nat.le_of_ble_eq_true rfl, Nat.le_of_ble_eq_true rfl⟩) ⟨x_blind, va_recv hK hPc (ci := 6) (q0 := 0) rfl rfl, fun U hU9 hW => x_pre hU9 hW hPc hDc hU hZ hS hAN hN0⟩ rfl rfl hl.1 rfl (lv_room (Nat.le_of_ble_eq_true rfl)) d_La_law_467 ⟨Nat.le_of_ble_eq_true rfl, Nat.le_of_ble_eq_true rfl⟩) hS (fun q _ h => hFc q h) hFc (fun r136 u137 t H1 locs ht hvm hw hB hz1 hk1 hS => ?_)
          obtain ⟨hP1, hD1⟩ := hB
          rw [ht] at hP1
          obtain ⟨hP, hD⟩ := va_join (wr := [(q50, .inl (ar 2, 1, .inr (.inl (fun _ => 0)))), (q7, .inl (ar 4, 6, .inr (.inr (.inr (.inr g))))), (q15, .inr (1, [.null, .null, .int (-1), .null])), (q16, .inr (1, [.null, .null, .int (-1), .null])), (q17, .inr (1, [.null, .null, .int (-1), .null])), (q18, .inr (1, [.null, .null, .int (-1), .null])), (q19, .inr (1, [.null, .null, .int (-1), .null])), (q20, .inr (1, [.null, .null, .int (-1), .null])), (q8, .inr (4, [.ref q9, .int 0])), (q10, .inr (4, [.ref q11, .int 0])), (q12, .inr (0, [.ref (z 0), .int 0, .int 0])), (q13, .inr (0, [.ref (z 0), .int 0, .int 0])), (q2, .inr (3, [.ref q3, .ref q4, .int 0, .int 0, .int 0, .int 0, .int 0, .int 0, .null])), (q3, .inl (ar 1, 72, .inl (fun _ => 0))), (q22, .inl (ar 0, 72, .inl (fun _ => 0)))]) (w1 := [(q21, .inr (6, fz))]) hP hD [15] [0, 1, 2, 3, 4, 5, 6, 7, 8, 9, 10, 11, 12, 13, 14] rfl rfl (by decide) (by decide) hk1 hFc hP1 hD1
          generalize H1 = H at hP hS ⊢
          have hP : va_P (dC, dI) x_cl [(q50, .inl (ar 2, 1, .inr (.inl (fun _ => 0)))), (q7, .inl (ar 4, 6, .inr (.inr (.inr (.inr g))))), (q15, .inr (1, [.null, .null, .int (-1), .null])), (q16, .inr (1, [.null, .null, .int (-1), .null])), (q17, .inr (1, [.null, .null, .int (-1), .null])), (q18, .inr (1, [.null, .null, .int (-1), .null])), (q19, .inr (1, [.null, .null, .int (-1), .null])), (q20, .inr (1, [.null, .null, .int (-1), .null])), (q8, .inr (4, [.ref q9, .int 0])), (q10, .inr (4, [.ref q11, .int 0])), (q12, .inr (0, [.ref (z 0), .int 0, .int 0])), (q13, .inr (0, [.ref (z 0), .int 0, .int 0])), (q2, .inr (3, [.ref q3, .ref q4, .int 0, .int 0, .int 0, .int 0, .int 0, .int 0, .null])), (q3, .inl (ar 1, 72, .inl (fun _ => 0))), (q22, .inl (ar 0, 72, .inl (fun _ => 0))), (q21, .inr (6, fz))] H := hP
          have hD : va_D A [(q50, .inl (ar 2, 1, .inr (.inl (fun _ => 0)))), (q7, .inl (ar 4, 6, .inr (.inr (.inr (.inr g))))), (q15, .inr (1, [.null, .null, .int (-1), .null])), (q16, .inr (1, [.null, .null, .int (-1), .null])), (q17, .inr (1, [.null, .null, .int (-1), .null])), (q18, .inr (1, [.null, .null, .int (-1), .null])), (q19, .inr (1, [.null, .null, .int (-1), .null])), (q20, .inr (1, [.null, .null, .int (-1), .null])), (q8, .inr (4, [.ref q9, .int 0])), (q10, .inr (4, [.ref q11, .int 0])), (q12, .inr (0, [.ref (z 0), .int 0, .int 0])), (q13, .inr (0, [.ref (z 0), .int 0, .int 0])), (q2, .inr (3, [.ref q3, .ref q4, .int 0, .int 0, .int 0, .int 0, .int 0, .int 0, .null])), (q3, .inl (ar 1, 72, .inl (fun _ => 0))), (q22, .inl (ar 0, 72, .inl (fun _ => 0))), (q21, .inr (6, fz))] := hD
          refine W.widen (k := 51) (n := 4333) (Nat.le_of_ble_eq_true rfl) (Nat.le_of_ble_eq_true rfl) ?_
          obtain rfl := hw
          refine lv_iload hx hb d_La_law_470 (lv_at hl 0 rfl) ?_
          refine lv_icmp_eq (tgt := 477) hx hb d_La_law_472 (by decide) (fun _ => ?_) (fun c138 => absurd (by decide) c138)
          refine lv_goto (tgt := 561) hx hb d_La_law_477 (by decide) ?_
          refine lv_iinc (v := 3) (lv' := [(4, .int 3), (5, .int 0), (3, .ref q50), (2, .ref q21), (1, .ref q1), (0, .ref b)]) hx hb d_La_law_561 hl (k := 1) rfl (by decide) (by decide) rfl (fun ls hl => ?_)
          refine lv_goto (tgt := 23) hx hb d_La_law_564 (by decide) ?_
          refine lv_iload hx hb d_La_law_23 (lv_at hl 0 rfl) ?_
          refine lv_aload_n hx hb d_La_law_25 rfl (lv_at hl 5 rfl) ?_
          refine va_slen hx hb hX hbl hbA hS d_La_law_26 ?_
          refine lv_iconst (v := 3) hx hb d_La_law_27 (by decide) ?_
          refine lv_isub hx hb d_La_law_28 ?_
          refine W.eq (g2 := F0 m 29 ls [.int 0, .int 3]) (by rw [show (Int32.ofNat 3 - 3 : Int32) = 0 from by decide]) ?_
          refine lv_icmp_gt (tgt := 567) hx hb d_La_law_29 (by decide) (fun _ => ?_) (fun c139 => absurd (by decide) c139)
          refine lv_iconst (v := 1) hx hb d_La_law_567 (by decide) ?_
          refine va_forget (fun q h => by rw [← hNe]; exact hAN _ (hS.2.2 q h)) ?_
          refine W.widen (k := 600002) (n := 7302232) (Nat.le_of_ble_eq_true rfl) (Nat.le_of_ble_eq_true rfl) ?_
          exact lw_ret hx hb hr hlocks d_La_law_568
        · exact (x_d1 ha hm9).elim
      · refine lv_istore (lv' := [(5, .int 1), (4, .int 0), (3, .ref q50), (2, .ref q21), (1, .ref q1), (0, .ref b)]) hx hb d_La_law_448 hl (by decide) rfl (fun ls hl => ?_)
        refine lv_aload_n hx hb d_La_law_450 rfl (lv_at hl 3 rfl) ?_
        refine lv_aload_n hx hb d_La_law_451 rfl (lv_at hl 5 rfl) ?_
        refine lv_iload hx hb d_La_law_452 (lv_at hl 1 rfl) ?_
        refine lv_iconst (v := 1) hx hb d_La_law_454 (by decide) ?_
        refine lv_iadd hx hb d_La_law_455 ?_
        refine W.eq (g2 := F0 m 456 ls [.int 1, .ref b, .ref q21]) rfl ?_
        refine va_sld hx hb hX hbl hbA hS (i := 1) (by unfold vp_in; decide) d_La_law_456 ?_
        refine W.eq (g2 := F0 m 457 ls [.int (xs 1), .ref q21]) (by rw [show Int32.toNatClampNeg (1 : Int32) = 1 from by decide]) ?_
        refine lv_aload_n hx hb d_La_law_457 rfl (lv_at hl 5 rfl) ?_
        refine lv_iload hx hb d_La_law_458 (lv_at hl 1 rfl) ?_
        refine lv_iconst (v := 2) hx hb d_La_law_460 (by decide) ?_
        refine lv_iadd hx hb d_La_law_461 ?_
        refine W.eq (g2 := F0 m 462 ls [.int 2, .ref b, .int (xs 1), .ref q21]) rfl ?_
        refine va_sld hx hb hX hbl hbA hS (i := 2) (by unfold vp_in; decide) d_La_law_462 ?_
        refine W.eq (g2 := F0 m 463 ls [.int (xs 2), .int (xs 1), .ref q21]) (by rw [show Int32.toNatClampNeg (2 : Int32) = 2 from by decide]) ?_
        have hPc := hP.sub (ws' := [(q21, .inr (6, fs)), (q25, .inl (ar 0, 6, .inl (fun _ => 0)))]) [14, 15] rfl
        have hDc := hD.sub (ws' := [(q21, .inr (6, fs)), (q25, .inl (ar 0, 6, .inl (fun _ => 0)))]) [14, 15] (by decide) rfl
        have hFc := va_free (wc := [(q21, .inr (6, fs)), (q25, .inl (ar 0, 6, .inl (fun _ => 0)))]) hD hS hA [14, 15] rfl
        refine va_callv (va_runV (As := [.int (xs 1), .int (xs 2)]) (rest := []) ⟨hx, hb, hml, hown, hts⟩ (c_Mo_set l dC dI ar N0 z q21 q25 fs (xs 1) (xs 2) H.size hfs g_variables) (cwV 2 hts (x_goodV k_1278 k_1279 k_1280 k_9 k_1281) rfl rfl rfl (by decide +kernel) ⟨Nat.le_of_ble_eq_true rfl, Nat.le_of_ble_eq_true rfl⟩) ⟨x_blind, va_recv hK hPc (ci := 6) (q0 := 0) rfl rfl, fun U hU9 hW => x_pre hU9 hW hPc hDc hU hZ hS hAN hN0⟩ rfl rfl hl.1 rfl (lv_room (Nat.le_of_ble_eq_true rfl)) d_La_law_463 ⟨Nat.le_of_ble_eq_true rfl, Nat.le_of_ble_eq_true rfl⟩) hS (fun q _ h => hFc q h) hFc (fun u140 t H1 locs ht hvm hw hB hz1 hk1 hS => ?_)
        obtain ⟨fz, hP1, hD1, hfz⟩ := hB
        rw [ht] at hP1
        obtain ⟨hP, hD⟩ := va_join (wr := [(q50, .inl (ar 2, 1, .inr (.inl (fun _ => 0)))), (q7, .inl (ar 4, 6, .inr (.inr (.inr (.inr g))))), (q15, .inr (1, [.null, .null, .int (-1), .null])), (q16, .inr (1, [.null, .null, .int (-1), .null])), (q17, .inr (1, [.null, .null, .int (-1), .null])), (q18, .inr (1, [.null, .null, .int (-1), .null])), (q19, .inr (1, [.null, .null, .int (-1), .null])), (q20, .inr (1, [.null, .null, .int (-1), .null])), (q8, .inr (4, [.ref q9, .int 0])), (q10, .inr (4, [.ref q11, .int 0])), (q12, .inr (0, [.ref (z 0), .int 0, .int 0])), (q13, .inr (0, [.ref (z 0), .int 0, .int 0])), (q2, .inr (3, [.ref q3, .ref q4, .int 0, .int 0, .int 0, .int 0, .int 0, .int 0, .null])), (q3, .inl (ar 1, 72, .inl (fun _ => 0))), (q22, .inl (ar 0, 72, .inl (fun _ => 0)))]) (w1 := [(q21, .inr (6, fz))]) hP hD [14, 15] [0, 1, 2, 3, 4, 5, 6, 7, 8, 9, 10, 11, 12, 13, 16] rfl rfl (by decide) (by decide) hk1 hFc hP1 hD1
        generalize H1 = H at hP hS ⊢
        have hP : va_P (dC, dI) x_cl [(q50, .inl (ar 2, 1, .inr (.inl (fun _ => 0)))), (q7, .inl (ar 4, 6, .inr (.inr (.inr (.inr g))))), (q15, .inr (1, [.null, .null, .int (-1), .null])), (q16, .inr (1, [.null, .null, .int (-1), .null])), (q17, .inr (1, [.null, .null, .int (-1), .null])), (q18, .inr (1, [.null, .null, .int (-1), .null])), (q19, .inr (1, [.null, .null, .int (-1), .null])), (q20, .inr (1, [.null, .null, .int (-1), .null])), (q8, .inr (4, [.ref q9, .int 0])), (q10, .inr (4, [.ref q11, .int 0])), (q12, .inr (0, [.ref (z 0), .int 0, .int 0])), (q13, .inr (0, [.ref (z 0), .int 0, .int 0])), (q2, .inr (3, [.ref q3, .ref q4, .int 0, .int 0, .int 0, .int 0, .int 0, .int 0, .null])), (q3, .inl (ar 1, 72, .inl (fun _ => 0))), (q22, .inl (ar 0, 72, .inl (fun _ => 0))), (q21, .inr (6, fz))] H := hP
        have hD : va_D A [(q50, .inl (ar 2, 1, .inr (.inl (fun _ => 0)))), (q7, .inl (ar 4, 6, .inr (.inr (.inr (.inr g))))), (q15, .inr (1, [.null, .null, .int (-1), .null])), (q16, .inr (1, [.null, .null, .int (-1), .null])), (q17, .inr (1, [.null, .null, .int (-1), .null])), (q18, .inr (1, [.null, .null, .int (-1), .null])), (q19, .inr (1, [.null, .null, .int (-1), .null])), (q20, .inr (1, [.null, .null, .int (-1), .null])), (q8, .inr (4, [.ref q9, .int 0])), (q10, .inr (4, [.ref q11, .int 0])), (q12, .inr (0, [.ref (z 0), .int 0, .int 0])), (q13, .inr (0, [.ref (z 0), .int 0, .int 0])), (q2, .inr (3, [.ref q3, .ref q4, .int 0, .int 0, .int 0, .int 0, .int 0, .int 0, .null])), (q3, .inl (ar 1, 72, .inl (fun _ => 0))), (q22, .inl (ar 0, 72, .inl (fun _ => 0))), (q21, .inr (6, fz))] := hD
        refine W.widen (k := 51) (n := 4333) (Nat.le_of_ble_eq_true rfl) (Nat.le_of_ble_eq_true rfl) ?_
        rcases hw with ⟨hm9, rfl⟩ | ⟨hm9, rfl⟩
        · exact (x_d2 ha hm9).elim
        · refine lv_aload_n hx hb d_La_law_466 rfl (lv_at hl 3 rfl) ?_
          have hPc := hP.sub (ws' := [(q21, .inr (6, fz))]) [15] rfl
          have hDc := hD.sub (ws' := [(q21, .inr (6, fz))]) [15] (by decide) rfl
          have hFc := va_free (wc := [(q21, .inr (6, fz))]) hD hS hA [15] rfl
          refine va_calli (va_runV (As := []) (rest := []) ⟨hx, hb, hml, hown, hts⟩ (c_Mo_thrown l dC dI ar N0 z q21 fz (1) H.size hfz) (cwV 0 hts (x_goodV k_1105 k_1106 k_1107 k_9 k_1108) rfl rfl rfl (by decide +kernel) ⟨Nat.le_of_ble_eq_true rfl, Nat.le_of_ble_eq_true rfl⟩) ⟨x_blind, va_recv hK hPc (ci := 6) (q0 := 0) rfl rfl, fun U hU9 hW => x_pre hU9 hW hPc hDc hU hZ hS hAN hN0⟩ rfl rfl hl.1 rfl (lv_room (Nat.le_of_ble_eq_true rfl)) d_La_law_467 ⟨Nat.le_of_ble_eq_true rfl, Nat.le_of_ble_eq_true rfl⟩) hS (fun q _ h => hFc q h) hFc (fun r141 u142 t H1 locs ht hvm hw hB hz1 hk1 hS => ?_)
          obtain ⟨hP1, hD1⟩ := hB
          rw [ht] at hP1
          obtain ⟨hP, hD⟩ := va_join (wr := [(q50, .inl (ar 2, 1, .inr (.inl (fun _ => 0)))), (q7, .inl (ar 4, 6, .inr (.inr (.inr (.inr g))))), (q15, .inr (1, [.null, .null, .int (-1), .null])), (q16, .inr (1, [.null, .null, .int (-1), .null])), (q17, .inr (1, [.null, .null, .int (-1), .null])), (q18, .inr (1, [.null, .null, .int (-1), .null])), (q19, .inr (1, [.null, .null, .int (-1), .null])), (q20, .inr (1, [.null, .null, .int (-1), .null])), (q8, .inr (4, [.ref q9, .int 0])), (q10, .inr (4, [.ref q11, .int 0])), (q12, .inr (0, [.ref (z 0), .int 0, .int 0])), (q13, .inr (0, [.ref (z 0), .int 0, .int 0])), (q2, .inr (3, [.ref q3, .ref q4, .int 0, .int 0, .int 0, .int 0, .int 0, .int 0, .null])), (q3, .inl (ar 1, 72, .inl (fun _ => 0))), (q22, .inl (ar 0, 72, .inl (fun _ => 0)))]) (w1 := [(q21, .inr (6, fz))]) hP hD [15] [0, 1, 2, 3, 4, 5, 6, 7, 8, 9, 10, 11, 12, 13, 14] rfl rfl (by decide) (by decide) hk1 hFc hP1 hD1
          generalize H1 = H at hP hS ⊢
          have hP : va_P (dC, dI) x_cl [(q50, .inl (ar 2, 1, .inr (.inl (fun _ => 0)))), (q7, .inl (ar 4, 6, .inr (.inr (.inr (.inr g))))), (q15, .inr (1, [.null, .null, .int (-1), .null])), (q16, .inr (1, [.null, .null, .int (-1), .null])), (q17, .inr (1, [.null, .null, .int (-1), .null])), (q18, .inr (1, [.null, .null, .int (-1), .null])), (q19, .inr (1, [.null, .null, .int (-1), .null])), (q20, .inr (1, [.null, .null, .int (-1), .null])), (q8, .inr (4, [.ref q9, .int 0])), (q10, .inr (4, [.ref q11, .int 0])), (q12, .inr (0, [.ref (z 0), .int 0, .int 0])), (q13, .inr (0, [.ref (z 0), .int 0, .int 0])), (q2, .inr (3, [.ref q3, .ref q4, .int 0, .int 0, .int 0, .int 0, .int 0, .int 0, .null])), (q3, .inl (ar 1, 72, .inl (fun _ => 0))), (q22, .inl (ar 0, 72, .inl (fun _ => 0))), (q21, .inr (6, fz))] H := hP
          have hD : va_D A [(q50, .inl (ar 2, 1, .inr (.inl (fun _ => 0)))), (q7, .inl (ar 4, 6, .inr (.inr (.inr (.inr g))))), (q15, .inr (1, [.null, .null, .int (-1), .null])), (q16, .inr (1, [.null, .null, .int (-1), .null])), (q17, .inr (1, [.null, .null, .int (-1), .null])), (q18, .inr (1, [.null, .null, .int (-1), .null])), (q19, .inr (1, [.null, .null, .int (-1), .null])), (q20, .inr (1, [.null, .null, .int (-1), .null])), (q8, .inr (4, [.ref q9, .int 0])), (q10, .inr (4, [.ref q11, .int 0])), (q12, .inr (0, [.ref (z 0), .int 0, .int 0])), (q13, .inr (0, [.ref (z 0), .int 0, .int 0])), (q2, .inr (3, [.ref q3, .ref q4, .int 0, .int 0, .int 0, .int 0, .int 0, .int 0, .null])), (q3, .inl (ar 1, 72, .inl (fun _ => 0))), (q22, .inl (ar 0, 72, .inl (fun _ => 0))), (q21, .inr (6, fz))] := hD
          refine W.widen (k := 51) (n := 4333) (Nat.le_of_ble_eq_true rfl) (Nat.le_of_ble_eq_true rfl) ?_
          obtain rfl := hw
          refine lv_iload hx hb d_La_law_470 (lv_at hl 0 rfl) ?_
          refine lv_icmp_eq (tgt := 477) hx hb d_La_law_472 (by decide) (fun _ => ?_) (fun c143 => absurd (by decide) c143)
          refine lv_goto (tgt := 561) hx hb d_La_law_477 (by decide) ?_
          refine lv_iinc (v := 3) (lv' := [(4, .int 3), (5, .int 1), (3, .ref q50), (2, .ref q21), (1, .ref q1), (0, .ref b)]) hx hb d_La_law_561 hl (k := 1) rfl (by decide) (by decide) rfl (fun ls hl => ?_)
          refine lv_goto (tgt := 23) hx hb d_La_law_564 (by decide) ?_
          refine lv_iload hx hb d_La_law_23 (lv_at hl 0 rfl) ?_
          refine lv_aload_n hx hb d_La_law_25 rfl (lv_at hl 5 rfl) ?_
          refine va_slen hx hb hX hbl hbA hS d_La_law_26 ?_
          refine lv_iconst (v := 3) hx hb d_La_law_27 (by decide) ?_
          refine lv_isub hx hb d_La_law_28 ?_
          refine W.eq (g2 := F0 m 29 ls [.int 0, .int 3]) (by rw [show (Int32.ofNat 3 - 3 : Int32) = 0 from by decide]) ?_
          refine lv_icmp_gt (tgt := 567) hx hb d_La_law_29 (by decide) (fun _ => ?_) (fun c144 => absurd (by decide) c144)
          refine lv_iconst (v := 1) hx hb d_La_law_567 (by decide) ?_
          refine va_forget (fun q h => by rw [← hNe]; exact hAN _ (hS.2.2 q h)) ?_
          refine W.widen (k := 600002) (n := 7302232) (Nat.le_of_ble_eq_true rfl) (Nat.le_of_ble_eq_true rfl) ?_
          exact lw_ret hx hb hr hlocks d_La_law_568
    · refine lv_tableIn (tgt := 480) hx hb d_La_law_39 (by decide) (by decide) (off := 441) rfl (by decide) ?_
      refine lv_aload_n hx hb d_La_law_480 rfl (lv_at hl 3 rfl) ?_
      refine lv_aload_n hx hb d_La_law_481 rfl (lv_at hl 4 rfl) ?_
      refine lv_iload hx hb d_La_law_482 (lv_at hl 0 rfl) ?_
      refine lv_iconst (v := 1) hx hb d_La_law_484 (by decide) ?_
      refine lv_iadd hx hb d_La_law_485 ?_
      refine W.eq (g2 := F0 m 486 ls [.int 1, .ref b, .ref q1]) rfl ?_
      refine va_sld hx hb hX hbl hbA hS (i := 1) (by unfold vp_in; decide) d_La_law_486 ?_
      refine W.eq (g2 := F0 m 487 ls [.int (xs 1), .ref q1]) (by rw [show Int32.toNatClampNeg (1 : Int32) = 1 from by decide]) ?_
      refine lv_aload_n hx hb d_La_law_487 rfl (lv_at hl 1 rfl) ?_
      have hPc := hP.sub (ws' := [(q50, .inl (ar 2, 1, .inr (.inl (fun _ => 0)))), (q1, .inr (5, [.ref q2, .ref q5, .int (-1)])), (q5, .inr (2, [.ref q6, .ref q7, .ref q8, .ref q10, .ref q12, .ref q13, .ref q14, .int 0, .int 0, .int 0, .long 0])), (q7, .inl (ar 4, 6, .inr (.inr (.inr (.inr g))))), (q15, .inr (1, [.null, .null, .int (-1), .null])), (q16, .inr (1, [.null, .null, .int (-1), .null])), (q17, .inr (1, [.null, .null, .int (-1), .null])), (q18, .inr (1, [.null, .null, .int (-1), .null])), (q19, .inr (1, [.null, .null, .int (-1), .null])), (q20, .inr (1, [.null, .null, .int (-1), .null]))]) [0, 1, 2, 4, 5, 6, 7, 8, 9, 10] rfl
      have hDc := hD.sub (ws' := [(q50, .inl (ar 2, 1, .inr (.inl (fun _ => 0)))), (q1, .inr (5, [.ref q2, .ref q5, .int (-1)])), (q5, .inr (2, [.ref q6, .ref q7, .ref q8, .ref q10, .ref q12, .ref q13, .ref q14, .int 0, .int 0, .int 0, .long 0])), (q7, .inl (ar 4, 6, .inr (.inr (.inr (.inr g))))), (q15, .inr (1, [.null, .null, .int (-1), .null])), (q16, .inr (1, [.null, .null, .int (-1), .null])), (q17, .inr (1, [.null, .null, .int (-1), .null])), (q18, .inr (1, [.null, .null, .int (-1), .null])), (q19, .inr (1, [.null, .null, .int (-1), .null])), (q20, .inr (1, [.null, .null, .int (-1), .null]))]) [0, 1, 2, 4, 5, 6, 7, 8, 9, 10] (by decide) rfl
      have hFc := va_free (wc := [(q50, .inl (ar 2, 1, .inr (.inl (fun _ => 0)))), (q1, .inr (5, [.ref q2, .ref q5, .int (-1)])), (q5, .inr (2, [.ref q6, .ref q7, .ref q8, .ref q10, .ref q12, .ref q13, .ref q14, .int 0, .int 0, .int 0, .long 0])), (q7, .inl (ar 4, 6, .inr (.inr (.inr (.inr g))))), (q15, .inr (1, [.null, .null, .int (-1), .null])), (q16, .inr (1, [.null, .null, .int (-1), .null])), (q17, .inr (1, [.null, .null, .int (-1), .null])), (q18, .inr (1, [.null, .null, .int (-1), .null])), (q19, .inr (1, [.null, .null, .int (-1), .null])), (q20, .inr (1, [.null, .null, .int (-1), .null]))]) hD hS hA [0, 1, 2, 4, 5, 6, 7, 8, 9, 10] rfl
      refine va_calli (vx_runSW (As := [.ref q1, .int (xs 1), .ref q50]) (rest := []) ⟨hx, hb, hml, hown, hts⟩ (c_La_channel l hst dC dI ar N0 z q50 q1 q2 q5 q6 q7 q8 q10 q12 q13 q14 q15 q16 q17 q18 q19 q20 g (xs 1) H.size g0 g1 g2 g3 g4 g5) (vx_cwSW 3 hts (x_goodSW k_953 k_954 k_0 k_955) rfl rfl rfl (by decide +kernel) ⟨Nat.le_of_ble_eq_true rfl, Nat.le_of_ble_eq_true rfl⟩) ⟨x_blind, fun U hU9 hW => x_pre hU9 hW hPc hDc hU hZ hS hAN hN0⟩ rfl rfl hl.1 rfl (lv_room (Nat.le_of_ble_eq_true rfl)) d_La_law_488 ⟨Nat.le_of_ble_eq_true rfl, Nat.le_of_ble_eq_true rfl⟩) hS (fun q _ h => hFc q h) hFc (fun r145 u146 t H1 locs ht hvm hw hB hz1 hk1 hS => ?_)
      obtain ⟨hP1, hD1⟩ := hB
      rw [ht] at hP1
      obtain ⟨hP, hD⟩ := va_join (wr := [(q6, .inl (ar 0, 6, .inl (fun _ => 0))), (q8, .inr (4, [.ref q9, .int 0])), (q10, .inr (4, [.ref q11, .int 0])), (q12, .inr (0, [.ref (z 0), .int 0, .int 0])), (q13, .inr (0, [.ref (z 0), .int 0, .int 0])), (q2, .inr (3, [.ref q3, .ref q4, .int 0, .int 0, .int 0, .int 0, .int 0, .int 0, .null])), (q3, .inl (ar 1, 72, .inl (fun _ => 0))), (q21, .inr (6, fs)), (q25, .inl (ar 0, 6, .inl (fun _ => 0))), (q22, .inl (ar 0, 72, .inl (fun _ => 0)))]) (w1 := [(q50, .inl (ar 2, 1, .inr (.inl u146)))]) hP hD [0, 1, 2, 4, 5, 6, 7, 8, 9, 10] [3, 11, 12, 13, 14, 15, 16, 17, 18, 19] rfl rfl (by decide) (by decide) hk1 hFc hP1 hD1
      generalize H1 = H at hP hS ⊢
      have hP : va_P (dC, dI) x_cl [(q6, .inl (ar 0, 6, .inl (fun _ => 0))), (q8, .inr (4, [.ref q9, .int 0])), (q10, .inr (4, [.ref q11, .int 0])), (q12, .inr (0, [.ref (z 0), .int 0, .int 0])), (q13, .inr (0, [.ref (z 0), .int 0, .int 0])), (q2, .inr (3, [.ref q3, .ref q4, .int 0, .int 0, .int 0, .int 0, .int 0, .int 0, .null])), (q3, .inl (ar 1, 72, .inl (fun _ => 0))), (q21, .inr (6, fs)), (q25, .inl (ar 0, 6, .inl (fun _ => 0))), (q22, .inl (ar 0, 72, .inl (fun _ => 0))), (q50, .inl (ar 2, 1, .inr (.inl u146)))] H := hP
      have hD : va_D A [(q6, .inl (ar 0, 6, .inl (fun _ => 0))), (q8, .inr (4, [.ref q9, .int 0])), (q10, .inr (4, [.ref q11, .int 0])), (q12, .inr (0, [.ref (z 0), .int 0, .int 0])), (q13, .inr (0, [.ref (z 0), .int 0, .int 0])), (q2, .inr (3, [.ref q3, .ref q4, .int 0, .int 0, .int 0, .int 0, .int 0, .int 0, .null])), (q3, .inl (ar 1, 72, .inl (fun _ => 0))), (q21, .inr (6, fs)), (q25, .inl (ar 0, 6, .inl (fun _ => 0))), (q22, .inl (ar 0, 72, .inl (fun _ => 0))), (q50, .inl (ar 2, 1, .inr (.inl u146)))] := hD
      refine W.widen (k := 51) (n := 4333) (Nat.le_of_ble_eq_true rfl) (Nat.le_of_ble_eq_true rfl) ?_
      rcases hw with ⟨ha, rfl, hu⟩ | ⟨ha, rfl⟩
      · refine lv_istore (lv' := [(5, .int 0), (4, .int 0), (3, .ref q50), (2, .ref q21), (1, .ref q1), (0, .ref b)]) hx hb d_La_law_491 hl (by decide) rfl (fun ls hl => ?_)
        refine lv_aload_n hx hb d_La_law_493 rfl (lv_at hl 3 rfl) ?_
        refine lv_aload_n hx hb d_La_law_494 rfl (lv_at hl 5 rfl) ?_
        refine lv_iload hx hb d_La_law_495 (lv_at hl 1 rfl) ?_
        refine lv_iconst (v := 1) hx hb d_La_law_497 (by decide) ?_
        refine lv_iadd hx hb d_La_law_498 ?_
        refine W.eq (g2 := F0 m 499 ls [.int 1, .ref b, .ref q21]) rfl ?_
        refine va_sld hx hb hX hbl hbA hS (i := 1) (by unfold vp_in; decide) d_La_law_499 ?_
        refine W.eq (g2 := F0 m 500 ls [.int (xs 1), .ref q21]) (by rw [show Int32.toNatClampNeg (1 : Int32) = 1 from by decide]) ?_
        have hPc := hP.sub (ws' := [(q21, .inr (6, fs))]) [7] rfl
        have hDc := hD.sub (ws' := [(q21, .inr (6, fs))]) [7] (by decide) rfl
        have hFc := va_free (wc := [(q21, .inr (6, fs))]) hD hS hA [7] rfl
        refine va_calli (va_runV (As := [.int (xs 1)]) (rest := []) ⟨hx, hb, hml, hown, hts⟩ (c_Mo_channel l dC dI ar N0 z q21  fs (xs 1) H.size hfs g_status) (cwV 1 hts (x_goodV k_1282 k_1283 k_1284 k_9 k_1285) rfl rfl rfl (by decide +kernel) ⟨Nat.le_of_ble_eq_true rfl, Nat.le_of_ble_eq_true rfl⟩) ⟨x_blind, va_recv hK hPc (ci := 6) (q0 := 0) rfl rfl, fun U hU9 hW => x_pre hU9 hW hPc hDc hU hZ hS hAN hN0⟩ rfl rfl hl.1 rfl (lv_room (Nat.le_of_ble_eq_true rfl)) d_La_law_500 ⟨Nat.le_of_ble_eq_true rfl, Nat.le_of_ble_eq_true rfl⟩) hS (fun q _ h => hFc q h) hFc (fun r147 u148 t H1 locs ht hvm hw hB hz1 hk1 hS => ?_)
        obtain ⟨fz, hP1, hD1, hfz⟩ := hB
        rw [ht] at hP1
        obtain ⟨hP, hD⟩ := va_join (wr := [(q6, .inl (ar 0, 6, .inl (fun _ => 0))), (q8, .inr (4, [.ref q9, .int 0])), (q10, .inr (4, [.ref q11, .int 0])), (q12, .inr (0, [.ref (z 0), .int 0, .int 0])), (q13, .inr (0, [.ref (z 0), .int 0, .int 0])), (q2, .inr (3, [.ref q3, .ref q4, .int 0, .int 0, .int 0, .int 0, .int 0, .int 0, .null])), (q3, .inl (ar 1, 72, .inl (fun _ => 0))), (q25, .inl (ar 0, 6, .inl (fun _ => 0))), (q22, .inl (ar 0, 72, .inl (fun _ => 0))), (q50, .inl (ar 2, 1, .inr (.inl u146)))]) (w1 := [(q21, .inr (6, fz))]) hP hD [7] [0, 1, 2, 3, 4, 5, 6, 8, 9, 10] rfl rfl (by decide) (by decide) hk1 hFc hP1 hD1
        generalize H1 = H at hP hS ⊢
        have hP : va_P (dC, dI) x_cl [(q6, .inl (ar 0, 6, .inl (fun _ => 0))), (q8, .inr (4, [.ref q9, .int 0])), (q10, .inr (4, [.ref q11, .int 0])), (q12, .inr (0, [.ref (z 0), .int 0, .int 0])), (q13, .inr (0, [.ref (z 0), .int 0, .int 0])), (q2, .inr (3, [.ref q3, .ref q4, .int 0, .int 0, .int 0, .int 0, .int 0, .int 0, .null])), (q3, .inl (ar 1, 72, .inl (fun _ => 0))), (q25, .inl (ar 0, 6, .inl (fun _ => 0))), (q22, .inl (ar 0, 72, .inl (fun _ => 0))), (q50, .inl (ar 2, 1, .inr (.inl u146))), (q21, .inr (6, fz))] H := hP
        have hD : va_D A [(q6, .inl (ar 0, 6, .inl (fun _ => 0))), (q8, .inr (4, [.ref q9, .int 0])), (q10, .inr (4, [.ref q11, .int 0])), (q12, .inr (0, [.ref (z 0), .int 0, .int 0])), (q13, .inr (0, [.ref (z 0), .int 0, .int 0])), (q2, .inr (3, [.ref q3, .ref q4, .int 0, .int 0, .int 0, .int 0, .int 0, .int 0, .null])), (q3, .inl (ar 1, 72, .inl (fun _ => 0))), (q25, .inl (ar 0, 6, .inl (fun _ => 0))), (q22, .inl (ar 0, 72, .inl (fun _ => 0))), (q50, .inl (ar 2, 1, .inr (.inl u146))), (q21, .inr (6, fz))] := hD
        refine W.widen (k := 51) (n := 4333) (Nat.le_of_ble_eq_true rfl) (Nat.le_of_ble_eq_true rfl) ?_
        rcases hw with ⟨hm9, rfl, rfl⟩ | ⟨hm9, rfl⟩
        · refine lv_istore (lv' := [(6, .int 0), (5, .int 0), (4, .int 0), (3, .ref q50), (2, .ref q21), (1, .ref q1), (0, .ref b)]) hx hb d_La_law_503 hl (by decide) rfl (fun ls hl => ?_)
          refine lv_aload_n hx hb d_La_law_505 rfl (lv_at hl 4 rfl) ?_
          have hPc := hP.sub (ws' := [(q21, .inr (6, fz))]) [10] rfl
          have hDc := hD.sub (ws' := [(q21, .inr (6, fz))]) [10] (by decide) rfl
          have hFc := va_free (wc := [(q21, .inr (6, fz))]) hD hS hA [10] rfl
          refine va_calli (va_runV (As := []) (rest := []) ⟨hx, hb, hml, hown, hts⟩ (c_Mo_thrown l dC dI ar N0 z q21 fz (0) H.size hfz) (cwV 0 hts (x_goodV k_1105 k_1106 k_1107 k_9 k_1108) rfl rfl rfl (by decide +kernel) ⟨Nat.le_of_ble_eq_true rfl, Nat.le_of_ble_eq_true rfl⟩) ⟨x_blind, va_recv hK hPc (ci := 6) (q0 := 0) rfl rfl, fun U hU9 hW => x_pre hU9 hW hPc hDc hU hZ hS hAN hN0⟩ rfl rfl hl.1 rfl (lv_room (Nat.le_of_ble_eq_true rfl)) d_La_law_506 ⟨Nat.le_of_ble_eq_true rfl, Nat.le_of_ble_eq_true rfl⟩) hS (fun q _ h => hFc q h) hFc (fun r149 u150 t H1 locs ht hvm hw hB hz1 hk1 hS => ?_)
          obtain ⟨hP1, hD1⟩ := hB
          rw [ht] at hP1
          obtain ⟨hP, hD⟩ := va_join (wr := [(q6, .inl (ar 0, 6, .inl (fun _ => 0))), (q8, .inr (4, [.ref q9, .int 0])), (q10, .inr (4, [.ref q11, .int 0])), (q12, .inr (0, [.ref (z 0), .int 0, .int 0])), (q13, .inr (0, [.ref (z 0), .int 0, .int 0])), (q2, .inr (3, [.ref q3, .ref q4, .int 0, .int 0, .int 0, .int 0, .int 0, .int 0, .null])), (q3, .inl (ar 1, 72, .inl (fun _ => 0))), (q25, .inl (ar 0, 6, .inl (fun _ => 0))), (q22, .inl (ar 0, 72, .inl (fun _ => 0))), (q50, .inl (ar 2, 1, .inr (.inl u146)))]) (w1 := [(q21, .inr (6, fz))]) hP hD [10] [0, 1, 2, 3, 4, 5, 6, 7, 8, 9] rfl rfl (by decide) (by decide) hk1 hFc hP1 hD1
          generalize H1 = H at hP hS ⊢
          have hP : va_P (dC, dI) x_cl [(q6, .inl (ar 0, 6, .inl (fun _ => 0))), (q8, .inr (4, [.ref q9, .int 0])), (q10, .inr (4, [.ref q11, .int 0])), (q12, .inr (0, [.ref (z 0), .int 0, .int 0])), (q13, .inr (0, [.ref (z 0), .int 0, .int 0])), (q2, .inr (3, [.ref q3, .ref q4, .int 0, .int 0, .int 0, .int 0, .int 0, .int 0, .null])), (q3, .inl (ar 1, 72, .inl (fun _ => 0))), (q25, .inl (ar 0, 6, .inl (fun _ => 0))), (q22, .inl (ar 0, 72, .inl (fun _ => 0))), (q50, .inl (ar 2, 1, .inr (.inl u146))), (q21, .inr (6, fz))] H := hP
          have hD : va_D A [(q6, .inl (ar 0, 6, .inl (fun _ => 0))), (q8, .inr (4, [.ref q9, .int 0])), (q10, .inr (4, [.ref q11, .int 0])), (q12, .inr (0, [.ref (z 0), .int 0, .int 0])), (q13, .inr (0, [.ref (z 0), .int 0, .int 0])), (q2, .inr (3, [.ref q3, .ref q4, .int 0, .int 0, .int 0, .int 0, .int 0, .int 0, .null])), (q3, .inl (ar 1, 72, .inl (fun _ => 0))), (q25, .inl (ar 0, 6, .inl (fun _ => 0))), (q22, .inl (ar 0, 72, .inl (fun _ => 0))), (q50, .inl (ar 2, 1, .inr (.inl u146))), (q21, .inr (6, fz))] := hD
          refine W.widen (k := 51) (n := 4333) (Nat.le_of_ble_eq_true rfl) (Nat.le_of_ble_eq_true rfl) ?_
          obtain rfl := hw
          refine lv_iload hx hb d_La_law_509 (lv_at hl 1 rfl) ?_
          refine lv_icmp_eq (tgt := 516) hx hb d_La_law_511 (by decide) (fun _ => ?_) (fun c151 => absurd (by decide) c151)
          refine lv_iload hx hb d_La_law_516 (lv_at hl 1 rfl) ?_
          refine lv_if_ne (tgt := 533) hx hb d_La_law_518 (by decide) (fun c152 => absurd rfl c152) (fun _ => ?_)
          refine lv_aload_n hx hb d_La_law_521 rfl (lv_at hl 3 rfl) ?_
          refine lv_iconst (v := 0) hx hb d_La_law_522 (by decide) ?_
          refine va_lald hx hb hK hP 9 2 rfl rfl (by unfold vp_in; decide) d_La_law_523 ?_
          refine W.eq (g2 := F0 m 524 ls [.long 0]) (by rw [show Int32.toNatClampNeg (0 : Int32) = 0 from by decide, hu]) ?_
          refine lv_iload hx hb d_La_law_524 (lv_at hl 0 rfl) ?_
          refine lv_i2l (v := (0)) hx hb d_La_law_526 (by decide) ?_
          refine W.lcmp hx hb d_La_law_527 ?_
          refine W.eq (g2 := F0 m 528 ls [.int 0]) (by rw [x_lc]) ?_
          refine lv_if_eq (tgt := 533) hx hb d_La_law_528 (by decide) (fun _ => ?_) (fun c153 => absurd (by decide) c153)
          refine lv_goto (tgt := 561) hx hb d_La_law_533 (by decide) ?_
          refine lv_iinc (v := 3) (lv' := [(4, .int 3), (6, .int 0), (5, .int 0), (3, .ref q50), (2, .ref q21), (1, .ref q1), (0, .ref b)]) hx hb d_La_law_561 hl (k := 2) rfl (by decide) (by decide) rfl (fun ls hl => ?_)
          refine lv_goto (tgt := 23) hx hb d_La_law_564 (by decide) ?_
          refine lv_iload hx hb d_La_law_23 (lv_at hl 0 rfl) ?_
          refine lv_aload_n hx hb d_La_law_25 rfl (lv_at hl 6 rfl) ?_
          refine va_slen hx hb hX hbl hbA hS d_La_law_26 ?_
          refine lv_iconst (v := 3) hx hb d_La_law_27 (by decide) ?_
          refine lv_isub hx hb d_La_law_28 ?_
          refine W.eq (g2 := F0 m 29 ls [.int 0, .int 3]) (by rw [show (Int32.ofNat 3 - 3 : Int32) = 0 from by decide]) ?_
          refine lv_icmp_gt (tgt := 567) hx hb d_La_law_29 (by decide) (fun _ => ?_) (fun c154 => absurd (by decide) c154)
          refine lv_iconst (v := 1) hx hb d_La_law_567 (by decide) ?_
          refine va_forget (fun q h => by rw [← hNe]; exact hAN _ (hS.2.2 q h)) ?_
          refine W.widen (k := 600002) (n := 7302232) (Nat.le_of_ble_eq_true rfl) (Nat.le_of_ble_eq_true rfl) ?_
          exact lw_ret hx hb hr hlocks d_La_law_568
        · exact (x_d1 ha hm9).elim
      · refine lv_istore (lv' := [(5, .int 1), (4, .int 0), (3, .ref q50), (2, .ref q21), (1, .ref q1), (0, .ref b)]) hx hb d_La_law_491 hl (by decide) rfl (fun ls hl => ?_)
        refine lv_aload_n hx hb d_La_law_493 rfl (lv_at hl 3 rfl) ?_
        refine lv_aload_n hx hb d_La_law_494 rfl (lv_at hl 5 rfl) ?_
        refine lv_iload hx hb d_La_law_495 (lv_at hl 1 rfl) ?_
        refine lv_iconst (v := 1) hx hb d_La_law_497 (by decide) ?_
        refine lv_iadd hx hb d_La_law_498 ?_
        refine W.eq (g2 := F0 m 499 ls [.int 1, .ref b, .ref q21]) rfl ?_
        refine va_sld hx hb hX hbl hbA hS (i := 1) (by unfold vp_in; decide) d_La_law_499 ?_
        refine W.eq (g2 := F0 m 500 ls [.int (xs 1), .ref q21]) (by rw [show Int32.toNatClampNeg (1 : Int32) = 1 from by decide]) ?_
        have hPc := hP.sub (ws' := [(q21, .inr (6, fs))]) [7] rfl
        have hDc := hD.sub (ws' := [(q21, .inr (6, fs))]) [7] (by decide) rfl
        have hFc := va_free (wc := [(q21, .inr (6, fs))]) hD hS hA [7] rfl
        refine va_calli (va_runV (As := [.int (xs 1)]) (rest := []) ⟨hx, hb, hml, hown, hts⟩ (c_Mo_channel l dC dI ar N0 z q21  fs (xs 1) H.size hfs g_status) (cwV 1 hts (x_goodV k_1282 k_1283 k_1284 k_9 k_1285) rfl rfl rfl (by decide +kernel) ⟨Nat.le_of_ble_eq_true rfl, Nat.le_of_ble_eq_true rfl⟩) ⟨x_blind, va_recv hK hPc (ci := 6) (q0 := 0) rfl rfl, fun U hU9 hW => x_pre hU9 hW hPc hDc hU hZ hS hAN hN0⟩ rfl rfl hl.1 rfl (lv_room (Nat.le_of_ble_eq_true rfl)) d_La_law_500 ⟨Nat.le_of_ble_eq_true rfl, Nat.le_of_ble_eq_true rfl⟩) hS (fun q _ h => hFc q h) hFc (fun r155 u156 t H1 locs ht hvm hw hB hz1 hk1 hS => ?_)
        obtain ⟨fz, hP1, hD1, hfz⟩ := hB
        rw [ht] at hP1
        obtain ⟨hP, hD⟩ := va_join (wr := [(q6, .inl (ar 0, 6, .inl (fun _ => 0))), (q8, .inr (4, [.ref q9, .int 0])), (q10, .inr (4, [.ref q11, .int 0])), (q12, .inr (0, [.ref (z 0), .int 0, .int 0])), (q13, .inr (0, [.ref (z 0), .int 0, .int 0])), (q2, .inr (3, [.ref q3, .ref q4, .int 0, .int 0, .int 0, .int 0, .int 0, .int 0, .null])), (q3, .inl (ar 1, 72, .inl (fun _ => 0))), (q25, .inl (ar 0, 6, .inl (fun _ => 0))), (q22, .inl (ar 0, 72, .inl (fun _ => 0))), (q50, .inl (ar 2, 1, .inr (.inl u146)))]) (w1 := [(q21, .inr (6, fz))]) hP hD [7] [0, 1, 2, 3, 4, 5, 6, 8, 9, 10] rfl rfl (by decide) (by decide) hk1 hFc hP1 hD1
        generalize H1 = H at hP hS ⊢
        have hP : va_P (dC, dI) x_cl [(q6, .inl (ar 0, 6, .inl (fun _ => 0))), (q8, .inr (4, [.ref q9, .int 0])), (q10, .inr (4, [.ref q11, .int 0])), (q12, .inr (0, [.ref (z 0), .int 0, .int 0])), (q13, .inr (0, [.ref (z 0), .int 0, .int 0])), (q2, .inr (3, [.ref q3, .ref q4, .int 0, .int 0, .int 0, .int 0, .int 0, .int 0, .null])), (q3, .inl (ar 1, 72, .inl (fun _ => 0))), (q25, .inl (ar 0, 6, .inl (fun _ => 0))), (q22, .inl (ar 0, 72, .inl (fun _ => 0))), (q50, .inl (ar 2, 1, .inr (.inl u146))), (q21, .inr (6, fz))] H := hP
        have hD : va_D A [(q6, .inl (ar 0, 6, .inl (fun _ => 0))), (q8, .inr (4, [.ref q9, .int 0])), (q10, .inr (4, [.ref q11, .int 0])), (q12, .inr (0, [.ref (z 0), .int 0, .int 0])), (q13, .inr (0, [.ref (z 0), .int 0, .int 0])), (q2, .inr (3, [.ref q3, .ref q4, .int 0, .int 0, .int 0, .int 0, .int 0, .int 0, .null])), (q3, .inl (ar 1, 72, .inl (fun _ => 0))), (q25, .inl (ar 0, 6, .inl (fun _ => 0))), (q22, .inl (ar 0, 72, .inl (fun _ => 0))), (q50, .inl (ar 2, 1, .inr (.inl u146))), (q21, .inr (6, fz))] := hD
        refine W.widen (k := 51) (n := 4333) (Nat.le_of_ble_eq_true rfl) (Nat.le_of_ble_eq_true rfl) ?_
        rcases hw with ⟨hm9, rfl, rfl⟩ | ⟨hm9, rfl⟩
        · exact (x_d2 ha hm9).elim
        · refine lv_istore (lv' := [(6, .int r155), (5, .int 1), (4, .int 0), (3, .ref q50), (2, .ref q21), (1, .ref q1), (0, .ref b)]) hx hb d_La_law_503 hl (by decide) rfl (fun ls hl => ?_)
          refine lv_aload_n hx hb d_La_law_505 rfl (lv_at hl 4 rfl) ?_
          have hPc := hP.sub (ws' := [(q21, .inr (6, fz))]) [10] rfl
          have hDc := hD.sub (ws' := [(q21, .inr (6, fz))]) [10] (by decide) rfl
          have hFc := va_free (wc := [(q21, .inr (6, fz))]) hD hS hA [10] rfl
          refine va_calli (va_runV (As := []) (rest := []) ⟨hx, hb, hml, hown, hts⟩ (c_Mo_thrown l dC dI ar N0 z q21 fz (1) H.size hfz) (cwV 0 hts (x_goodV k_1105 k_1106 k_1107 k_9 k_1108) rfl rfl rfl (by decide +kernel) ⟨Nat.le_of_ble_eq_true rfl, Nat.le_of_ble_eq_true rfl⟩) ⟨x_blind, va_recv hK hPc (ci := 6) (q0 := 0) rfl rfl, fun U hU9 hW => x_pre hU9 hW hPc hDc hU hZ hS hAN hN0⟩ rfl rfl hl.1 rfl (lv_room (Nat.le_of_ble_eq_true rfl)) d_La_law_506 ⟨Nat.le_of_ble_eq_true rfl, Nat.le_of_ble_eq_true rfl⟩) hS (fun q _ h => hFc q h) hFc (fun r157 u158 t H1 locs ht hvm hw hB hz1 hk1 hS => ?_)
          obtain ⟨hP1, hD1⟩ := hB
          rw [ht] at hP1
          obtain ⟨hP, hD⟩ := va_join (wr := [(q6, .inl (ar 0, 6, .inl (fun _ => 0))), (q8, .inr (4, [.ref q9, .int 0])), (q10, .inr (4, [.ref q11, .int 0])), (q12, .inr (0, [.ref (z 0), .int 0, .int 0])), (q13, .inr (0, [.ref (z 0), .int 0, .int 0])), (q2, .inr (3, [.ref q3, .ref q4, .int 0, .int 0, .int 0, .int 0, .int 0, .int 0, .null])), (q3, .inl (ar 1, 72, .inl (fun _ => 0))), (q25, .inl (ar 0, 6, .inl (fun _ => 0))), (q22, .inl (ar 0, 72, .inl (fun _ => 0))), (q50, .inl (ar 2, 1, .inr (.inl u146)))]) (w1 := [(q21, .inr (6, fz))]) hP hD [10] [0, 1, 2, 3, 4, 5, 6, 7, 8, 9] rfl rfl (by decide) (by decide) hk1 hFc hP1 hD1
          generalize H1 = H at hP hS ⊢
          have hP : va_P (dC, dI) x_cl [(q6, .inl (ar 0, 6, .inl (fun _ => 0))), (q8, .inr (4, [.ref q9, .int 0])), (q10, .inr (4, [.ref q11, .int 0])), (q12, .inr (0, [.ref (z 0), .int 0, .int 0])), (q13, .inr (0, [.ref (z 0), .int 0, .int 0])), (q2, .inr (3, [.ref q3, .ref q4, .int 0, .int 0, .int 0, .int 0, .int 0, .int 0, .null])), (q3, .inl (ar 1, 72, .inl (fun _ => 0))), (q25, .inl (ar 0, 6, .inl (fun _ => 0))), (q22, .inl (ar 0, 72, .inl (fun _ => 0))), (q50, .inl (ar 2, 1, .inr (.inl u146))), (q21, .inr (6, fz))] H := hP
          have hD : va_D A [(q6, .inl (ar 0, 6, .inl (fun _ => 0))), (q8, .inr (4, [.ref q9, .int 0])), (q10, .inr (4, [.ref q11, .int 0])), (q12, .inr (0, [.ref (z 0), .int 0, .int 0])), (q13, .inr (0, [.ref (z 0), .int 0, .int 0])), (q2, .inr (3, [.ref q3, .ref q4, .int 0, .int 0, .int 0, .int 0, .int 0, .int 0, .null])), (q3, .inl (ar 1, 72, .inl (fun _ => 0))), (q25, .inl (ar 0, 6, .inl (fun _ => 0))), (q22, .inl (ar 0, 72, .inl (fun _ => 0))), (q50, .inl (ar 2, 1, .inr (.inl u146))), (q21, .inr (6, fz))] := hD
          refine W.widen (k := 51) (n := 4333) (Nat.le_of_ble_eq_true rfl) (Nat.le_of_ble_eq_true rfl) ?_
          obtain rfl := hw
          refine lv_iload hx hb d_La_law_509 (lv_at hl 1 rfl) ?_
          refine lv_icmp_eq (tgt := 516) hx hb d_La_law_511 (by decide) (fun _ => ?_) (fun c159 => absurd (by decide) c159)
          refine lv_iload hx hb d_La_law_516 (lv_at hl 1 rfl) ?_
          refine lv_if_ne (tgt := 533) hx hb d_La_law_518 (by decide) (fun _ => ?_) (fun c160 => absurd c160 (by decide))
          refine lv_goto (tgt := 561) hx hb d_La_law_533 (by decide) ?_
          refine lv_iinc (v := 3) (lv' := [(4, .int 3), (6, .int r155), (5, .int 1), (3, .ref q50), (2, .ref q21), (1, .ref q1), (0, .ref b)]) hx hb d_La_law_561 hl (k := 2) rfl (by decide) (by decide) rfl (fun ls hl => ?_)
          refine lv_goto (tgt := 23) hx hb d_La_law_564 (by decide) ?_
          refine lv_iload hx hb d_La_law_23 (lv_at hl 0 rfl) ?_
          refine lv_aload_n hx hb d_La_law_25 rfl (lv_at hl 6 rfl) ?_
          refine va_slen hx hb hX hbl hbA hS d_La_law_26 ?_
          refine lv_iconst (v := 3) hx hb d_La_law_27 (by decide) ?_
          refine lv_isub hx hb d_La_law_28 ?_
          refine W.eq (g2 := F0 m 29 ls [.int 0, .int 3]) (by rw [show (Int32.ofNat 3 - 3 : Int32) = 0 from by decide]) ?_
          refine lv_icmp_gt (tgt := 567) hx hb d_La_law_29 (by decide) (fun _ => ?_) (fun c161 => absurd (by decide) c161)
          refine lv_iconst (v := 1) hx hb d_La_law_567 (by decide) ?_
          refine va_forget (fun q h => by rw [← hNe]; exact hAN _ (hS.2.2 q h)) ?_
          refine W.widen (k := 600002) (n := 7302232) (Nat.le_of_ble_eq_true rfl) (Nat.le_of_ble_eq_true rfl) ?_
          exact lw_ret hx hb hr hlocks d_La_law_568
    · refine lv_tableIn (tgt := 536) hx hb d_La_law_39 (by decide) (by decide) (off := 497) rfl (by decide) ?_
      refine lv_aload_n hx hb d_La_law_536 rfl (lv_at hl 3 rfl) ?_
      refine lv_aload_n hx hb d_La_law_537 rfl (lv_at hl 4 rfl) ?_
      refine lv_iload hx hb d_La_law_538 (lv_at hl 0 rfl) ?_
      refine lv_iconst (v := 1) hx hb d_La_law_540 (by decide) ?_
      refine lv_iadd hx hb d_La_law_541 ?_
      refine W.eq (g2 := F0 m 542 ls [.int 1, .ref b, .ref q1]) rfl ?_
      refine va_sld hx hb hX hbl hbA hS (i := 1) (by unfold vp_in; decide) d_La_law_542 ?_
      refine W.eq (g2 := F0 m 543 ls [.int (xs 1), .ref q1]) (by rw [show Int32.toNatClampNeg (1 : Int32) = 1 from by decide]) ?_
      have hPc := hP.sub (ws' := [(q1, .inr (5, [.ref q2, .ref q5, .int (-1)])), (q5, .inr (2, [.ref q6, .ref q7, .ref q8, .ref q10, .ref q12, .ref q13, .ref q14, .int 0, .int 0, .int 0, .long 0])), (q8, .inr (4, [.ref q9, .int 0])), (q10, .inr (4, [.ref q11, .int 0])), (q12, .inr (0, [.ref (z 0), .int 0, .int 0])), (q13, .inr (0, [.ref (z 0), .int 0, .int 0]))]) [1, 2, 11, 12, 13, 14] rfl
      have hDc := hD.sub (ws' := [(q1, .inr (5, [.ref q2, .ref q5, .int (-1)])), (q5, .inr (2, [.ref q6, .ref q7, .ref q8, .ref q10, .ref q12, .ref q13, .ref q14, .int 0, .int 0, .int 0, .long 0])), (q8, .inr (4, [.ref q9, .int 0])), (q10, .inr (4, [.ref q11, .int 0])), (q12, .inr (0, [.ref (z 0), .int 0, .int 0])), (q13, .inr (0, [.ref (z 0), .int 0, .int 0]))]) [1, 2, 11, 12, 13, 14] (by decide) rfl
      have hFc := va_free (wc := [(q1, .inr (5, [.ref q2, .ref q5, .int (-1)])), (q5, .inr (2, [.ref q6, .ref q7, .ref q8, .ref q10, .ref q12, .ref q13, .ref q14, .int 0, .int 0, .int 0, .long 0])), (q8, .inr (4, [.ref q9, .int 0])), (q10, .inr (4, [.ref q11, .int 0])), (q12, .inr (0, [.ref (z 0), .int 0, .int 0])), (q13, .inr (0, [.ref (z 0), .int 0, .int 0]))]) hD hS hA [1, 2, 11, 12, 13, 14] rfl
      refine va_calli (va_runV (As := [.int (xs 1)]) (rest := []) ⟨hx, hb, hml, hown, hts⟩ (c_CM_count l dC dI ar N0 z q1 q2 q5 q6 q7 q8 q10 q12 q13 q14 q9 q11 ((z 0)) ((z 0)) (xs 1) H.size) (cwV 1 hts (x_goodV k_204 k_205 k_206 k_1 k_207) rfl rfl rfl (by decide +kernel) ⟨Nat.le_of_ble_eq_true rfl, Nat.le_of_ble_eq_true rfl⟩) ⟨x_blind, va_recv hK hPc (ci := 5) (q0 := 0) rfl rfl, fun U hU9 hW => x_pre hU9 hW hPc hDc hU hZ hS hAN hN0⟩ rfl rfl hl.1 rfl (lv_room (Nat.le_of_ble_eq_true rfl)) d_La_law_543 ⟨Nat.le_of_ble_eq_true rfl, Nat.le_of_ble_eq_true rfl⟩) hS (fun q _ h => hFc q h) hFc (fun r162 u163 t H1 locs ht hvm hw hB hz1 hk1 hS => ?_)
      have hP1 : va_P (dC, dI) x_cl [] t.heap := fun k q h => by simp at h
      have hD1 : va_D (va_A [(q1, .inr (5, [.ref q2, .ref q5, .int (-1)])), (q5, .inr (2, [.ref q6, .ref q7, .ref q8, .ref q10, .ref q12, .ref q13, .ref q14, .int 0, .int 0, .int 0, .long 0])), (q8, .inr (4, [.ref q9, .int 0])), (q10, .inr (4, [.ref q11, .int 0])), (q12, .inr (0, [.ref (z 0), .int 0, .int 0])), (q13, .inr (0, [.ref (z 0), .int 0, .int 0]))] H.size) [] := ⟨fun i j p q h => by simp at h, fun k q h => by simp at h⟩
      rw [ht] at hP1
      obtain ⟨hP, hD⟩ := va_join (wr := [(q50, .inl (ar 2, 1, .inr (.inl (fun _ => 0)))), (q6, .inl (ar 0, 6, .inl (fun _ => 0))), (q7, .inl (ar 4, 6, .inr (.inr (.inr (.inr g))))), (q15, .inr (1, [.null, .null, .int (-1), .null])), (q16, .inr (1, [.null, .null, .int (-1), .null])), (q17, .inr (1, [.null, .null, .int (-1), .null])), (q18, .inr (1, [.null, .null, .int (-1), .null])), (q19, .inr (1, [.null, .null, .int (-1), .null])), (q20, .inr (1, [.null, .null, .int (-1), .null])), (q2, .inr (3, [.ref q3, .ref q4, .int 0, .int 0, .int 0, .int 0, .int 0, .int 0, .null])), (q3, .inl (ar 1, 72, .inl (fun _ => 0))), (q21, .inr (6, fs)), (q25, .inl (ar 0, 6, .inl (fun _ => 0))), (q22, .inl (ar 0, 72, .inl (fun _ => 0)))]) (w1 := []) hP hD [1, 2, 11, 12, 13, 14] [0, 3, 4, 5, 6, 7, 8, 9, 10, 15, 16, 17, 18, 19] rfl rfl (by decide) (by decide) hk1 hFc hP1 hD1
      generalize H1 = H at hP hS ⊢
      have hP : va_P (dC, dI) x_cl [(q50, .inl (ar 2, 1, .inr (.inl (fun _ => 0)))), (q6, .inl (ar 0, 6, .inl (fun _ => 0))), (q7, .inl (ar 4, 6, .inr (.inr (.inr (.inr g))))), (q15, .inr (1, [.null, .null, .int (-1), .null])), (q16, .inr (1, [.null, .null, .int (-1), .null])), (q17, .inr (1, [.null, .null, .int (-1), .null])), (q18, .inr (1, [.null, .null, .int (-1), .null])), (q19, .inr (1, [.null, .null, .int (-1), .null])), (q20, .inr (1, [.null, .null, .int (-1), .null])), (q2, .inr (3, [.ref q3, .ref q4, .int 0, .int 0, .int 0, .int 0, .int 0, .int 0, .null])), (q3, .inl (ar 1, 72, .inl (fun _ => 0))), (q21, .inr (6, fs)), (q25, .inl (ar 0, 6, .inl (fun _ => 0))), (q22, .inl (ar 0, 72, .inl (fun _ => 0)))] H := hP
      have hD : va_D A [(q50, .inl (ar 2, 1, .inr (.inl (fun _ => 0)))), (q6, .inl (ar 0, 6, .inl (fun _ => 0))), (q7, .inl (ar 4, 6, .inr (.inr (.inr (.inr g))))), (q15, .inr (1, [.null, .null, .int (-1), .null])), (q16, .inr (1, [.null, .null, .int (-1), .null])), (q17, .inr (1, [.null, .null, .int (-1), .null])), (q18, .inr (1, [.null, .null, .int (-1), .null])), (q19, .inr (1, [.null, .null, .int (-1), .null])), (q20, .inr (1, [.null, .null, .int (-1), .null])), (q2, .inr (3, [.ref q3, .ref q4, .int 0, .int 0, .int 0, .int 0, .int 0, .int 0, .null])), (q3, .inl (ar 1, 72, .inl (fun _ => 0))), (q21, .inr (6, fs)), (q25, .inl (ar 0, 6, .inl (fun _ => 0))), (q22, .inl (ar 0, 72, .inl (fun _ => 0)))] := hD
      refine W.widen (k := 50) (n := 4327) (Nat.le_of_ble_eq_true rfl) (Nat.le_of_ble_eq_true rfl) ?_
      obtain rfl := hw
      refine lv_aload_n hx hb d_La_law_546 rfl (lv_at hl 2 rfl) ?_
      refine lv_aload_n hx hb d_La_law_547 rfl (lv_at hl 4 rfl) ?_
      refine lv_iload hx hb d_La_law_548 (lv_at hl 0 rfl) ?_
      refine lv_iconst (v := 1) hx hb d_La_law_550 (by decide) ?_
      refine lv_iadd hx hb d_La_law_551 ?_
      refine W.eq (g2 := F0 m 552 ls [.int 1, .ref b, .ref q21, .int (x_cnt (xs 1))]) rfl ?_
      refine va_sld hx hb hX hbl hbA hS (i := 1) (by unfold vp_in; decide) d_La_law_552 ?_
      refine W.eq (g2 := F0 m 553 ls [.int (xs 1), .ref q21, .int (x_cnt (xs 1))]) (by rw [show Int32.toNatClampNeg (1 : Int32) = 1 from by decide]) ?_
      have hPc := hP.sub (ws' := [(q21, .inr (6, fs))]) [11] rfl
      have hDc := hD.sub (ws' := [(q21, .inr (6, fs))]) [11] (by decide) rfl
      have hFc := va_free (wc := [(q21, .inr (6, fs))]) hD hS hA [11] rfl
      refine va_calli (va_runV (As := [.int (xs 1)]) (rest := [.int (x_cnt (xs 1))]) ⟨hx, hb, hml, hown, hts⟩ (c_Mo_count l dC dI ar N0 z q21  fs (xs 1) H.size hfs g_place g_status g_acts g_time g_given g_boxed) (cwV 1 hts (x_goodV k_1286 k_1287 k_1288 k_9 k_1289) rfl rfl rfl (by decide +kernel) ⟨Nat.le_of_ble_eq_true rfl, Nat.le_of_ble_eq_true rfl⟩) ⟨x_blind, va_recv hK hPc (ci := 6) (q0 := 0) rfl rfl, fun U hU9 hW => x_pre hU9 hW hPc hDc hU hZ hS hAN hN0⟩ rfl rfl hl.1 rfl (lv_room (Nat.le_of_ble_eq_true rfl)) d_La_law_553 ⟨Nat.le_of_ble_eq_true rfl, Nat.le_of_ble_eq_true rfl⟩) hS (fun q _ h => hFc q h) hFc (fun r164 u165 t H1 locs ht hvm hw hB hz1 hk1 hS => ?_)
      obtain ⟨fz, hP1, hD1, hfz⟩ := hB
      rw [ht] at hP1
      obtain ⟨hP, hD⟩ := va_join (wr := [(q50, .inl (ar 2, 1, .inr (.inl (fun _ => 0)))), (q6, .inl (ar 0, 6, .inl (fun _ => 0))), (q7, .inl (ar 4, 6, .inr (.inr (.inr (.inr g))))), (q15, .inr (1, [.null, .null, .int (-1), .null])), (q16, .inr (1, [.null, .null, .int (-1), .null])), (q17, .inr (1, [.null, .null, .int (-1), .null])), (q18, .inr (1, [.null, .null, .int (-1), .null])), (q19, .inr (1, [.null, .null, .int (-1), .null])), (q20, .inr (1, [.null, .null, .int (-1), .null])), (q2, .inr (3, [.ref q3, .ref q4, .int 0, .int 0, .int 0, .int 0, .int 0, .int 0, .null])), (q3, .inl (ar 1, 72, .inl (fun _ => 0))), (q25, .inl (ar 0, 6, .inl (fun _ => 0))), (q22, .inl (ar 0, 72, .inl (fun _ => 0)))]) (w1 := [(q21, .inr (6, fz))]) hP hD [11] [0, 1, 2, 3, 4, 5, 6, 7, 8, 9, 10, 12, 13] rfl rfl (by decide) (by decide) hk1 hFc hP1 hD1
      generalize H1 = H at hP hS ⊢
      have hP : va_P (dC, dI) x_cl [(q50, .inl (ar 2, 1, .inr (.inl (fun _ => 0)))), (q6, .inl (ar 0, 6, .inl (fun _ => 0))), (q7, .inl (ar 4, 6, .inr (.inr (.inr (.inr g))))), (q15, .inr (1, [.null, .null, .int (-1), .null])), (q16, .inr (1, [.null, .null, .int (-1), .null])), (q17, .inr (1, [.null, .null, .int (-1), .null])), (q18, .inr (1, [.null, .null, .int (-1), .null])), (q19, .inr (1, [.null, .null, .int (-1), .null])), (q20, .inr (1, [.null, .null, .int (-1), .null])), (q2, .inr (3, [.ref q3, .ref q4, .int 0, .int 0, .int 0, .int 0, .int 0, .int 0, .null])), (q3, .inl (ar 1, 72, .inl (fun _ => 0))), (q25, .inl (ar 0, 6, .inl (fun _ => 0))), (q22, .inl (ar 0, 72, .inl (fun _ => 0))), (q21, .inr (6, fz))] H := hP
      have hD : va_D A [(q50, .inl (ar 2, 1, .inr (.inl (fun _ => 0)))), (q6, .inl (ar 0, 6, .inl (fun _ => 0))), (q7, .inl (ar 4, 6, .inr (.inr (.inr (.inr g))))), (q15, .inr (1, [.null, .null, .int (-1), .null])), (q16, .inr (1, [.null, .null, .int (-1), .null])), (q17, .inr (1, [.null, .null, .int (-1), .null])), (q18, .inr (1, [.null, .null, .int (-1), .null])), (q19, .inr (1, [.null, .null, .int (-1), .null])), (q20, .inr (1, [.null, .null, .int (-1), .null])), (q2, .inr (3, [.ref q3, .ref q4, .int 0, .int 0, .int 0, .int 0, .int 0, .int 0, .null])), (q3, .inl (ar 1, 72, .inl (fun _ => 0))), (q25, .inl (ar 0, 6, .inl (fun _ => 0))), (q22, .inl (ar 0, 72, .inl (fun _ => 0))), (q21, .inr (6, fz))] := hD
      refine W.widen (k := 50) (n := 4327) (Nat.le_of_ble_eq_true rfl) (Nat.le_of_ble_eq_true rfl) ?_
      obtain rfl := hw
      refine lv_icmp_eq (tgt := 561) hx hb d_La_law_556 (by decide) (fun _ => ?_) (fun c166 => absurd rfl c166)
      refine lv_iinc (v := 3) (lv' := [(4, .int 3), (3, .ref q50), (2, .ref q21), (1, .ref q1), (0, .ref b)]) hx hb d_La_law_561 hl (k := 0) rfl (by decide) (by decide) rfl (fun ls hl => ?_)
      refine lv_goto (tgt := 23) hx hb d_La_law_564 (by decide) ?_
      refine lv_iload hx hb d_La_law_23 (lv_at hl 0 rfl) ?_
      refine lv_aload_n hx hb d_La_law_25 rfl (lv_at hl 4 rfl) ?_
      refine va_slen hx hb hX hbl hbA hS d_La_law_26 ?_
      refine lv_iconst (v := 3) hx hb d_La_law_27 (by decide) ?_
      refine lv_isub hx hb d_La_law_28 ?_
      refine W.eq (g2 := F0 m 29 ls [.int 0, .int 3]) (by rw [show (Int32.ofNat 3 - 3 : Int32) = 0 from by decide]) ?_
      refine lv_icmp_gt (tgt := 567) hx hb d_La_law_29 (by decide) (fun _ => ?_) (fun c167 => absurd (by decide) c167)
      refine lv_iconst (v := 1) hx hb d_La_law_567 (by decide) ?_
      refine va_forget (fun q h => by rw [← hNe]; exact hAN _ (hS.2.2 q h)) ?_
      refine W.widen (k := 600002) (n := 7302232) (Nat.le_of_ble_eq_true rfl) (Nat.le_of_ble_eq_true rfl) ?_
      exact lw_ret hx hb hr hlocks d_La_law_568
-- ===== YOUR PART ENDS =====
set_option maxHeartbeats 4000000 in
theorem lw_walk (l : Launch) (hst : l.stackTraces = false) (b : Addr) (xs : List Int32) : MetFree l x (headSpec (Jvm.Cond.code x code maxLocals ret :: tables_1) room_1) (lw_P b xs) (fun _ _ _ _ _ => True) lw_Q := by
  refine MetFree.of_bodyS (code := code) (maxLocals := maxLocals) (ret := ret) (by decide) ?_ ?_
  · intro args s m h hn
    obtain ⟨meth, c, h1, h2, h3, h4, h5, h6, -, -⟩ := Cond.code_spec hn (atoms_spec (ws := Jvm.Cond.code x code maxLocals ret :: tables_1) h _ List.mem_cons_self)
    exact ⟨meth, c, h1, h2, h3, h4, h5, h6⟩
  · intro p e s m args below meth c s₁ B hml0 hP _
    obtain ⟨rfl, hx, hbd, hgv⟩ := hP
    obtain ⟨scr, harrAt, hlist, hof, hsmall⟩ := hx
    obtain ⟨hcb, hkn, -, -⟩ := State.arrayAt?_spec harrAt
    have hown : s.vm.findClass R_law = some m.cls := findClass_of_methodNamed B.named
    have hts0 : ∀ c ∈ (Jvm.Cond.code x code maxLocals ret :: tables_1), c.before #[Value.ref b] s = true := atoms_spec (ws := Jvm.Cond.code x code maxLocals ret :: tables_1) B.pre
    have hts : ∀ w ∈ lw_tbl, w.before #[Value.ref b] s = true := k2_hts_sels lw_privs (fun w hw => hts0 w (List.mem_cons_of_mem _ hw)) lw_privs_ok
    have hml : c.maxLocals = 7 := B.maxLocals_eq (hts0 _ List.mem_cons_self)
    have X₀ : Stand p l e room_1 s m #[Value.ref b] below meth c s₁ [] 0 0 := Stand.of_body B
    have hh0 : s₁.heap = s.heap := by rw [B.state]; rfl
    have hsz : scr.slots.size = xs.length := by rw [← Array.length_toList, hlist, List.length_map]
    have hval : ∀ j : Nat, j < xs.length → scr.slots[j]? = some (.int (xs.getD j 0)) := fun j hj => by
      rw [← Array.getElem?_toList, hlist]
      simp [hj]
    have hbl : b < s.heap.size := (Array.getElem?_eq_some_iff.mp hcb).1
    have hX : va_X b xs.length (fun j => xs.getD j 0) s s.heap := ⟨scr, hcb, hof, hkn, hsz, hval⟩
    have K : W p l e room_1 s m #[Value.ref b] below meth c s₁.heap [] 0 0 (lw_Z below #[Value.ref b] s) (entryFrame m ([Value.ref b] : List Value).toArray 7) := by
      rw [hh0]
      exact whole_start l hst hbd ⟨B.exec, B.bytes, B.returns, hml, hown, hts, hX, hbl, B.notSynchronized, hgv⟩
    obtain ⟨t, a1, o, b1, b2, b3⟩ := K s₁ rfl X₀
    exact ⟨t, o, a1, b1, b2, b3⟩
theorem lw_pre_spec {args : Array Value} {s : State} (h : (Jvm.Cond.and given_1 narrow_1).before args s = true) (hr : rest_1_c.before args s = true) : ∃ (b : Addr) (xs : List Int32), lw_P b xs args s := by
  have hs := flat_of_before _ h
  have hq := flat_of_before _ hr
  have hc : (Cond.count 1).before args s = true := hs _ (by decide +kernel)
  have harr : (Cond.arrayOf (.arg 0) .int).before args s = true := hs _ (by decide +kernel)
  have hle : (Cond.le (.length (.arg 0)) (.int 3)).before args s = true := hs _ (by decide +kernel)
  have hlen : (Cond.isInt (.length (.arg 0))).before args s = true := hq _ (by decide +kernel)
  have hall : (Cond.all (.arg 0) (.isInt (.elem (.arg 0) (.index 0)))).before args s = true := hq _ (by decide +kernel)
  obtain ⟨b, xs, hb, hx⟩ := State.ints_of_pre rfl harr hlen hall
  have hsm : xs.length < 2 ^ 31 := hx.choose_spec.2.2.2
  have hev : (Term.length (.arg 0)).eval args s none [] s = some (.int xs.length.toInt32) := hx.length_eval hb
  have hv := Cond.le_ints hev (show (Term.int 3).eval args s none [] s = some (.int 3) from rfl)
  have hd : xs.length.toInt32 ≤ 3 := by
    simpa [Cond.before, Cond.holds, hv] using hle
  have hN : xs.length ≤ 3 := (Int32.ofNat_le_ofNat hsm (by decide)).mp (show Int32.ofNat xs.length ≤ Int32.ofNat 3 from hd)
  exact ⟨b, xs, Cond.one_arg hc (show args[0]? = some (.ref b) from hb), hx, hN, h⟩
theorem lw_comes (l : Launch) (hst : l.stackTraces = false) : Comes l x (Jvm.Cond.code x code maxLocals ret :: tables_1) room_1 (fun tb e args s => Calls_1 tb e args s ∧ rest_1 tb e args s ∧ Pre_1 tb e args s)
    (fun _ _ args s o t => lw_Q args s o t) := by
  intro p e ha hc hk s m args below hf hfit hheap happ hpre
  obtain ⟨b, xs, hP⟩ := lw_pre_spec hpre.2.2 hpre.2.1
  obtain ⟨k, o, h1, h2, h3, hQ⟩ := lw_walk l hst b xs p e ha hc hk s m args below hf ((Spec.applies_iff_loose hf).mp happ).1 hP trivial
  exact ⟨k, o, h1, h2, h3, hQ⟩
theorem lw_frame {s t : State} {o : Outcome} {args : Array Value} (h : Framed s o t [] 600002 7302232) :
    Framed s o t (fieldLocs frame_1_writes args s ++ arrayLocs frame_1_arrays args s ++ staticLocs frame_1_statics s) 600002 7302232 := h
theorem lw_limb (L : Cond) (hL : ∀ (args : Array Value) (s t : State), L.after args s (.returned (some (.int 1))) t = true) :
    ArmFor flags0 classFile x code maxLocals ret World_1 tables_1 room_1 Calls_1 rest_1 Pre_1
      (fun tb e a s o t => postC L tb e a s o t ∧ Framed s o t (fieldLocs frame_1_writes a s ++ arrayLocs frame_1_arrays a s ++ staticLocs frame_1_statics s) 600002 7302232) := by
  intro l hfl _ _ p e ha hc hk s m args below hf hfit hheap happ hpre
  have hst : l.stackTraces = false := by unfold Launch.stackTraces; rw [hfl]; decide +kernel
  obtain ⟨k, o, h1, h2, h3, rfl, hF⟩ := lw_comes l hst p e ha hc hk s m args below hf hfit hheap happ hpre
  exact ⟨k, _, h1, h2, h3, hL args s _, lw_frame hF⟩
theorem i_vc : Claimed_1_1 ∧ Claimed_1_2 := ⟨lw_limb limb_1_1 (fun args s t => by simp [limb_1_1, Cond.after, Cond.holds, Cond.value]), lw_limb limb_1_2 (fun args s t => Cond.after_iff.mpr (by
  first | (rw [show limb_1_2 = Cond.eq .result (.int 1) from rfl, Cond.eq_ints (x := 1) (y := 1) rfl rfl]; simp; done) | (simp [limb_1_2, Cond.value, Term.eval]; done)))⟩
